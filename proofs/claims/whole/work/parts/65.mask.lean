section MA
/-- refusals of one and of two checks: the code, and which count goes up; the memory behind one; what the model's calls leave -/
def rf1 (p : Prop) (a : Nat) (k : Int) (q : Nat) : Prop := ¬ p ∧ k = 1 ∧ q = a
def rf2 (p1 p2 : Prop) (a b : Nat) (k : Int) (q : Nat) : Prop := (¬ p1 ∧ k = 1 ∧ q = a) ∨ (p1 ∧ ¬ p2 ∧ k = 2 ∧ q = b)
def mrf (m : xM) (k : Int) (q : Nat) : xM := xu (xu m 96 0 k) 97 q (m 97 q + 1)
def moR (rf : Int → Nat → Prop) (ok : Prop) (R : Int → Prop) (S : List Nat) (m m' : xM) (r : Int) : Prop :=
  (∃ k q, rf k q ∧ m' = mrf (xu m 96 0 0) k q) ∨ (ok ∧ R r ∧ ag S (xu m 96 0 0) m')
theorem fiR.t {p : Prop} {c r : Int} {k : Nat} {m m' : xM} (h : fiR p c k m m' r) (hr : ¬ r = 0) : p ∧ m' = m := by
  rcases h with ⟨a, b, c⟩ | ⟨a, b, c⟩
  · exact ⟨a, c⟩
  · exact absurd b hr
theorem fiR.f {p : Prop} {c r : Int} {k : Nat} {m m' : xM} (h : fiR p c k m m' r) (hr : r = 0) : ¬ p ∧ m' = mrf m c k := by
  rcases h with ⟨a, b, c⟩ | ⟨a, b, c⟩
  · omega
  · exact ⟨a, c⟩
theorem fiR.r {p : Prop} {c r : Int} {k : Nat} {m m' : xM} (h : fiR p c k m m' r) : -2147483648 ≤ r ∧ r ≤ 2147483647 := by
  rcases h with ⟨a, b, c⟩ | ⟨a, b, c⟩ <;> omega
theorem th_0 {m : xM} : xu m 96 0 0 96 0 = 0 := by rw [xu_if, if_pos rfl]
theorem mN.z {v : Nat → Int} {m : xM} (h : mN v m) {z : Int} : mN v (xu m 96 0 z) := h.ag (ag.u (S := [96]) ag.rf (by decide)) (by decide)
theorem nat_of {x : Int} (h : 0 ≤ x) : ∃ s : Nat, x = (s : Int) := ⟨x.toNat, by omega⟩
set_option maxRecDepth 20000 in
theorem s_mwave {E : xE} {f : Nat → Nat} {D : Nat → Nat × Nat} {n : Nat} {m : xM} {P : xPo} {PX : xPx} {v : Nat → Int} {x y : Int} (hv : vOk v) (hN : mN v m) (hx : -2147483648 ≤ x ∧ x ≤ 2147483647) (hy : -2147483648 ≤ y ∧ y ≤ 2147483647) (hP : ∀ m' r, moR (rf2 (0 ≤ x ∧ x < v 3) (0 ≤ y ∧ y ≤ 2) 0 1) ((0 ≤ x ∧ x < v 3) ∧ (0 ≤ y ∧ y ≤ 2)) (fun r => r = wv v x.toNat y.toNat) [] m m' r → P (some (vi r)) (gS f D n) m') : xC E (yX6_wave, cX6_wave, 3, some .int) 1 0 0 [vr E 96, vi x, vi y] (gS f D n) m P PX := by
  refine x_enter (by decide) rfl rfl (Nat.le_of_ble_eq_true rfl) ?_
  have hv5 := hv.1.2.2.2.2.2.1
  have hv4 := hv.1.2.2.2.2.1.1
  have hv3 := hv.1.2.2.2.1.1
  refine x_aload_n dX6_wave_0 rfl ?_
  refine x_iconst dX6_wave_1 ?_
  refine x_putI fX6_1 dX6_wave_2 rfl (by decide) rfl rfl ?_
  refine x_aload_n dX6_wave_5 rfl ?_
  refine x_iload_n dX6_wave_6 rfl ?_
  refine x_i2l dX6_wave_7 (by omega) ?_
  refine x_lconst0 dX6_wave_8 ?_
  refine x_aload_n dX6_wave_9 rfl ?_
  refine x_getR (r := 98) fX6_17 dX6_wave_10 rfl rfl ?_
  refine x_iconst dX6_wave_13 ?_
  refine x_iald (j := 3) dX6_wave_14 rfl rfl (show 3 < 709 by omega) (by omega) ?_
  refine x_top (hN.z 3 (by omega)) ?_
  refine x_iconst dX6_wave_15 ?_
  refine x_isub dX6_wave_16 ?_
  refine x_i2l dX6_wave_17 (by omega) ?_
  refine x_S3 mX6_122 dX6_wave_18 (s_lies (by omega) ?_)
  refine x_top (zi_c (show (0 ≤ x ∧ x ≤ v 3 - 1) ↔ (0 ≤ x ∧ x < v 3) by omega)) ?_
  refine x_iconst dX6_wave_21 ?_
  refine x_iconst dX6_wave_22 ?_
  refine x_V3 mX6_196 dX6_wave_23 rfl (s_isFine (p := 0 ≤ x ∧ x < v 3) (c := 1) (k := 0) th_0 (by omega) (by omega) (fun m1 r1 hf1 => ?_))
  refine x_if_eq (tgt := 47) dX6_wave_26 (by decide) hf1.r (fun h26 => ?_) (fun h26 => ?_)
  · obtain ⟨hp1, rfl⟩ := hf1.f h26
    refine x_iconst dX6_wave_47 ?_
    exact x_iret dX6_wave_48  (hP _ 0 (Or.inl ⟨1, _, Or.inl ⟨hp1, rfl, rfl⟩, rfl⟩))
  · obtain ⟨hp1, rfl⟩ := hf1.t h26
    refine x_aload_n dX6_wave_29 rfl ?_
    refine x_iload_n dX6_wave_30 rfl ?_
    refine x_i2l dX6_wave_31 (by omega) ?_
    refine x_lconst0 dX6_wave_32 ?_
    refine x_ldc2_w kX6_330 dX6_wave_33 ?_
    refine x_S3 mX6_122 dX6_wave_36 (s_lies (by omega) ?_)
    refine x_iconst dX6_wave_39 ?_
    refine x_iconst dX6_wave_40 ?_
    refine x_V3 mX6_196 dX6_wave_41 rfl (s_isFine (p := 0 ≤ y ∧ y ≤ 2) (c := 2) (k := 1) th_0 (by omega) (by omega) (fun m2 r2 hf2 => ?_))
    refine x_if_ne (tgt := 49) dX6_wave_44 (by decide) hf2.r (fun h44 => ?_) (fun h44 => ?_)
    · obtain ⟨hp2, rfl⟩ := hf2.t h44
      obtain ⟨w, rfl⟩ := nat_of hp1.1
      obtain ⟨j, rfl⟩ := nat_of hp2.1
      refine x_aload_n dX6_wave_49 rfl ?_
      refine x_getR (r := 98) fX6_17 dX6_wave_50 rfl rfl ?_
      refine x_bipush dX6_wave_53 (h := ?_)
      refine x_iconst dX6_wave_55 ?_
      refine x_iload_n dX6_wave_56 rfl ?_
      refine x_imul dX6_wave_57 ?_
      refine x_iadd dX6_wave_58 ?_
      refine x_iload_n dX6_wave_59 rfl ?_
      refine x_iadd dX6_wave_60 ?_
      refine x_iald (j := 6 + 3 * w + j) dX6_wave_61 rfl (by omega) (show _ < 709 by omega) (by omega) ?_
      refine x_top (hN.z.w (w := w) (j := j) (by omega) (by omega)) ?_
      exact x_iret dX6_wave_62  (hP _ _ (Or.inr ⟨⟨hp1, hp2⟩, rfl, ag.rf⟩))
    · obtain ⟨hp2, rfl⟩ := hf2.f h44
      refine x_iconst dX6_wave_47 ?_
      exact x_iret dX6_wave_48  (hP _ 0 (Or.inl ⟨2, _, Or.inr ⟨hp1, hp2, rfl, rfl⟩, rfl⟩))

set_option maxRecDepth 20000 in
theorem s_mbar {E : xE} {f : Nat → Nat} {D : Nat → Nat × Nat} {n : Nat} {m : xM} {P : xPo} {PX : xPx} {v : Nat → Int} {x y : Int} (hv : vOk v) (hN : mN v m) (hx : -2147483648 ≤ x ∧ x ≤ 2147483647) (hy : -2147483648 ≤ y ∧ y ≤ 2147483647) (hP : ∀ m' r, moR (rf2 (0 ≤ x ∧ x < v 4) (0 ≤ y ∧ y ≤ 5) 0 1) ((0 ≤ x ∧ x < v 4) ∧ (0 ≤ y ∧ y ≤ 5)) (fun r => r = br v x.toNat y.toNat) [] m m' r → P (some (vi r)) (gS f D n) m') : xC E (yX6_bar, cX6_bar, 3, some .int) 2 0 0 [vr E 96, vi x, vi y] (gS f D n) m P PX := by
  refine x_enter (by decide) rfl rfl (Nat.le_of_ble_eq_true rfl) ?_
  have hv5 := hv.1.2.2.2.2.2.1
  have hv4 := hv.1.2.2.2.2.1.1
  have hv3 := hv.1.2.2.2.1.1
  refine x_aload_n dX6_bar_0 rfl ?_
  refine x_iconst dX6_bar_1 ?_
  refine x_putI fX6_1 dX6_bar_2 rfl (by decide) rfl rfl ?_
  refine x_aload_n dX6_bar_5 rfl ?_
  refine x_aload_n dX6_bar_6 rfl ?_
  refine x_iload_n dX6_bar_7 rfl ?_
  refine x_V1 mX6_290 dX6_bar_8 rfl (s_isBar hv hN.z hx ?_)
  refine x_iconst dX6_bar_11 ?_
  refine x_iconst dX6_bar_12 ?_
  refine x_V3 mX6_196 dX6_bar_13 rfl (s_isFine (p := 0 ≤ x ∧ x < v 4) (c := 1) (k := 0) th_0 (by omega) (by omega) (fun m1 r1 hf1 => ?_))
  refine x_if_eq (tgt := 37) dX6_bar_16 (by decide) hf1.r (fun h16 => ?_) (fun h16 => ?_)
  · obtain ⟨hp1, rfl⟩ := hf1.f h16
    refine x_iconst dX6_bar_37 ?_
    exact x_iret dX6_bar_38  (hP _ 0 (Or.inl ⟨1, _, Or.inl ⟨hp1, rfl, rfl⟩, rfl⟩))
  · obtain ⟨hp1, rfl⟩ := hf1.t h16
    refine x_aload_n dX6_bar_19 rfl ?_
    refine x_iload_n dX6_bar_20 rfl ?_
    refine x_i2l dX6_bar_21 (by omega) ?_
    refine x_lconst0 dX6_bar_22 ?_
    refine x_ldc2_w kX6_332 dX6_bar_23 ?_
    refine x_S3 mX6_122 dX6_bar_26 (s_lies (by omega) ?_)
    refine x_iconst dX6_bar_29 ?_
    refine x_iconst dX6_bar_30 ?_
    refine x_V3 mX6_196 dX6_bar_31 rfl (s_isFine (p := 0 ≤ y ∧ y ≤ 5) (c := 2) (k := 1) th_0 (by omega) (by omega) (fun m2 r2 hf2 => ?_))
    refine x_if_ne (tgt := 39) dX6_bar_34 (by decide) hf2.r (fun h34 => ?_) (fun h34 => ?_)
    · obtain ⟨hp2, rfl⟩ := hf2.t h34
      obtain ⟨w, rfl⟩ := nat_of hp1.1
      obtain ⟨j, rfl⟩ := nat_of hp2.1
      refine x_aload_n dX6_bar_39 rfl ?_
      refine x_iload_n dX6_bar_40 rfl ?_
      refine x_iload_n dX6_bar_41 rfl ?_
      refine x_V2 mX6_222 dX6_bar_42 rfl (s_ofBar (24 + 6 * w + j) (by omega) (by omega) ?_)
      refine x_top (hN.z.b (b := w) (j := j) (by omega) (by omega)) ?_
      exact x_iret dX6_bar_45  (hP _ _ (Or.inr ⟨⟨hp1, hp2⟩, rfl, ag.rf⟩))
    · obtain ⟨hp2, rfl⟩ := hf2.f h34
      refine x_iconst dX6_bar_37 ?_
      exact x_iret dX6_bar_38  (hP _ 0 (Or.inl ⟨2, _, Or.inr ⟨hp1, hp2, rfl, rfl⟩, rfl⟩))

set_option maxRecDepth 20000 in
theorem s_mship {E : xE} {f : Nat → Nat} {D : Nat → Nat × Nat} {n : Nat} {m : xM} {P : xPo} {PX : xPx} {v : Nat → Int} {x y : Int} (hv : vOk v) (hN : mN v m) (hx : -2147483648 ≤ x ∧ x ≤ 2147483647) (hy : -2147483648 ≤ y ∧ y ≤ 2147483647) (hP : ∀ m' r, moR (rf2 (0 ≤ x ∧ x < v 5) (0 ≤ y ∧ y ≤ 7) 0 1) ((0 ≤ x ∧ x < v 5) ∧ (0 ≤ y ∧ y ≤ 7)) (fun r => r = sh v x.toNat y.toNat) [] m m' r → P (some (vi r)) (gS f D n) m') : xC E (yX6_ship, cX6_ship, 3, some .int) 2 0 0 [vr E 96, vi x, vi y] (gS f D n) m P PX := by
  refine x_enter (by decide) rfl rfl (Nat.le_of_ble_eq_true rfl) ?_
  have hv5 := hv.1.2.2.2.2.2.1
  have hv4 := hv.1.2.2.2.2.1.1
  have hv3 := hv.1.2.2.2.1.1
  refine x_aload_n dX6_ship_0 rfl ?_
  refine x_iconst dX6_ship_1 ?_
  refine x_putI fX6_1 dX6_ship_2 rfl (by decide) rfl rfl ?_
  refine x_aload_n dX6_ship_5 rfl ?_
  refine x_aload_n dX6_ship_6 rfl ?_
  refine x_iload_n dX6_ship_7 rfl ?_
  refine x_V1 mX6_300 dX6_ship_8 rfl (s_isShip hv hN.z hx ?_)
  refine x_iconst dX6_ship_11 ?_
  refine x_iconst dX6_ship_12 ?_
  refine x_V3 mX6_196 dX6_ship_13 rfl (s_isFine (p := 0 ≤ x ∧ x < v 5) (c := 1) (k := 0) th_0 (by omega) (by omega) (fun m1 r1 hf1 => ?_))
  refine x_if_eq (tgt := 37) dX6_ship_16 (by decide) hf1.r (fun h16 => ?_) (fun h16 => ?_)
  · obtain ⟨hp1, rfl⟩ := hf1.f h16
    refine x_iconst dX6_ship_37 ?_
    exact x_iret dX6_ship_38  (hP _ 0 (Or.inl ⟨1, _, Or.inl ⟨hp1, rfl, rfl⟩, rfl⟩))
  · obtain ⟨hp1, rfl⟩ := hf1.t h16
    refine x_aload_n dX6_ship_19 rfl ?_
    refine x_iload_n dX6_ship_20 rfl ?_
    refine x_i2l dX6_ship_21 (by omega) ?_
    refine x_lconst0 dX6_ship_22 ?_
    refine x_ldc2_w kX6_334 dX6_ship_23 ?_
    refine x_S3 mX6_122 dX6_ship_26 (s_lies (by omega) ?_)
    refine x_iconst dX6_ship_29 ?_
    refine x_iconst dX6_ship_30 ?_
    refine x_V3 mX6_196 dX6_ship_31 rfl (s_isFine (p := 0 ≤ y ∧ y ≤ 7) (c := 2) (k := 1) th_0 (by omega) (by omega) (fun m2 r2 hf2 => ?_))
    refine x_if_ne (tgt := 39) dX6_ship_34 (by decide) hf2.r (fun h34 => ?_) (fun h34 => ?_)
    · obtain ⟨hp2, rfl⟩ := hf2.t h34
      obtain ⟨w, rfl⟩ := nat_of hp1.1
      obtain ⟨j, rfl⟩ := nat_of hp2.1
      refine x_aload_n dX6_ship_39 rfl ?_
      refine x_iload_n dX6_ship_40 rfl ?_
      refine x_iload_n dX6_ship_41 rfl ?_
      refine x_V2 mX6_241 dX6_ship_42 rfl (s_ofShip (60 + 8 * w + j) (by omega) (by omega) ?_)
      refine x_top (hN.z.s (s := w) (j := j) (by omega) (by omega)) ?_
      exact x_iret dX6_ship_45  (hP _ _ (Or.inr ⟨⟨hp1, hp2⟩, rfl, ag.rf⟩))
    · obtain ⟨hp2, rfl⟩ := hf2.f h34
      refine x_iconst dX6_ship_37 ?_
      exact x_iret dX6_ship_38  (hP _ 0 (Or.inl ⟨2, _, Or.inr ⟨hp1, hp2, rfl, rfl⟩, rfl⟩))

set_option maxRecDepth 20000 in
theorem s_mheight {E : xE} {f : Nat → Nat} {D : Nat → Nat × Nat} {n : Nat} {m : xM} {P : xPo} {PX : xPx} {v : Nat → Int} {x : Int} (hv : vOk v) (hN : mN v m) (hx : -2147483648 ≤ x ∧ x ≤ 2147483647) (hP : ∀ m' r, moR (rf1 (0 ≤ x ∧ x ≤ 10000) 1) (0 ≤ x ∧ x ≤ 10000) (fun r => r = ht v x) [] m m' r → P (some (vi r)) (gS f D n) m') : xC E (yX6_height, cX6_height, 2, some .int) 3 0 0 [vr E 96, vi x] (gS f D n) m P PX := by
  refine x_enter (by decide) rfl rfl (Nat.le_of_ble_eq_true rfl) ?_
  refine x_aload_n dX6_height_0 rfl ?_
  refine x_iconst dX6_height_1 ?_
  refine x_putI fX6_1 dX6_height_2 rfl (by decide) rfl rfl ?_
  refine x_aload_n dX6_height_5 rfl ?_
  refine x_iload_n dX6_height_6 rfl ?_
  refine x_S1 mX6_336 dX6_height_7 (s_isMinute hx ?_)
  refine x_iconst dX6_height_10 ?_
  refine x_iconst dX6_height_11 ?_
  refine x_V3 mX6_196 dX6_height_12 rfl (s_isFine (p := 0 ≤ x ∧ x ≤ 10000) (c := 1) (k := 1) th_0 (by omega) (by omega) (fun m1 r1 hf1 => ?_))
  refine x_if_eq (tgt := 26) dX6_height_15 (by decide) hf1.r (fun h15 => ?_) (fun h15 => ?_)
  · obtain ⟨hp1, rfl⟩ := hf1.f h15
    refine x_iconst dX6_height_26 ?_
    exact x_iret dX6_height_27  (hP _ 0 (Or.inl ⟨1, _, ⟨hp1, rfl, rfl⟩, rfl⟩))
  · obtain ⟨hp1, rfl⟩ := hf1.t h15
    refine x_aload_n dX6_height_18 rfl ?_
    refine x_iload_n dX6_height_19 rfl ?_
    refine x_V1 mX6_225 dX6_height_20 rfl (s_heightIn hv.1 hN.z (by omega) ?_)
    refine x_goto (tgt := 27) dX6_height_23 (by decide) ?_
    exact x_iret dX6_height_27  (hP _ _ (Or.inr ⟨hp1, rfl, ag.rf⟩))

set_option maxRecDepth 20000 in
theorem s_mwater {E : xE} {f : Nat → Nat} {D : Nat → Nat × Nat} {n : Nat} {m : xM} {P : xPo} {PX : xPx} {v : Nat → Int} {x y : Int} (hv : vOk v) (hN : mN v m) (hx : -2147483648 ≤ x ∧ x ≤ 2147483647) (hy : -2147483648 ≤ y ∧ y ≤ 2147483647) (hP : ∀ m' r, moR (rf2 (0 ≤ x ∧ x < v 4) (0 ≤ y ∧ y ≤ 10000) 0 1) ((0 ≤ x ∧ x < v 4) ∧ (0 ≤ y ∧ y ≤ 10000)) (fun r => r = wa v x.toNat y) [] m m' r → P (some (vi r)) (gS f D n) m') : xC E (yX6_water, cX6_water, 3, some .int) 4 0 0 [vr E 96, vi x, vi y] (gS f D n) m P PX := by
  refine x_enter (by decide) rfl rfl (Nat.le_of_ble_eq_true rfl) ?_
  have hv5 := hv.1.2.2.2.2.2.1
  have hv4 := hv.1.2.2.2.2.1.1
  have hv3 := hv.1.2.2.2.1.1
  refine x_aload_n dX6_water_0 rfl ?_
  refine x_iconst dX6_water_1 ?_
  refine x_putI fX6_1 dX6_water_2 rfl (by decide) rfl rfl ?_
  refine x_aload_n dX6_water_5 rfl ?_
  refine x_aload_n dX6_water_6 rfl ?_
  refine x_iload_n dX6_water_7 rfl ?_
  refine x_V1 mX6_290 dX6_water_8 rfl (s_isBar hv hN.z hx ?_)
  refine x_iconst dX6_water_11 ?_
  refine x_iconst dX6_water_12 ?_
  refine x_V3 mX6_196 dX6_water_13 rfl (s_isFine (p := 0 ≤ x ∧ x < v 4) (c := 1) (k := 0) th_0 (by omega) (by omega) (fun m1 r1 hf1 => ?_))
  refine x_if_eq (tgt := 32) dX6_water_16 (by decide) hf1.r (fun h16 => ?_) (fun h16 => ?_)
  · obtain ⟨hp1, rfl⟩ := hf1.f h16
    refine x_iconst dX6_water_32 ?_
    exact x_iret dX6_water_33  (hP _ 0 (Or.inl ⟨1, _, Or.inl ⟨hp1, rfl, rfl⟩, rfl⟩))
  · obtain ⟨hp1, rfl⟩ := hf1.t h16
    refine x_aload_n dX6_water_19 rfl ?_
    refine x_iload_n dX6_water_20 rfl ?_
    refine x_S1 mX6_336 dX6_water_21 (s_isMinute hy ?_)
    refine x_iconst dX6_water_24 ?_
    refine x_iconst dX6_water_25 ?_
    refine x_V3 mX6_196 dX6_water_26 rfl (s_isFine (p := 0 ≤ y ∧ y ≤ 10000) (c := 2) (k := 1) th_0 (by omega) (by omega) (fun m2 r2 hf2 => ?_))
    refine x_if_ne (tgt := 34) dX6_water_29 (by decide) hf2.r (fun h29 => ?_) (fun h29 => ?_)
    · obtain ⟨hp2, rfl⟩ := hf2.t h29
      obtain ⟨b, rfl⟩ := nat_of hp1.1
      refine x_aload_n dX6_water_34 rfl ?_
      refine x_iload_n dX6_water_35 rfl ?_
      refine x_iload_n dX6_water_36 rfl ?_
      refine x_V2 mX6_250 dX6_water_37 rfl (s_mwaterAt hv.1 hN.z (by omega) (by omega) ?_)
      exact x_iret dX6_water_40  (hP _ _ (Or.inr ⟨⟨hp1, hp2⟩, rfl, ag.rf⟩))
    · obtain ⟨hp2, rfl⟩ := hf2.f h29
      refine x_iconst dX6_water_32 ?_
      exact x_iret dX6_water_33  (hP _ 0 (Or.inl ⟨2, _, Or.inr ⟨hp1, hp2, rfl, rfl⟩, rfl⟩))

set_option maxRecDepth 20000 in
theorem s_mlasts {E : xE} {f : Nat → Nat} {D : Nat → Nat × Nat} {n : Nat} {m : xM} {P : xPo} {PX : xPx} {v : Nat → Int} {x y : Int} (hv : vOk v) (hN : mN v m) (hx : -2147483648 ≤ x ∧ x ≤ 2147483647) (hy : -2147483648 ≤ y ∧ y ≤ 2147483647) (hP : ∀ m' r, moR (rf2 (0 ≤ x ∧ x < v 5) (4 ≤ y ∧ y ≤ 25) 0 1) ((0 ≤ x ∧ x < v 5) ∧ (4 ≤ y ∧ y ≤ 25)) (fun r => r = pt v x.toNat y) [] m m' r → P (some (vi r)) (gS f D n) m') : xC E (yX6_lasts, cX6_lasts, 3, some .int) 4 0 0 [vr E 96, vi x, vi y] (gS f D n) m P PX := by
  refine x_enter (by decide) rfl rfl (Nat.le_of_ble_eq_true rfl) ?_
  have hv5 := hv.1.2.2.2.2.2.1
  have hv4 := hv.1.2.2.2.2.1.1
  have hv3 := hv.1.2.2.2.1.1
  refine x_aload_n dX6_lasts_0 rfl ?_
  refine x_iconst dX6_lasts_1 ?_
  refine x_putI fX6_1 dX6_lasts_2 rfl (by decide) rfl rfl ?_
  refine x_aload_n dX6_lasts_5 rfl ?_
  refine x_aload_n dX6_lasts_6 rfl ?_
  refine x_iload_n dX6_lasts_7 rfl ?_
  refine x_V1 mX6_300 dX6_lasts_8 rfl (s_isShip hv hN.z hx ?_)
  refine x_iconst dX6_lasts_11 ?_
  refine x_iconst dX6_lasts_12 ?_
  refine x_V3 mX6_196 dX6_lasts_13 rfl (s_isFine (p := 0 ≤ x ∧ x < v 5) (c := 1) (k := 0) th_0 (by omega) (by omega) (fun m1 r1 hf1 => ?_))
  refine x_if_eq (tgt := 32) dX6_lasts_16 (by decide) hf1.r (fun h16 => ?_) (fun h16 => ?_)
  · obtain ⟨hp1, rfl⟩ := hf1.f h16
    refine x_iconst dX6_lasts_32 ?_
    exact x_iret dX6_lasts_33  (hP _ 0 (Or.inl ⟨1, _, Or.inl ⟨hp1, rfl, rfl⟩, rfl⟩))
  · obtain ⟨hp1, rfl⟩ := hf1.t h16
    refine x_aload_n dX6_lasts_19 rfl ?_
    refine x_iload_n dX6_lasts_20 rfl ?_
    refine x_S1 mX6_339 dX6_lasts_21 (s_isSpeed hy ?_)
    refine x_iconst dX6_lasts_24 ?_
    refine x_iconst dX6_lasts_25 ?_
    refine x_V3 mX6_196 dX6_lasts_26 rfl (s_isFine (p := 4 ≤ y ∧ y ≤ 25) (c := 2) (k := 1) th_0 (by omega) (by omega) (fun m2 r2 hf2 => ?_))
    refine x_if_ne (tgt := 34) dX6_lasts_29 (by decide) hf2.r (fun h29 => ?_) (fun h29 => ?_)
    · obtain ⟨hp2, rfl⟩ := hf2.t h29
      obtain ⟨s, rfl⟩ := nat_of hp1.1
      refine x_aload_n dX6_lasts_34 rfl ?_
      refine x_iload_n dX6_lasts_35 rfl ?_
      refine x_iconst dX6_lasts_36 ?_
      refine x_iload_n dX6_lasts_37 rfl ?_
      refine x_V3 mX6_325 dX6_lasts_38 rfl (s_endsIn hv hN.z (by omega) (by omega) ?_)
      refine x_top (Int.zero_add _) ?_
      exact x_iret dX6_lasts_41  (hP _ _ (Or.inr ⟨⟨hp1, hp2⟩, rfl, ag.rf⟩))
    · obtain ⟨hp2, rfl⟩ := hf2.f h29
      refine x_iconst dX6_lasts_32 ?_
      exact x_iret dX6_lasts_33  (hP _ 0 (Or.inl ⟨2, _, Or.inr ⟨hp1, hp2, rfl, rfl⟩, rfl⟩))

/-- what areTold and areGiven leave -/
def toR (p1 p2 : Prop) (m m' : xM) (r : Int) : Prop := (p1 ∧ p2 ∧ r = 1 ∧ m' = m) ∨ (r = 0 ∧ ∃ k q, rf2 p1 p2 0 1 k q ∧ m' = mrf m k q)
theorem toR.t {p1 p2 : Prop} {r : Int} {m m' : xM} (h : toR p1 p2 m m' r) (hr : ¬ r = 0) : p1 ∧ p2 ∧ m' = m := by
  rcases h with ⟨a, b, c, d⟩ | ⟨a, b⟩
  · exact ⟨a, b, d⟩
  · exact absurd a hr
theorem toR.f {p1 p2 : Prop} {r : Int} {m m' : xM} (h : toR p1 p2 m m' r) (hr : r = 0) : ∃ k q, rf2 p1 p2 0 1 k q ∧ m' = mrf m k q := by
  rcases h with ⟨a, b, c, d⟩ | ⟨a, b⟩
  · omega
  · exact b
theorem toR.r {p1 p2 : Prop} {r : Int} {m m' : xM} (h : toR p1 p2 m m' r) : -2147483648 ≤ r ∧ r ≤ 2147483647 := by
  rcases h with ⟨a, b, c, d⟩ | ⟨a, b⟩ <;> omega
set_option maxRecDepth 20000 in
theorem s_areTold {E : xE} {f : Nat → Nat} {D : Nat → Nat × Nat} {n : Nat} {m : xM} {P : xPo} {PX : xPx} {v : Nat → Int} {x y z w : Int} (hv : vOk v) (hN : mN v m) (h0 : m 96 0 = 0) (hx : -2147483648 ≤ x ∧ x ≤ 2147483647) (hy : -2147483648 ≤ y ∧ y ≤ 2147483647) (hz : -2147483648 ≤ z ∧ z ≤ 2147483647) (hw : -2147483648 ≤ w ∧ w ≤ 2147483647) (hP : ∀ m' r, toR ((0 ≤ x ∧ x < v 5) ∧ (0 ≤ y ∧ y < v 4)) ((0 ≤ z ∧ z ≤ 10000) ∧ (4 ≤ w ∧ w ≤ 25)) m m' r → P (some (vi r)) (gS f D n) m') : xC E (yX6_areTold, cX6_areTold, 5, some .boolean) 2 0 0 [vr E 96, vi x, vi y, vi z, vi w] (gS f D n) m P PX := by
  refine x_enter (by decide) rfl rfl (Nat.le_of_ble_eq_true rfl) ?_
  refine x_aload_n dX6_areTold_0 rfl ?_
  refine x_aload_n dX6_areTold_1 rfl ?_
  refine x_iload_n dX6_areTold_2 rfl ?_
  refine x_V1 mX6_300 dX6_areTold_3 rfl (s_isShip hv hN hx ?_)
  refine x_if_eq (tgt := 21) dX6_areTold_6 (by decide) (zi_r _) (fun h6 => ?_) (fun h6 => ?_)
  · refine x_iconst dX6_areTold_21 ?_
    refine x_top ((zi_f (fun zz : ((0 ≤ x ∧ x < v 5) ∧ (0 ≤ y ∧ y < v 4)) => zi_0.mp h6 zz.1)).symm) ?_
    refine x_iconst dX6_areTold_22 ?_
    refine x_iconst dX6_areTold_23 ?_
    refine x_V3 mX6_196 dX6_areTold_24 rfl (s_isFine (p := (0 ≤ x ∧ x < v 5) ∧ (0 ≤ y ∧ y < v 4)) (c := 1) (k := 0) h0 (by omega) (by omega) (fun m1 r1 hf1 => ?_))
    refine x_if_eq (tgt := 63) dX6_areTold_27 (by decide) hf1.r (fun h27 => ?_) (fun h27 => ?_)
    · obtain ⟨hp1, rfl⟩ := hf1.f h27
      refine x_iconst dX6_areTold_63 ?_
      exact x_zret dX6_areTold_64 (Or.inl rfl) (hP _ 0 (Or.inr ⟨rfl, 1, 0, Or.inl ⟨hp1, rfl, rfl⟩, rfl⟩))
    · obtain ⟨hp1, rfl⟩ := hf1.t h27
      refine x_aload_n dX6_areTold_30 rfl ?_
      refine x_iload_n dX6_areTold_31 rfl ?_
      refine x_S1 mX6_336 dX6_areTold_32 (s_isMinute hz ?_)
      refine x_if_eq (tgt := 50) dX6_areTold_35 (by decide) (zi_r _) (fun h35 => ?_) (fun h35 => ?_)
      · refine x_iconst dX6_areTold_50 ?_
        refine x_top ((zi_f (fun zz : ((0 ≤ z ∧ z ≤ 10000) ∧ (4 ≤ w ∧ w ≤ 25)) => zi_0.mp h35 zz.1)).symm) ?_
        refine x_iconst dX6_areTold_51 ?_
        refine x_iconst dX6_areTold_52 ?_
        refine x_V3 mX6_196 dX6_areTold_53 rfl (s_isFine (p := (0 ≤ z ∧ z ≤ 10000) ∧ (4 ≤ w ∧ w ≤ 25)) (c := 2) (k := 1) h0 (by omega) (by omega) (fun m2 r2 hf2 => ?_))
        refine x_if_eq (tgt := 63) dX6_areTold_56 (by decide) hf2.r (fun h56 => ?_) (fun h56 => ?_)
        · obtain ⟨hp2, rfl⟩ := hf2.f h56
          refine x_iconst dX6_areTold_63 ?_
          exact x_zret dX6_areTold_64 (Or.inl rfl) (hP _ 0 (Or.inr ⟨rfl, 2, 1, Or.inr ⟨hp1, hp2, rfl, rfl⟩, rfl⟩))
        · obtain ⟨hp2, rfl⟩ := hf2.t h56
          refine x_iconst dX6_areTold_59 ?_
          refine x_goto (tgt := 64) dX6_areTold_60 (by decide) ?_
          exact x_zret dX6_areTold_64 (Or.inr rfl) (hP _ 1 (Or.inl ⟨hp1, hp2, rfl, rfl⟩))
      · refine x_iload dX6_areTold_38 rfl ?_
        refine x_S1 mX6_339 dX6_areTold_40 (s_isSpeed hw ?_)
        refine x_if_eq (tgt := 50) dX6_areTold_43 (by decide) (zi_r _) (fun h43 => ?_) (fun h43 => ?_)
        · refine x_iconst dX6_areTold_50 ?_
          refine x_top ((zi_f (fun zz : ((0 ≤ z ∧ z ≤ 10000) ∧ (4 ≤ w ∧ w ≤ 25)) => zi_0.mp h43 zz.2)).symm) ?_
          refine x_iconst dX6_areTold_51 ?_
          refine x_iconst dX6_areTold_52 ?_
          refine x_V3 mX6_196 dX6_areTold_53 rfl (s_isFine (p := (0 ≤ z ∧ z ≤ 10000) ∧ (4 ≤ w ∧ w ≤ 25)) (c := 2) (k := 1) h0 (by omega) (by omega) (fun m2 r2 hf2 => ?_))
          refine x_if_eq (tgt := 63) dX6_areTold_56 (by decide) hf2.r (fun h56 => ?_) (fun h56 => ?_)
          · obtain ⟨hp2, rfl⟩ := hf2.f h56
            refine x_iconst dX6_areTold_63 ?_
            exact x_zret dX6_areTold_64 (Or.inl rfl) (hP _ 0 (Or.inr ⟨rfl, 2, 1, Or.inr ⟨hp1, hp2, rfl, rfl⟩, rfl⟩))
          · obtain ⟨hp2, rfl⟩ := hf2.t h56
            refine x_iconst dX6_areTold_59 ?_
            refine x_goto (tgt := 64) dX6_areTold_60 (by decide) ?_
            exact x_zret dX6_areTold_64 (Or.inr rfl) (hP _ 1 (Or.inl ⟨hp1, hp2, rfl, rfl⟩))
        · refine x_iconst dX6_areTold_46 ?_
          refine x_goto (tgt := 51) dX6_areTold_47 (by decide) ?_
          refine x_top ((zi_t (show (0 ≤ z ∧ z ≤ 10000) ∧ (4 ≤ w ∧ w ≤ 25) from ⟨zi_1.mp h35, zi_1.mp h43⟩)).symm) ?_
          refine x_iconst dX6_areTold_51 ?_
          refine x_iconst dX6_areTold_52 ?_
          refine x_V3 mX6_196 dX6_areTold_53 rfl (s_isFine (p := (0 ≤ z ∧ z ≤ 10000) ∧ (4 ≤ w ∧ w ≤ 25)) (c := 2) (k := 1) h0 (by omega) (by omega) (fun m2 r2 hf2 => ?_))
          refine x_if_eq (tgt := 63) dX6_areTold_56 (by decide) hf2.r (fun h56 => ?_) (fun h56 => ?_)
          · obtain ⟨hp2, rfl⟩ := hf2.f h56
            refine x_iconst dX6_areTold_63 ?_
            exact x_zret dX6_areTold_64 (Or.inl rfl) (hP _ 0 (Or.inr ⟨rfl, 2, 1, Or.inr ⟨hp1, hp2, rfl, rfl⟩, rfl⟩))
          · obtain ⟨hp2, rfl⟩ := hf2.t h56
            refine x_iconst dX6_areTold_59 ?_
            refine x_goto (tgt := 64) dX6_areTold_60 (by decide) ?_
            exact x_zret dX6_areTold_64 (Or.inr rfl) (hP _ 1 (Or.inl ⟨hp1, hp2, rfl, rfl⟩))
  · refine x_aload_n dX6_areTold_9 rfl ?_
    refine x_iload_n dX6_areTold_10 rfl ?_
    refine x_V1 mX6_290 dX6_areTold_11 rfl (s_isBar hv hN hy ?_)
    refine x_if_eq (tgt := 21) dX6_areTold_14 (by decide) (zi_r _) (fun h14 => ?_) (fun h14 => ?_)
    · refine x_iconst dX6_areTold_21 ?_
      refine x_top ((zi_f (fun zz : ((0 ≤ x ∧ x < v 5) ∧ (0 ≤ y ∧ y < v 4)) => zi_0.mp h14 zz.2)).symm) ?_
      refine x_iconst dX6_areTold_22 ?_
      refine x_iconst dX6_areTold_23 ?_
      refine x_V3 mX6_196 dX6_areTold_24 rfl (s_isFine (p := (0 ≤ x ∧ x < v 5) ∧ (0 ≤ y ∧ y < v 4)) (c := 1) (k := 0) h0 (by omega) (by omega) (fun m1 r1 hf1 => ?_))
      refine x_if_eq (tgt := 63) dX6_areTold_27 (by decide) hf1.r (fun h27 => ?_) (fun h27 => ?_)
      · obtain ⟨hp1, rfl⟩ := hf1.f h27
        refine x_iconst dX6_areTold_63 ?_
        exact x_zret dX6_areTold_64 (Or.inl rfl) (hP _ 0 (Or.inr ⟨rfl, 1, 0, Or.inl ⟨hp1, rfl, rfl⟩, rfl⟩))
      · obtain ⟨hp1, rfl⟩ := hf1.t h27
        refine x_aload_n dX6_areTold_30 rfl ?_
        refine x_iload_n dX6_areTold_31 rfl ?_
        refine x_S1 mX6_336 dX6_areTold_32 (s_isMinute hz ?_)
        refine x_if_eq (tgt := 50) dX6_areTold_35 (by decide) (zi_r _) (fun h35 => ?_) (fun h35 => ?_)
        · refine x_iconst dX6_areTold_50 ?_
          refine x_top ((zi_f (fun zz : ((0 ≤ z ∧ z ≤ 10000) ∧ (4 ≤ w ∧ w ≤ 25)) => zi_0.mp h35 zz.1)).symm) ?_
          refine x_iconst dX6_areTold_51 ?_
          refine x_iconst dX6_areTold_52 ?_
          refine x_V3 mX6_196 dX6_areTold_53 rfl (s_isFine (p := (0 ≤ z ∧ z ≤ 10000) ∧ (4 ≤ w ∧ w ≤ 25)) (c := 2) (k := 1) h0 (by omega) (by omega) (fun m2 r2 hf2 => ?_))
          refine x_if_eq (tgt := 63) dX6_areTold_56 (by decide) hf2.r (fun h56 => ?_) (fun h56 => ?_)
          · obtain ⟨hp2, rfl⟩ := hf2.f h56
            refine x_iconst dX6_areTold_63 ?_
            exact x_zret dX6_areTold_64 (Or.inl rfl) (hP _ 0 (Or.inr ⟨rfl, 2, 1, Or.inr ⟨hp1, hp2, rfl, rfl⟩, rfl⟩))
          · obtain ⟨hp2, rfl⟩ := hf2.t h56
            refine x_iconst dX6_areTold_59 ?_
            refine x_goto (tgt := 64) dX6_areTold_60 (by decide) ?_
            exact x_zret dX6_areTold_64 (Or.inr rfl) (hP _ 1 (Or.inl ⟨hp1, hp2, rfl, rfl⟩))
        · refine x_iload dX6_areTold_38 rfl ?_
          refine x_S1 mX6_339 dX6_areTold_40 (s_isSpeed hw ?_)
          refine x_if_eq (tgt := 50) dX6_areTold_43 (by decide) (zi_r _) (fun h43 => ?_) (fun h43 => ?_)
          · refine x_iconst dX6_areTold_50 ?_
            refine x_top ((zi_f (fun zz : ((0 ≤ z ∧ z ≤ 10000) ∧ (4 ≤ w ∧ w ≤ 25)) => zi_0.mp h43 zz.2)).symm) ?_
            refine x_iconst dX6_areTold_51 ?_
            refine x_iconst dX6_areTold_52 ?_
            refine x_V3 mX6_196 dX6_areTold_53 rfl (s_isFine (p := (0 ≤ z ∧ z ≤ 10000) ∧ (4 ≤ w ∧ w ≤ 25)) (c := 2) (k := 1) h0 (by omega) (by omega) (fun m2 r2 hf2 => ?_))
            refine x_if_eq (tgt := 63) dX6_areTold_56 (by decide) hf2.r (fun h56 => ?_) (fun h56 => ?_)
            · obtain ⟨hp2, rfl⟩ := hf2.f h56
              refine x_iconst dX6_areTold_63 ?_
              exact x_zret dX6_areTold_64 (Or.inl rfl) (hP _ 0 (Or.inr ⟨rfl, 2, 1, Or.inr ⟨hp1, hp2, rfl, rfl⟩, rfl⟩))
            · obtain ⟨hp2, rfl⟩ := hf2.t h56
              refine x_iconst dX6_areTold_59 ?_
              refine x_goto (tgt := 64) dX6_areTold_60 (by decide) ?_
              exact x_zret dX6_areTold_64 (Or.inr rfl) (hP _ 1 (Or.inl ⟨hp1, hp2, rfl, rfl⟩))
          · refine x_iconst dX6_areTold_46 ?_
            refine x_goto (tgt := 51) dX6_areTold_47 (by decide) ?_
            refine x_top ((zi_t (show (0 ≤ z ∧ z ≤ 10000) ∧ (4 ≤ w ∧ w ≤ 25) from ⟨zi_1.mp h35, zi_1.mp h43⟩)).symm) ?_
            refine x_iconst dX6_areTold_51 ?_
            refine x_iconst dX6_areTold_52 ?_
            refine x_V3 mX6_196 dX6_areTold_53 rfl (s_isFine (p := (0 ≤ z ∧ z ≤ 10000) ∧ (4 ≤ w ∧ w ≤ 25)) (c := 2) (k := 1) h0 (by omega) (by omega) (fun m2 r2 hf2 => ?_))
            refine x_if_eq (tgt := 63) dX6_areTold_56 (by decide) hf2.r (fun h56 => ?_) (fun h56 => ?_)
            · obtain ⟨hp2, rfl⟩ := hf2.f h56
              refine x_iconst dX6_areTold_63 ?_
              exact x_zret dX6_areTold_64 (Or.inl rfl) (hP _ 0 (Or.inr ⟨rfl, 2, 1, Or.inr ⟨hp1, hp2, rfl, rfl⟩, rfl⟩))
            · obtain ⟨hp2, rfl⟩ := hf2.t h56
              refine x_iconst dX6_areTold_59 ?_
              refine x_goto (tgt := 64) dX6_areTold_60 (by decide) ?_
              exact x_zret dX6_areTold_64 (Or.inr rfl) (hP _ 1 (Or.inl ⟨hp1, hp2, rfl, rfl⟩))
    · refine x_iconst dX6_areTold_17 ?_
      refine x_goto (tgt := 22) dX6_areTold_18 (by decide) ?_
      refine x_top ((zi_t (show (0 ≤ x ∧ x < v 5) ∧ (0 ≤ y ∧ y < v 4) from ⟨zi_1.mp h6, zi_1.mp h14⟩)).symm) ?_
      refine x_iconst dX6_areTold_22 ?_
      refine x_iconst dX6_areTold_23 ?_
      refine x_V3 mX6_196 dX6_areTold_24 rfl (s_isFine (p := (0 ≤ x ∧ x < v 5) ∧ (0 ≤ y ∧ y < v 4)) (c := 1) (k := 0) h0 (by omega) (by omega) (fun m1 r1 hf1 => ?_))
      refine x_if_eq (tgt := 63) dX6_areTold_27 (by decide) hf1.r (fun h27 => ?_) (fun h27 => ?_)
      · obtain ⟨hp1, rfl⟩ := hf1.f h27
        refine x_iconst dX6_areTold_63 ?_
        exact x_zret dX6_areTold_64 (Or.inl rfl) (hP _ 0 (Or.inr ⟨rfl, 1, 0, Or.inl ⟨hp1, rfl, rfl⟩, rfl⟩))
      · obtain ⟨hp1, rfl⟩ := hf1.t h27
        refine x_aload_n dX6_areTold_30 rfl ?_
        refine x_iload_n dX6_areTold_31 rfl ?_
        refine x_S1 mX6_336 dX6_areTold_32 (s_isMinute hz ?_)
        refine x_if_eq (tgt := 50) dX6_areTold_35 (by decide) (zi_r _) (fun h35 => ?_) (fun h35 => ?_)
        · refine x_iconst dX6_areTold_50 ?_
          refine x_top ((zi_f (fun zz : ((0 ≤ z ∧ z ≤ 10000) ∧ (4 ≤ w ∧ w ≤ 25)) => zi_0.mp h35 zz.1)).symm) ?_
          refine x_iconst dX6_areTold_51 ?_
          refine x_iconst dX6_areTold_52 ?_
          refine x_V3 mX6_196 dX6_areTold_53 rfl (s_isFine (p := (0 ≤ z ∧ z ≤ 10000) ∧ (4 ≤ w ∧ w ≤ 25)) (c := 2) (k := 1) h0 (by omega) (by omega) (fun m2 r2 hf2 => ?_))
          refine x_if_eq (tgt := 63) dX6_areTold_56 (by decide) hf2.r (fun h56 => ?_) (fun h56 => ?_)
          · obtain ⟨hp2, rfl⟩ := hf2.f h56
            refine x_iconst dX6_areTold_63 ?_
            exact x_zret dX6_areTold_64 (Or.inl rfl) (hP _ 0 (Or.inr ⟨rfl, 2, 1, Or.inr ⟨hp1, hp2, rfl, rfl⟩, rfl⟩))
          · obtain ⟨hp2, rfl⟩ := hf2.t h56
            refine x_iconst dX6_areTold_59 ?_
            refine x_goto (tgt := 64) dX6_areTold_60 (by decide) ?_
            exact x_zret dX6_areTold_64 (Or.inr rfl) (hP _ 1 (Or.inl ⟨hp1, hp2, rfl, rfl⟩))
        · refine x_iload dX6_areTold_38 rfl ?_
          refine x_S1 mX6_339 dX6_areTold_40 (s_isSpeed hw ?_)
          refine x_if_eq (tgt := 50) dX6_areTold_43 (by decide) (zi_r _) (fun h43 => ?_) (fun h43 => ?_)
          · refine x_iconst dX6_areTold_50 ?_
            refine x_top ((zi_f (fun zz : ((0 ≤ z ∧ z ≤ 10000) ∧ (4 ≤ w ∧ w ≤ 25)) => zi_0.mp h43 zz.2)).symm) ?_
            refine x_iconst dX6_areTold_51 ?_
            refine x_iconst dX6_areTold_52 ?_
            refine x_V3 mX6_196 dX6_areTold_53 rfl (s_isFine (p := (0 ≤ z ∧ z ≤ 10000) ∧ (4 ≤ w ∧ w ≤ 25)) (c := 2) (k := 1) h0 (by omega) (by omega) (fun m2 r2 hf2 => ?_))
            refine x_if_eq (tgt := 63) dX6_areTold_56 (by decide) hf2.r (fun h56 => ?_) (fun h56 => ?_)
            · obtain ⟨hp2, rfl⟩ := hf2.f h56
              refine x_iconst dX6_areTold_63 ?_
              exact x_zret dX6_areTold_64 (Or.inl rfl) (hP _ 0 (Or.inr ⟨rfl, 2, 1, Or.inr ⟨hp1, hp2, rfl, rfl⟩, rfl⟩))
            · obtain ⟨hp2, rfl⟩ := hf2.t h56
              refine x_iconst dX6_areTold_59 ?_
              refine x_goto (tgt := 64) dX6_areTold_60 (by decide) ?_
              exact x_zret dX6_areTold_64 (Or.inr rfl) (hP _ 1 (Or.inl ⟨hp1, hp2, rfl, rfl⟩))
          · refine x_iconst dX6_areTold_46 ?_
            refine x_goto (tgt := 51) dX6_areTold_47 (by decide) ?_
            refine x_top ((zi_t (show (0 ≤ z ∧ z ≤ 10000) ∧ (4 ≤ w ∧ w ≤ 25) from ⟨zi_1.mp h35, zi_1.mp h43⟩)).symm) ?_
            refine x_iconst dX6_areTold_51 ?_
            refine x_iconst dX6_areTold_52 ?_
            refine x_V3 mX6_196 dX6_areTold_53 rfl (s_isFine (p := (0 ≤ z ∧ z ≤ 10000) ∧ (4 ≤ w ∧ w ≤ 25)) (c := 2) (k := 1) h0 (by omega) (by omega) (fun m2 r2 hf2 => ?_))
            refine x_if_eq (tgt := 63) dX6_areTold_56 (by decide) hf2.r (fun h56 => ?_) (fun h56 => ?_)
            · obtain ⟨hp2, rfl⟩ := hf2.f h56
              refine x_iconst dX6_areTold_63 ?_
              exact x_zret dX6_areTold_64 (Or.inl rfl) (hP _ 0 (Or.inr ⟨rfl, 2, 1, Or.inr ⟨hp1, hp2, rfl, rfl⟩, rfl⟩))
            · obtain ⟨hp2, rfl⟩ := hf2.t h56
              refine x_iconst dX6_areTold_59 ?_
              refine x_goto (tgt := 64) dX6_areTold_60 (by decide) ?_
              exact x_zret dX6_areTold_64 (Or.inr rfl) (hP _ 1 (Or.inl ⟨hp1, hp2, rfl, rfl⟩))

set_option maxRecDepth 20000 in
theorem s_areGiven {E : xE} {f : Nat → Nat} {D : Nat → Nat × Nat} {n : Nat} {m : xM} {P : xPo} {PX : xPx} {v : Nat → Int} {x y z : Int} (hv : vOk v) (hN : mN v m) (h0 : m 96 0 = 0) (hx : -2147483648 ≤ x ∧ x ≤ 2147483647) (hy : -2147483648 ≤ y ∧ y ≤ 2147483647) (hz : -2147483648 ≤ z ∧ z ≤ 2147483647) (hP : ∀ m' r, toR (0 ≤ x ∧ x < v 5) ((0 ≤ y ∧ y ≤ 10000) ∧ (4 ≤ z ∧ z ≤ 25)) m m' r → P (some (vi r)) (gS f D n) m') : xC E (yX6_areGiven, cX6_areGiven, 4, some .boolean) 2 0 0 [vr E 96, vi x, vi y, vi z] (gS f D n) m P PX := by
  refine x_enter (by decide) rfl rfl (Nat.le_of_ble_eq_true rfl) ?_
  refine x_aload_n dX6_areGiven_0 rfl ?_
  refine x_aload_n dX6_areGiven_1 rfl ?_
  refine x_iload_n dX6_areGiven_2 rfl ?_
  refine x_V1 mX6_300 dX6_areGiven_3 rfl (s_isShip hv hN hx ?_)
  refine x_iconst dX6_areGiven_6 ?_
  refine x_iconst dX6_areGiven_7 ?_
  refine x_V3 mX6_196 dX6_areGiven_8 rfl (s_isFine (p := 0 ≤ x ∧ x < v 5) (c := 1) (k := 0) h0 (by omega) (by omega) (fun m1 r1 hf1 => ?_))
  refine x_if_eq (tgt := 46) dX6_areGiven_11 (by decide) hf1.r (fun h11 => ?_) (fun h11 => ?_)
  · obtain ⟨hp1, rfl⟩ := hf1.f h11
    refine x_iconst dX6_areGiven_46 ?_
    exact x_zret dX6_areGiven_47 (Or.inl rfl) (hP _ 0 (Or.inr ⟨rfl, 1, 0, Or.inl ⟨hp1, rfl, rfl⟩, rfl⟩))
  · obtain ⟨hp1, rfl⟩ := hf1.t h11
    refine x_aload_n dX6_areGiven_14 rfl ?_
    refine x_iload_n dX6_areGiven_15 rfl ?_
    refine x_S1 mX6_336 dX6_areGiven_16 (s_isMinute hy ?_)
    refine x_if_eq (tgt := 33) dX6_areGiven_19 (by decide) (zi_r _) (fun h19 => ?_) (fun h19 => ?_)
    · refine x_iconst dX6_areGiven_33 ?_
      refine x_top ((zi_f (fun zz : ((0 ≤ y ∧ y ≤ 10000) ∧ (4 ≤ z ∧ z ≤ 25)) => zi_0.mp h19 zz.1)).symm) ?_
      refine x_iconst dX6_areGiven_34 ?_
      refine x_iconst dX6_areGiven_35 ?_
      refine x_V3 mX6_196 dX6_areGiven_36 rfl (s_isFine (p := (0 ≤ y ∧ y ≤ 10000) ∧ (4 ≤ z ∧ z ≤ 25)) (c := 2) (k := 1) h0 (by omega) (by omega) (fun m2 r2 hf2 => ?_))
      refine x_if_eq (tgt := 46) dX6_areGiven_39 (by decide) hf2.r (fun h39 => ?_) (fun h39 => ?_)
      · obtain ⟨hp2, rfl⟩ := hf2.f h39
        refine x_iconst dX6_areGiven_46 ?_
        exact x_zret dX6_areGiven_47 (Or.inl rfl) (hP _ 0 (Or.inr ⟨rfl, 2, 1, Or.inr ⟨hp1, hp2, rfl, rfl⟩, rfl⟩))
      · obtain ⟨hp2, rfl⟩ := hf2.t h39
        refine x_iconst dX6_areGiven_42 ?_
        refine x_goto (tgt := 47) dX6_areGiven_43 (by decide) ?_
        exact x_zret dX6_areGiven_47 (Or.inr rfl) (hP _ 1 (Or.inl ⟨hp1, hp2, rfl, rfl⟩))
    · refine x_iload_n dX6_areGiven_22 rfl ?_
      refine x_S1 mX6_339 dX6_areGiven_23 (s_isSpeed hz ?_)
      refine x_if_eq (tgt := 33) dX6_areGiven_26 (by decide) (zi_r _) (fun h26 => ?_) (fun h26 => ?_)
      · refine x_iconst dX6_areGiven_33 ?_
        refine x_top ((zi_f (fun zz : ((0 ≤ y ∧ y ≤ 10000) ∧ (4 ≤ z ∧ z ≤ 25)) => zi_0.mp h26 zz.2)).symm) ?_
        refine x_iconst dX6_areGiven_34 ?_
        refine x_iconst dX6_areGiven_35 ?_
        refine x_V3 mX6_196 dX6_areGiven_36 rfl (s_isFine (p := (0 ≤ y ∧ y ≤ 10000) ∧ (4 ≤ z ∧ z ≤ 25)) (c := 2) (k := 1) h0 (by omega) (by omega) (fun m2 r2 hf2 => ?_))
        refine x_if_eq (tgt := 46) dX6_areGiven_39 (by decide) hf2.r (fun h39 => ?_) (fun h39 => ?_)
        · obtain ⟨hp2, rfl⟩ := hf2.f h39
          refine x_iconst dX6_areGiven_46 ?_
          exact x_zret dX6_areGiven_47 (Or.inl rfl) (hP _ 0 (Or.inr ⟨rfl, 2, 1, Or.inr ⟨hp1, hp2, rfl, rfl⟩, rfl⟩))
        · obtain ⟨hp2, rfl⟩ := hf2.t h39
          refine x_iconst dX6_areGiven_42 ?_
          refine x_goto (tgt := 47) dX6_areGiven_43 (by decide) ?_
          exact x_zret dX6_areGiven_47 (Or.inr rfl) (hP _ 1 (Or.inl ⟨hp1, hp2, rfl, rfl⟩))
      · refine x_iconst dX6_areGiven_29 ?_
        refine x_goto (tgt := 34) dX6_areGiven_30 (by decide) ?_
        refine x_top ((zi_t (show (0 ≤ y ∧ y ≤ 10000) ∧ (4 ≤ z ∧ z ≤ 25) from ⟨zi_1.mp h19, zi_1.mp h26⟩)).symm) ?_
        refine x_iconst dX6_areGiven_34 ?_
        refine x_iconst dX6_areGiven_35 ?_
        refine x_V3 mX6_196 dX6_areGiven_36 rfl (s_isFine (p := (0 ≤ y ∧ y ≤ 10000) ∧ (4 ≤ z ∧ z ≤ 25)) (c := 2) (k := 1) h0 (by omega) (by omega) (fun m2 r2 hf2 => ?_))
        refine x_if_eq (tgt := 46) dX6_areGiven_39 (by decide) hf2.r (fun h39 => ?_) (fun h39 => ?_)
        · obtain ⟨hp2, rfl⟩ := hf2.f h39
          refine x_iconst dX6_areGiven_46 ?_
          exact x_zret dX6_areGiven_47 (Or.inl rfl) (hP _ 0 (Or.inr ⟨rfl, 2, 1, Or.inr ⟨hp1, hp2, rfl, rfl⟩, rfl⟩))
        · obtain ⟨hp2, rfl⟩ := hf2.t h39
          refine x_iconst dX6_areGiven_42 ?_
          refine x_goto (tgt := 47) dX6_areGiven_43 (by decide) ?_
          exact x_zret dX6_areGiven_47 (Or.inr rfl) (hP _ 1 (Or.inl ⟨hp1, hp2, rfl, rfl⟩))

end MA
