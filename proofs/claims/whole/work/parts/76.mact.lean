section MV
def vup (v : Nat → Int) (i : Nat) (z : Int) : Nat → Int := fun k => if k = i then z else v k
theorem mN.u {v : Nat → Int} {m : xM} (h : mN v m) {i : Nat} {z : Int} : mN (vup v i z) (xu m 98 i z) := fun k hk => by
  rw [xu_if]
  show _ = if k = i then z else v k
  by_cases c : k = i
  · rw [if_pos c, if_pos c]
  · rw [if_neg c, if_neg c]; exact h k hk
theorem mH.ag {h : List (Nat → Int)} {m m' : xM} (hH : mH h m) (h5 : m' 96 5 = m 96 5) (h100 : m' 100 = m 100) : mH h m' := by
  unfold mH
  rw [h5, h100]
  exact hH
/-- what a change of the model leaves -/
def moA (rf : Int → Nat → Prop) (ok : Prop) (R : Int → Prop) (v' : Nat → Int) (h' : List (Nat → Int)) (m m' : xM) (r : Int) : Prop :=
  (∃ k q m1, rf k q ∧ ag [103] (xu m 96 0 0) m1 ∧ m' = mrf m1 k q) ∨ (ok ∧ R r ∧ ag [96, 98, 100, 103] (xu m 96 0 0) m' ∧ (∀ j, j ≠ 5 → m' 96 j = xu m 96 0 0 96 j) ∧ mN v' m' ∧ mH h' m')
theorem mH.z {h : List (Nat → Int)} {m : xM} (hH : mH h m) {z : Int} : mH h (xu m 96 0 z) := hH.ag (by rw [xu_if, if_neg (by omega)]) (xu_ne (by decide))
set_option maxRecDepth 20000 in
theorem s_changes {E : xE} {f : Nat → Nat} {D : Nat → Nat × Nat} {n : Nat} {m : xM} {P : xPo} {PX : xPx} {v : Nat → Int} {h : List (Nat → Int)} {i : Nat} {z : Int} (hN : mN v m) (hH : mH h m) (hi : i < 709) (hP : ∀ m', ag [96, 98, 100] m m' → (∀ j, j ≠ 5 → m' 96 j = m 96 j) → mN (vup v i z) m' → mH (psh h v) m' → P (some (vi (v i))) (gS f D n) m') : xC E (yX6_changes, cX6_changes, 4, some .int) 1 0 0 [vr E 96, vi (i : Int), vi z] (gS f D n) m P PX := by
  refine x_enter (by decide) rfl rfl (Nat.le_of_ble_eq_true rfl) ?_
  refine x_aload_n dX6_changes_0 rfl ?_
  refine x_V0 mX6_205 dX6_changes_1 rfl (s_keeps hN hH (fun m1 ha1 hk1 hH1 => ?_))
  refine x_aload_n dX6_changes_4 rfl ?_
  refine x_getR (r := 98) fX6_17 dX6_changes_5 rfl rfl ?_
  refine x_iload_n dX6_changes_8 rfl ?_
  refine x_iald (j := i) dX6_changes_9 rfl (by omega) (show _ < 709 by omega) (by omega) ?_
  refine x_top (hN.ag ha1 (by decide) i hi) ?_
  refine x_istore_n dX6_changes_10 ?_
  refine x_aload_n dX6_changes_11 rfl ?_
  refine x_getR (r := 98) fX6_17 dX6_changes_12 rfl rfl ?_
  refine x_iload_n dX6_changes_15 rfl ?_
  refine x_iload_n dX6_changes_16 rfl ?_
  refine x_iast (j := i) dX6_changes_17 rfl (by decide) (by omega) (show _ < 709 by omega) (by omega) ?_
  refine x_iload_n dX6_changes_18 rfl ?_
  exact x_iret dX6_changes_19  (hP _ ((ha1.wk (by decide)).u (by decide)) (fun j hj => by rw [xu_ne (by decide)]; exact hk1 j hj) (hN.ag ha1 (by decide)).u (hH1.ag (by rw [xu_ne (by decide)]) (xu_ne (by decide))))

set_option maxRecDepth 20000 in
theorem s_msound {E : xE} {f : Nat → Nat} {D : Nat → Nat × Nat} {n : Nat} {m : xM} {P : xPo} {PX : xPx} {v : Nat → Int} {h : List (Nat → Int)} {x y : Int} (hv : vOk v) (hN : mN v m) (hH : mH h m) (hx : -2147483648 ≤ x ∧ x ≤ 2147483647) (hy : -2147483648 ≤ y ∧ y ≤ 2147483647) (hP : ∀ m' r, moA (rf2 (0 ≤ x ∧ x < v 4) (100 ≤ y ∧ y ≤ 3000) 0 1) ((0 ≤ x ∧ x < v 4) ∧ (100 ≤ y ∧ y ≤ 3000)) (fun r => r = br v x.toNat 1) (vup v (24 + 6 * x.toNat + 1) y) (psh h v) m m' r → P (some (vi r)) (gS f D n) m') : xC E (yX6_sound, cX6_sound, 3, some .int) 2 0 0 [vr E 96, vi x, vi y] (gS f D n) m P PX := by
  refine x_enter (by decide) rfl rfl (Nat.le_of_ble_eq_true rfl) ?_
  have hv5 := hv.1.2.2.2.2.2.1
  have hv4 := hv.1.2.2.2.2.1.1
  have hv3 := hv.1.2.2.2.1.1
  refine x_aload_n dX6_sound_0 rfl ?_
  refine x_iconst dX6_sound_1 ?_
  refine x_putI fX6_1 dX6_sound_2 rfl (by decide) rfl rfl ?_
  refine x_aload_n dX6_sound_5 rfl ?_
  refine x_aload_n dX6_sound_6 rfl ?_
  refine x_iload_n dX6_sound_7 rfl ?_
  refine x_V1 mX6_290 dX6_sound_8 rfl (s_isBar hv hN.z hx ?_)
  refine x_iconst dX6_sound_11 ?_
  refine x_iconst dX6_sound_12 ?_
  refine x_V3 mX6_196 dX6_sound_13 rfl (s_isFine (p := 0 ≤ x ∧ x < v 4) (c := 1) (k := 0) th_0 (by omega) (by omega) (fun m1 r1 hf1 => ?_))
  refine x_if_eq (tgt := 39) dX6_sound_16 (by decide) hf1.r (fun h16 => ?_) (fun h16 => ?_)
  · obtain ⟨hp1, rfl⟩ := hf1.f h16
    refine x_iconst dX6_sound_39 ?_
    exact x_iret dX6_sound_40  (hP _ 0 (Or.inl ⟨1, _, _, Or.inl ⟨hp1, rfl, rfl⟩, ag.rf, rfl⟩))
  · obtain ⟨hp1, rfl⟩ := hf1.t h16
    refine x_aload_n dX6_sound_19 rfl ?_
    refine x_iload_n dX6_sound_20 rfl ?_
    refine x_i2l dX6_sound_21 (by omega) ?_
    refine x_ldc2_w kX6_293 dX6_sound_22 ?_
    refine x_ldc2_w kX6_295 dX6_sound_25 ?_
    refine x_S3 mX6_122 dX6_sound_28 (s_lies (by omega) ?_)
    refine x_iconst dX6_sound_31 ?_
    refine x_iconst dX6_sound_32 ?_
    refine x_V3 mX6_196 dX6_sound_33 rfl (s_isFine (p := 100 ≤ y ∧ y ≤ 3000) (c := 2) (k := 1) th_0 (by omega) (by omega) (fun m2 r2 hf2 => ?_))
    refine x_if_ne (tgt := 41) dX6_sound_36 (by decide) hf2.r (fun h36 => ?_) (fun h36 => ?_)
    · obtain ⟨hp2, rfl⟩ := hf2.t h36
      obtain ⟨b, rfl⟩ := nat_of hp1.1
      refine x_aload_n dX6_sound_41 rfl ?_
      refine x_bipush dX6_sound_42 (h := ?_)
      refine x_bipush dX6_sound_44 (h := ?_)
      refine x_iload_n dX6_sound_46 rfl ?_
      refine x_imul dX6_sound_47 ?_
      refine x_iadd dX6_sound_48 ?_
      refine x_iconst dX6_sound_49 ?_
      refine x_iadd dX6_sound_50 ?_
      refine x_top (show 24 + 6 * (b : Int) + 1 = ((24 + 6 * b + 1 : Nat) : Int) by omega) ?_
      refine x_iload_n dX6_sound_51 rfl ?_
      refine x_V2 mX6_297 dX6_sound_52 rfl (s_changes (i := 24 + 6 * b + 1) hN.z hH.z (by omega) (fun m1 ha1 hk1 hN1 hH1 => ?_))
      exact x_iret dX6_sound_55  (hP _ _ (Or.inr ⟨⟨hp1, hp2⟩, rfl, ha1.wk (by decide), hk1, hN1, hH1⟩))
    · obtain ⟨hp2, rfl⟩ := hf2.f h36
      refine x_iconst dX6_sound_39 ?_
      exact x_iret dX6_sound_40  (hP _ 0 (Or.inl ⟨2, _, _, Or.inr ⟨hp1, hp2, rfl, rfl⟩, ag.rf, rfl⟩))

set_option maxRecDepth 20000 in
theorem s_mload {E : xE} {f : Nat → Nat} {D : Nat → Nat × Nat} {n : Nat} {m : xM} {P : xPo} {PX : xPx} {v : Nat → Int} {h : List (Nat → Int)} {x y : Int} (hv : vOk v) (hN : mN v m) (hH : mH h m) (hx : -2147483648 ≤ x ∧ x ≤ 2147483647) (hy : -2147483648 ≤ y ∧ y ≤ 2147483647) (hP : ∀ m' r, moA (rf2 (0 ≤ x ∧ x < v 5) (100 ≤ y ∧ y ≤ 2500) 0 1) ((0 ≤ x ∧ x < v 5) ∧ (100 ≤ y ∧ y ≤ 2500)) (fun r => r = sh v x.toNat 0) (vup v (60 + 8 * x.toNat + 0) y) (psh h v) m m' r → P (some (vi r)) (gS f D n) m') : xC E (yX6_load, cX6_load, 3, some .int) 2 0 0 [vr E 96, vi x, vi y] (gS f D n) m P PX := by
  refine x_enter (by decide) rfl rfl (Nat.le_of_ble_eq_true rfl) ?_
  have hv5 := hv.1.2.2.2.2.2.1
  have hv4 := hv.1.2.2.2.2.1.1
  have hv3 := hv.1.2.2.2.1.1
  refine x_aload_n dX6_load_0 rfl ?_
  refine x_iconst dX6_load_1 ?_
  refine x_putI fX6_1 dX6_load_2 rfl (by decide) rfl rfl ?_
  refine x_aload_n dX6_load_5 rfl ?_
  refine x_aload_n dX6_load_6 rfl ?_
  refine x_iload_n dX6_load_7 rfl ?_
  refine x_V1 mX6_300 dX6_load_8 rfl (s_isShip hv hN.z hx ?_)
  refine x_iconst dX6_load_11 ?_
  refine x_iconst dX6_load_12 ?_
  refine x_V3 mX6_196 dX6_load_13 rfl (s_isFine (p := 0 ≤ x ∧ x < v 5) (c := 1) (k := 0) th_0 (by omega) (by omega) (fun m1 r1 hf1 => ?_))
  refine x_if_eq (tgt := 39) dX6_load_16 (by decide) hf1.r (fun h16 => ?_) (fun h16 => ?_)
  · obtain ⟨hp1, rfl⟩ := hf1.f h16
    refine x_iconst dX6_load_39 ?_
    exact x_iret dX6_load_40  (hP _ 0 (Or.inl ⟨1, _, _, Or.inl ⟨hp1, rfl, rfl⟩, ag.rf, rfl⟩))
  · obtain ⟨hp1, rfl⟩ := hf1.t h16
    refine x_aload_n dX6_load_19 rfl ?_
    refine x_iload_n dX6_load_20 rfl ?_
    refine x_i2l dX6_load_21 (by omega) ?_
    refine x_ldc2_w kX6_293 dX6_load_22 ?_
    refine x_ldc2_w kX6_303 dX6_load_25 ?_
    refine x_S3 mX6_122 dX6_load_28 (s_lies (by omega) ?_)
    refine x_iconst dX6_load_31 ?_
    refine x_iconst dX6_load_32 ?_
    refine x_V3 mX6_196 dX6_load_33 rfl (s_isFine (p := 100 ≤ y ∧ y ≤ 2500) (c := 2) (k := 1) th_0 (by omega) (by omega) (fun m2 r2 hf2 => ?_))
    refine x_if_ne (tgt := 41) dX6_load_36 (by decide) hf2.r (fun h36 => ?_) (fun h36 => ?_)
    · obtain ⟨hp2, rfl⟩ := hf2.t h36
      obtain ⟨b, rfl⟩ := nat_of hp1.1
      refine x_aload_n dX6_load_41 rfl ?_
      refine x_bipush dX6_load_42 (h := ?_)
      refine x_bipush dX6_load_44 (h := ?_)
      refine x_iload_n dX6_load_46 rfl ?_
      refine x_imul dX6_load_47 ?_
      refine x_iadd dX6_load_48 ?_
      refine x_iconst dX6_load_49 ?_
      refine x_iadd dX6_load_50 ?_
      refine x_top (show 60 + 8 * (b : Int) + 0 = ((60 + 8 * b + 0 : Nat) : Int) by omega) ?_
      refine x_iload_n dX6_load_51 rfl ?_
      refine x_V2 mX6_297 dX6_load_52 rfl (s_changes (i := 60 + 8 * b + 0) hN.z hH.z (by omega) (fun m1 ha1 hk1 hN1 hH1 => ?_))
      exact x_iret dX6_load_55  (hP _ _ (Or.inr ⟨⟨hp1, hp2⟩, rfl, ha1.wk (by decide), hk1, hN1, hH1⟩))
    · obtain ⟨hp2, rfl⟩ := hf2.f h36
      refine x_iconst dX6_load_39 ?_
      exact x_iret dX6_load_40  (hP _ 0 (Or.inl ⟨2, _, _, Or.inr ⟨hp1, hp2, rfl, rfl⟩, ag.rf, rfl⟩))

set_option maxRecDepth 20000 in
theorem s_msurge {E : xE} {f : Nat → Nat} {D : Nat → Nat × Nat} {n : Nat} {m : xM} {P : xPo} {PX : xPx} {v : Nat → Int} {h : List (Nat → Int)} {x : Int} (hv : vOk v) (hN : mN v m) (hH : mH h m) (hx : -2147483648 ≤ x ∧ x ≤ 2147483647) (hP : ∀ m' r, moA (rf1 (-300 ≤ x ∧ x ≤ 300) 1) (-300 ≤ x ∧ x ≤ 300) (fun r => r = v 2) (vup v 2 x) (psh h v) m m' r → P (some (vi r)) (gS f D n) m') : xC E (yX6_surge, cX6_surge, 2, some .int) 2 0 0 [vr E 96, vi x] (gS f D n) m P PX := by
  refine x_enter (by decide) rfl rfl (Nat.le_of_ble_eq_true rfl) ?_
  refine x_aload_n dX6_surge_0 rfl ?_
  refine x_iconst dX6_surge_1 ?_
  refine x_putI fX6_1 dX6_surge_2 rfl (by decide) rfl rfl ?_
  refine x_aload_n dX6_surge_5 rfl ?_
  refine x_iload_n dX6_surge_6 rfl ?_
  refine x_i2l dX6_surge_7 (by omega) ?_
  refine x_ldc2_w kX6_305 dX6_surge_8 ?_
  refine x_ldc2_w kX6_307 dX6_surge_11 ?_
  refine x_S3 mX6_122 dX6_surge_14 (s_lies (by omega) ?_)
  refine x_iconst dX6_surge_17 ?_
  refine x_iconst dX6_surge_18 ?_
  refine x_V3 mX6_196 dX6_surge_19 rfl (s_isFine (p := -300 ≤ x ∧ x ≤ 300) (c := 1) (k := 1) th_0 (by omega) (by omega) (fun m1 r1 hf1 => ?_))
  refine x_if_eq (tgt := 34) dX6_surge_22 (by decide) hf1.r (fun h22 => ?_) (fun h22 => ?_)
  · obtain ⟨hp1, rfl⟩ := hf1.f h22
    refine x_iconst dX6_surge_34 ?_
    exact x_iret dX6_surge_35  (hP _ 0 (Or.inl ⟨1, _, _, ⟨hp1, rfl, rfl⟩, ag.rf, rfl⟩))
  · obtain ⟨hp1, rfl⟩ := hf1.t h22
    refine x_aload_n dX6_surge_25 rfl ?_
    refine x_iconst dX6_surge_26 ?_
    refine x_iload_n dX6_surge_27 rfl ?_
    refine x_V2 mX6_297 dX6_surge_28 rfl (s_changes (i := 2) hN.z hH.z (by omega) (fun m1 ha1 hk1 hN1 hH1 => ?_))
    refine x_goto (tgt := 35) dX6_surge_31 (by decide) ?_
    exact x_iret dX6_surge_35  (hP _ _ (Or.inr ⟨hp1, rfl, ha1.wk (by decide), hk1, hN1, hH1⟩))

set_option maxRecDepth 20000 in
theorem s_mcancel {E : xE} {f : Nat → Nat} {D : Nat → Nat × Nat} {n : Nat} {m : xM} {P : xPo} {PX : xPx} {v : Nat → Int} {h : List (Nat → Int)} {x : Int} (hv : vOk v) (hN : mN v m) (hH : mH h m) (hx : -2147483648 ≤ x ∧ x ≤ 2147483647) (hP : ∀ m' r, moA (rf2 (0 ≤ x ∧ x < v 5) (bk v x.toNat) 0 2) ((0 ≤ x ∧ x < v 5) ∧ (bk v x.toNat)) (fun r => r = sh v x.toNat 6) (vup (vup v (60 + 8 * x.toNat + 6) (-1)) (60 + 8 * x.toNat + 7) (-1)) (psh h v) m m' r → P (some (vi r)) (gS f D n) m') : xC E (yX6_cancel, cX6_cancel, 3, some .int) 2 0 0 [vr E 96, vi x] (gS f D n) m P PX := by
  refine x_enter (by decide) rfl rfl (Nat.le_of_ble_eq_true rfl) ?_
  have hv5 := hv.1.2.2.2.2.2.1
  have hv4 := hv.1.2.2.2.2.1.1
  have hv3 := hv.1.2.2.2.1.1
  refine x_aload_n dX6_cancel_0 rfl ?_
  refine x_iconst dX6_cancel_1 ?_
  refine x_putI fX6_1 dX6_cancel_2 rfl (by decide) rfl rfl ?_
  refine x_aload_n dX6_cancel_5 rfl ?_
  refine x_aload_n dX6_cancel_6 rfl ?_
  refine x_iload_n dX6_cancel_7 rfl ?_
  refine x_V1 mX6_300 dX6_cancel_8 rfl (s_isShip hv hN.z hx ?_)
  refine x_iconst dX6_cancel_11 ?_
  refine x_iconst dX6_cancel_12 ?_
  refine x_V3 mX6_196 dX6_cancel_13 rfl (s_isFine (p := 0 ≤ x ∧ x < v 5) (c := 1) (k := 0) th_0 (by omega) (by omega) (fun m1 r1 hf1 => ?_))
  refine x_if_eq (tgt := 33) dX6_cancel_16 (by decide) hf1.r (fun h16 => ?_) (fun h16 => ?_)
  · obtain ⟨hp1, rfl⟩ := hf1.f h16
    refine x_iconst dX6_cancel_33 ?_
    exact x_iret dX6_cancel_34  (hP _ 0 (Or.inl ⟨1, _, _, Or.inl ⟨hp1, rfl, rfl⟩, ag.rf, rfl⟩))
  · obtain ⟨hp1, rfl⟩ := hf1.t h16
    obtain ⟨s, rfl⟩ := nat_of hp1.1
    refine x_aload_n dX6_cancel_19 rfl ?_
    refine x_aload_n dX6_cancel_20 rfl ?_
    refine x_iload_n dX6_cancel_21 rfl ?_
    refine x_V1 mX6_309 dX6_cancel_22 rfl (s_misBooked (s := s) hv hN.z hp1.2 ?_)
    refine x_iconst dX6_cancel_25 ?_
    refine x_iconst dX6_cancel_26 ?_
    refine x_V3 mX6_196 dX6_cancel_27 rfl (s_isFine (p := bk v s) (c := 2) (k := 2) th_0 (by omega) (by omega) (fun m2 r2 hf2 => ?_))
    refine x_if_ne (tgt := 35) dX6_cancel_30 (by decide) hf2.r (fun h30 => ?_) (fun h30 => ?_)
    · obtain ⟨hp2, rfl⟩ := hf2.t h30
      refine x_aload_n dX6_cancel_35 rfl ?_
      refine x_bipush dX6_cancel_36 (h := ?_)
      refine x_bipush dX6_cancel_38 (h := ?_)
      refine x_iload_n dX6_cancel_40 rfl ?_
      refine x_imul dX6_cancel_41 ?_
      refine x_iadd dX6_cancel_42 ?_
      refine x_bipush dX6_cancel_43 (h := ?_)
      refine x_iadd dX6_cancel_45 ?_
      refine x_top (show 60 + 8 * (s : Int) + 6 = ((60 + 8 * s + 6 : Nat) : Int) by omega) ?_
      refine x_iconst dX6_cancel_46 ?_
      refine x_V2 mX6_297 dX6_cancel_47 rfl (s_changes (i := 60 + 8 * s + 6) hN.z hH.z (by omega) (fun m1 ha1 hk1 hN1 hH1 => ?_))
      refine x_istore_n dX6_cancel_50 ?_
      refine x_aload_n dX6_cancel_51 rfl ?_
      refine x_getR (r := 98) fX6_17 dX6_cancel_52 rfl rfl ?_
      refine x_bipush dX6_cancel_55 (h := ?_)
      refine x_bipush dX6_cancel_57 (h := ?_)
      refine x_iload_n dX6_cancel_59 rfl ?_
      refine x_imul dX6_cancel_60 ?_
      refine x_iadd dX6_cancel_61 ?_
      refine x_bipush dX6_cancel_62 (h := ?_)
      refine x_iadd dX6_cancel_64 ?_
      refine x_iconst dX6_cancel_65 ?_
      refine x_iast (j := 60 + 8 * s + 7) dX6_cancel_66 rfl (by decide) (by omega) (show _ < 709 by omega) (by omega) ?_
      refine x_iload_n dX6_cancel_67 rfl ?_
      exact x_iret dX6_cancel_68  (hP _ _ (Or.inr ⟨⟨hp1, hp2⟩, rfl, (ha1.wk (by decide)).u (by decide), fun j hj => by rw [xu_ne (by decide)]; exact hk1 j hj, hN1.u, hH1.ag (by rw [xu_ne (by decide)]) (xu_ne (by decide))⟩))
    · obtain ⟨hp2, rfl⟩ := hf2.f h30
      refine x_iconst dX6_cancel_33 ?_
      exact x_iret dX6_cancel_34  (hP _ 0 (Or.inl ⟨2, _, _, Or.inr ⟨hp1, hp2, rfl, rfl⟩, ag.rf, rfl⟩))

end MV
