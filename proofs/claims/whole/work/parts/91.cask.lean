section CK
set_option maxRecDepth 20000 in
theorem s_cwave {E : xE} {f : Nat → Nat} {D : Nat → Nat × Nat} {n : Nat} {m : xM} {P : xPo} {PX : xPx} {v : Nat → Int} {x y : Int} (hE : eOk E) (hV : cV v f D m) (hx : -2147483648 ≤ x ∧ x ≤ 2147483647) (hy : -2147483648 ≤ y ∧ y ≤ 2147483647) (hX : ∀ k9 q9 m1, (rf2 (0 ≤ x ∧ x < v 3) (0 ≤ y ∧ y ≤ 2) 0 1) k9 q9 → ag [] m m1 → cT v m1 → ∀ j, PX (xcls q9) (gS f D (n + j)) (crf m1 q9)) (hP : ∀ m' r, ((0 ≤ x ∧ x < v 3) ∧ (0 ≤ y ∧ y ≤ 2)) → (fun r => r = wv v x.toNat y.toNat) r → ag [] m m' → cT v m' → P (some (vi r)) (gS f D n) m') : xC E (yX5_wave, cX5_wave, 3, some .int) 12 8 64 [vr E 40, vi x, vi y] (gS f D n) m P PX := by
  refine x_enter (by decide) rfl rfl (Nat.le_of_ble_eq_true rfl) ?_
  have hT := hV.2.1
  have hC := hT.1
  have hv := hV.1.1
  have hv5 := hv.2.2.2.2.2.1
  have hv4 := hv.2.2.2.2.1.1
  have hv3 := hv.2.2.2.1.1
  refine x_iload_n dX5_wave_0 rfl ?_
  refine x_if_lt (tgt := 15) dX5_wave_1 (by decide) (by omega) (fun h1 => ?_) (fun h1 => ?_)
  · refine x_aload_n dX5_wave_15 rfl ?_
    exact x_V0 mX5_159 dX5_wave_16 rfl (s_refuseMissing (hX 1 0 m (Or.inl ⟨by omega, rfl, rfl⟩) ag.rf hT))
  · refine x_iload_n dX5_wave_4 rfl ?_
    refine x_aload_n dX5_wave_5 rfl ?_
    refine x_getR (r := 41) fX5_10 dX5_wave_6 rfl rfl ?_
    refine x_getI fX5_146 dX5_wave_9 rfl ?_
    refine x_top (hC.2.1.1) ?_
    refine x_icmp_lt (tgt := 19) dX5_wave_12 (by decide) (by omega) (fun h12 => ?_) (fun h12 => ?_)
    · have h1 : 0 ≤ x ∧ x < v 3 := by omega
      refine x_aload_n dX5_wave_19 rfl ?_
      refine x_iload_n dX5_wave_20 rfl ?_
      refine x_iconst dX5_wave_21 ?_
      refine x_iconst dX5_wave_22 ?_
      refine x_V3 mX5_65 dX5_wave_23 rfl (s_needWithin hy (by omega) (by omega) (fun hn => hX 2 1 m (Or.inr ⟨h1, hn, rfl, rfl⟩) ag.rf hT) (fun h2 => ?_))
      obtain ⟨w, rfl⟩ := nat_of h1.1
      obtain ⟨j, rfl⟩ := nat_of h2.1
      refine x_aload_n dX5_wave_26 rfl ?_
      refine x_getR (r := 41) fX5_10 dX5_wave_27 rfl rfl ?_
      refine x_iload_n dX5_wave_30 rfl ?_
      refine x_iload_n dX5_wave_31 rfl ?_
      refine x_V2 mX5_162 dX5_wave_32 rfl (s_waveOf (3 * w + j) (by omega) (by omega) ?_)
      refine x_top (hC.2.1.w h1.2 (by omega)) ?_
      exact x_iret dX5_wave_35  (hP _ _ ⟨h1, h2⟩ rfl ag.rf hT)
    · refine x_aload_n dX5_wave_15 rfl ?_
      exact x_V0 mX5_159 dX5_wave_16 rfl (s_refuseMissing (hX 1 0 m (Or.inl ⟨by omega, rfl, rfl⟩) ag.rf hT))

set_option maxRecDepth 20000 in
theorem s_cbar {E : xE} {f : Nat → Nat} {D : Nat → Nat × Nat} {n : Nat} {m : xM} {P : xPo} {PX : xPx} {v : Nat → Int} {x y : Int} (hE : eOk E) (hV : cV v f D m) (hx : -2147483648 ≤ x ∧ x ≤ 2147483647) (hy : -2147483648 ≤ y ∧ y ≤ 2147483647) (hX : ∀ k9 q9 m1, (rf2 (0 ≤ x ∧ x < v 4) (0 ≤ y ∧ y ≤ 5) 0 1) k9 q9 → ag [] m m1 → cT v m1 → ∀ j, PX (xcls q9) (gS f D (n + j)) (crf m1 q9)) (hP : ∀ m' r, ((0 ≤ x ∧ x < v 4) ∧ (0 ≤ y ∧ y ≤ 5)) → (fun r => r = br v x.toNat y.toNat) r → ag [] m m' → cT v m' → P (some (vi r)) (gS f D n) m') : xC E (yX5_bar, cX5_bar, 3, some .int) 12 8 64 [vr E 40, vi x, vi y] (gS f D n) m P PX := by
  refine x_enter (by decide) rfl rfl (Nat.le_of_ble_eq_true rfl) ?_
  have hT := hV.2.1
  have hC := hT.1
  have hv := hV.1.1
  have hv5 := hv.2.2.2.2.2.1
  have hv4 := hv.2.2.2.2.1.1
  have hv3 := hv.2.2.2.1.1
  refine x_aload_n dX5_bar_0 rfl ?_
  refine x_iload_n dX5_bar_1 rfl ?_
  refine x_V1 mX5_95 dX5_bar_2 rfl (s_needBar hx hv4 hC (fun hn => hX 1 0 m (Or.inl ⟨hn, rfl, rfl⟩) ag.rf hT) (fun h1 => ?_))
  refine x_aload_n dX5_bar_5 rfl ?_
  refine x_iload_n dX5_bar_6 rfl ?_
  refine x_iconst dX5_bar_7 ?_
  refine x_iconst dX5_bar_8 ?_
  refine x_V3 mX5_65 dX5_bar_9 rfl (s_needWithin hy (by omega) (by omega) (fun hn => hX 2 1 m (Or.inr ⟨h1, hn, rfl, rfl⟩) ag.rf hT) (fun h2 => ?_))
  obtain ⟨w, rfl⟩ := nat_of h1.1
  obtain ⟨j, rfl⟩ := nat_of h2.1
  refine x_aload_n dX5_bar_12 rfl ?_
  refine x_getR (r := 41) fX5_10 dX5_bar_13 rfl rfl ?_
  refine x_iload_n dX5_bar_16 rfl ?_
  refine x_iload_n dX5_bar_17 rfl ?_
  refine x_V2 mX5_98 dX5_bar_18 rfl (s_barOf (6 * w + j) (by omega) (by omega) ?_)
  refine x_top (hC.2.2.1.b h1.2 (by omega)) ?_
  exact x_iret dX5_bar_21  (hP _ _ ⟨h1, h2⟩ rfl ag.rf hT)

set_option maxRecDepth 20000 in
theorem s_cship {E : xE} {f : Nat → Nat} {D : Nat → Nat × Nat} {n : Nat} {m : xM} {P : xPo} {PX : xPx} {v : Nat → Int} {x y : Int} (hE : eOk E) (hV : cV v f D m) (hx : -2147483648 ≤ x ∧ x ≤ 2147483647) (hy : -2147483648 ≤ y ∧ y ≤ 2147483647) (hX : ∀ k9 q9 m1, (rf2 (0 ≤ x ∧ x < v 5) (0 ≤ y ∧ y ≤ 7) 0 1) k9 q9 → ag [] m m1 → cT v m1 → ∀ j, PX (xcls q9) (gS f D (n + j)) (crf m1 q9)) (hP : ∀ m' r, ((0 ≤ x ∧ x < v 5) ∧ (0 ≤ y ∧ y ≤ 7)) → (fun r => r = sh v x.toNat y.toNat) r → ag [] m m' → cT v m' → P (some (vi r)) (gS f D n) m') : xC E (yX5_ship, cX5_ship, 3, some .int) 12 8 64 [vr E 40, vi x, vi y] (gS f D n) m P PX := by
  refine x_enter (by decide) rfl rfl (Nat.le_of_ble_eq_true rfl) ?_
  have hT := hV.2.1
  have hC := hT.1
  have hv := hV.1.1
  have hv5 := hv.2.2.2.2.2.1
  have hv4 := hv.2.2.2.2.1.1
  have hv3 := hv.2.2.2.1.1
  refine x_aload_n dX5_ship_0 rfl ?_
  refine x_iload_n dX5_ship_1 rfl ?_
  refine x_V1 mX5_106 dX5_ship_2 rfl (s_needShip hx hv5 hC (fun hn => hX 1 0 m (Or.inl ⟨hn, rfl, rfl⟩) ag.rf hT) (fun h1 => ?_))
  refine x_aload_n dX5_ship_5 rfl ?_
  refine x_iload_n dX5_ship_6 rfl ?_
  refine x_iconst dX5_ship_7 ?_
  refine x_bipush dX5_ship_8 (h := ?_)
  refine x_V3 mX5_65 dX5_ship_10 rfl (s_needWithin hy (by omega) (by omega) (fun hn => hX 2 1 m (Or.inr ⟨h1, hn, rfl, rfl⟩) ag.rf hT) (fun h2 => ?_))
  obtain ⟨w, rfl⟩ := nat_of h1.1
  obtain ⟨j, rfl⟩ := nat_of h2.1
  refine x_aload_n dX5_ship_13 rfl ?_
  refine x_getR (r := 41) fX5_10 dX5_ship_14 rfl rfl ?_
  refine x_iload_n dX5_ship_17 rfl ?_
  refine x_iload_n dX5_ship_18 rfl ?_
  refine x_V2 mX5_109 dX5_ship_19 rfl (s_shipOf (8 * w + j) (by omega) (by omega) ?_)
  refine x_top (hC.2.2.2.s h1.2 (by omega)) ?_
  exact x_iret dX5_ship_22  (hP _ _ ⟨h1, h2⟩ rfl ag.rf hT)

set_option maxRecDepth 20000 in
theorem s_cheight {E : xE} {f : Nat → Nat} {D : Nat → Nat × Nat} {n : Nat} {m : xM} {P : xPo} {PX : xPx} {v : Nat → Int} {x : Int} (hE : eOk E) (hV : cV v f D m) (hx : -2147483648 ≤ x ∧ x ≤ 2147483647) (hX : ∀ k9 q9 m1, (rf1 (0 ≤ x ∧ x ≤ 10000) 1) k9 q9 → ag [86, 87] m m1 → cT v m1 → ∀ j, PX (xcls q9) (gS f D (n + j)) (crf m1 q9)) (hP : ∀ m' r, (0 ≤ x ∧ x ≤ 10000) → (fun r => r = ht v x) r → ag [86, 87] m m' → cT v m' → P (some (vi r)) (gS f D n) m') : xC E (yX5_height, cX5_height, 2, some .int) 12 8 64 [vr E 40, vi x] (gS f D n) m P PX := by
  refine x_enter (by decide) rfl rfl (Nat.le_of_ble_eq_true rfl) ?_
  have hT := hV.2.1
  have hC := hT.1
  have hv := hV.1.1
  have hv5 := hv.2.2.2.2.2.1
  have hv4 := hv.2.2.2.2.1.1
  have hv3 := hv.2.2.2.1.1
  refine x_aload_n dX5_height_0 rfl ?_
  refine x_iload_n dX5_height_1 rfl ?_
  refine x_V1 mX5_165 dX5_height_2 rfl (s_needMinute hx (fun hn => hX 1 1 m (⟨hn, rfl, rfl⟩) ag.rf hT) (fun h1 => ?_))
  refine x_aload_n dX5_height_5 rfl ?_
  refine x_getR (r := 86) fX5_41 dX5_height_6 rfl rfl ?_
  refine x_iload_n dX5_height_9 rfl ?_
  refine x_V1 mX5_168 dX5_height_10 rfl (s_heightAt hv hT (by omega) (fun m1 ha1 hT1 => ?_))
  exact x_iret dX5_height_13  (hP _ _ h1 rfl ha1 hT1)

set_option maxRecDepth 20000 in
theorem s_cwater {E : xE} {f : Nat → Nat} {D : Nat → Nat × Nat} {n : Nat} {m : xM} {P : xPo} {PX : xPx} {v : Nat → Int} {x y : Int} (hE : eOk E) (hV : cV v f D m) (hx : -2147483648 ≤ x ∧ x ≤ 2147483647) (hy : -2147483648 ≤ y ∧ y ≤ 2147483647) (hX : ∀ k9 q9 m1, (rf2 (0 ≤ x ∧ x < v 4) (0 ≤ y ∧ y ≤ 10000) 0 1) k9 q9 → ag [86, 87] m m1 → cT v m1 → ∀ j, PX (xcls q9) (gS f D (n + j)) (crf m1 q9)) (hP : ∀ m' r, ((0 ≤ x ∧ x < v 4) ∧ (0 ≤ y ∧ y ≤ 10000)) → (fun r => r = wa v x.toNat y) r → ag [86, 87] m m' → cT v m' → P (some (vi r)) (gS f D n) m') : xC E (yX5_water, cX5_water, 3, some .int) 12 8 64 [vr E 40, vi x, vi y] (gS f D n) m P PX := by
  refine x_enter (by decide) rfl rfl (Nat.le_of_ble_eq_true rfl) ?_
  have hT := hV.2.1
  have hC := hT.1
  have hv := hV.1.1
  have hv5 := hv.2.2.2.2.2.1
  have hv4 := hv.2.2.2.2.1.1
  have hv3 := hv.2.2.2.1.1
  refine x_aload_n dX5_water_0 rfl ?_
  refine x_iload_n dX5_water_1 rfl ?_
  refine x_V1 mX5_95 dX5_water_2 rfl (s_needBar hx hv4 hC (fun hn => hX 1 0 m (Or.inl ⟨hn, rfl, rfl⟩) ag.rf hT) (fun h1 => ?_))
  refine x_aload_n dX5_water_5 rfl ?_
  refine x_iload_n dX5_water_6 rfl ?_
  refine x_V1 mX5_165 dX5_water_7 rfl (s_needMinute hy (fun hn => hX 2 1 m (Or.inr ⟨h1, hn, rfl, rfl⟩) ag.rf hT) (fun h2 => ?_))
  obtain ⟨b, rfl⟩ := nat_of h1.1
  refine x_aload_n dX5_water_10 rfl ?_
  refine x_getR (r := 86) fX5_41 dX5_water_11 rfl rfl ?_
  refine x_iload_n dX5_water_14 rfl ?_
  refine x_iload_n dX5_water_15 rfl ?_
  refine x_V2 mX5_171 dX5_water_16 rfl (s_waterAt hv hT h1.2 (by omega) (fun m1 ha1 hT1 => ?_))
  exact x_iret dX5_water_19  (hP _ _ ⟨h1, h2⟩ rfl ha1 hT1)

set_option maxRecDepth 20000 in
theorem s_clasts {E : xE} {f : Nat → Nat} {D : Nat → Nat × Nat} {n : Nat} {m : xM} {P : xPo} {PX : xPx} {v : Nat → Int} {x y : Int} (hE : eOk E) (hV : cV v f D m) (hx : -2147483648 ≤ x ∧ x ≤ 2147483647) (hy : -2147483648 ≤ y ∧ y ≤ 2147483647) (hX : ∀ k9 q9 m1, (rf2 (0 ≤ x ∧ x < v 5) (4 ≤ y ∧ y ≤ 25) 0 1) k9 q9 → ag [] m m1 → cT v m1 → ∀ j, PX (xcls q9) (gS f D (n + j)) (crf m1 q9)) (hP : ∀ m' r, ((0 ≤ x ∧ x < v 5) ∧ (4 ≤ y ∧ y ≤ 25)) → (fun r => r = pt v x.toNat y) r → ag [] m m' → cT v m' → P (some (vi r)) (gS f D n) m') : xC E (yX5_lasts, cX5_lasts, 3, some .int) 12 8 64 [vr E 40, vi x, vi y] (gS f D n) m P PX := by
  refine x_enter (by decide) rfl rfl (Nat.le_of_ble_eq_true rfl) ?_
  have hT := hV.2.1
  have hC := hT.1
  have hv := hV.1.1
  have hv5 := hv.2.2.2.2.2.1
  have hv4 := hv.2.2.2.2.1.1
  have hv3 := hv.2.2.2.1.1
  refine x_aload_n dX5_lasts_0 rfl ?_
  refine x_iload_n dX5_lasts_1 rfl ?_
  refine x_V1 mX5_106 dX5_lasts_2 rfl (s_needShip hx hv5 hC (fun hn => hX 1 0 m (Or.inl ⟨hn, rfl, rfl⟩) ag.rf hT) (fun h1 => ?_))
  refine x_aload_n dX5_lasts_5 rfl ?_
  refine x_iload_n dX5_lasts_6 rfl ?_
  refine x_V1 mX5_205 dX5_lasts_7 rfl (s_needSpeed hy (fun hn => hX 2 1 m (Or.inr ⟨h1, hn, rfl, rfl⟩) ag.rf hT) (fun h2 => ?_))
  obtain ⟨s, rfl⟩ := nat_of h1.1
  refine x_aload_n dX5_lasts_10 rfl ?_
  refine x_getR (r := 41) fX5_10 dX5_lasts_11 rfl rfl ?_
  refine x_iload_n dX5_lasts_14 rfl ?_
  refine x_iload_n dX5_lasts_15 rfl ?_
  refine x_V2 mX5_136 dX5_lasts_16 rfl (s_passageTime hv hC h1.2 h2 ?_)
  exact x_iret dX5_lasts_19  (hP _ _ ⟨h1, h2⟩ rfl ag.rf hT)

set_option maxRecDepth 20000 in
theorem s_csquat {E : xE} {f : Nat → Nat} {D : Nat → Nat × Nat} {n : Nat} {m : xM} {P : xPo} {PX : xPx} {v : Nat → Int} {x y z w : Int} (hE : eOk E) (hV : cV v f D m) (hx : -2147483648 ≤ x ∧ x ≤ 2147483647) (hy : -2147483648 ≤ y ∧ y ≤ 2147483647) (hz : -2147483648 ≤ z ∧ z ≤ 2147483647) (hw : -2147483648 ≤ w ∧ w ≤ 2147483647) (hX : ∀ k9 q9 m1, (rf2 ((0 ≤ x ∧ x < v 5) ∧ (0 ≤ y ∧ y < v 4)) ((0 ≤ z ∧ z ≤ 10000) ∧ (4 ≤ w ∧ w ≤ 25)) 0 1) k9 q9 → ag [86, 87, 89] m m1 → cT v m1 → ∀ j, PX (xcls q9) (gS f D (n + j)) (crf m1 q9)) (hP : ∀ m' r, (((0 ≤ x ∧ x < v 5) ∧ (0 ≤ y ∧ y < v 4)) ∧ ((0 ≤ z ∧ z ≤ 10000) ∧ (4 ≤ w ∧ w ≤ 25))) → (fun r => r = sk v x.toNat (sh v x.toNat 0) (wa v y.toNat z) w) r → ag [86, 87, 89] m m' → cT v m' → P (some (vi r)) (gS f D n) m') : xC E (yX5_squat, cX5_squat, 5, some .int) 12 8 64 [vr E 40, vi x, vi y, vi z, vi w] (gS f D n) m P PX := by
  refine x_enter (by decide) rfl rfl (Nat.le_of_ble_eq_true rfl) ?_
  have hT := hV.2.1
  have hC := hT.1
  have hv := hV.1.1
  have hv5 := hv.2.2.2.2.2.1
  have hv4 := hv.2.2.2.2.1.1
  have hv3 := hv.2.2.2.1.1
  refine x_aload_n dX5_squat_0 rfl ?_
  refine x_iload_n dX5_squat_1 rfl ?_
  refine x_iload_n dX5_squat_2 rfl ?_
  refine x_iload_n dX5_squat_3 rfl ?_
  refine x_iload dX5_squat_4 rfl ?_
  refine x_V4 mX5_174 dX5_squat_6 rfl (s_needShipAtBar hx hy hz hw hv hC (fun k q hr => hX k q m hr ag.rf hT) (fun h1 h2 => ?_))
  obtain ⟨s, rfl⟩ := nat_of h1.1.1
  obtain ⟨b, rfl⟩ := nat_of h1.2.1
  obtain ⟨hdr, -⟩ := hv.2.2.2.2.2.2 s h1.1.2
  have hwb := wa_b (t := z) hv h1.2.2
  refine x_aload_n dX5_squat_9 rfl ?_
  refine x_getR (r := 88) fX5_50 dX5_squat_10 rfl rfl ?_
  refine x_iload_n dX5_squat_13 rfl ?_
  refine x_iload dX5_squat_14 rfl ?_
  refine x_aload_n dX5_squat_16 rfl ?_
  refine x_getR (r := 41) fX5_10 dX5_squat_17 rfl rfl ?_
  refine x_iload_n dX5_squat_20 rfl ?_
  refine x_iconst dX5_squat_21 ?_
  refine x_V2 mX5_109 dX5_squat_22 rfl (s_shipOf (8 * s + 0) (by omega) (by omega) ?_)
  refine x_top (hC.2.2.2.s h1.1.2 (by omega)) ?_
  refine x_aload_n dX5_squat_25 rfl ?_
  refine x_getR (r := 86) fX5_41 dX5_squat_26 rfl rfl ?_
  refine x_iload_n dX5_squat_29 rfl ?_
  refine x_iload_n dX5_squat_30 rfl ?_
  refine x_V2 mX5_171 dX5_squat_31 rfl (s_waterAt hv hT h1.2.2 (by omega) (fun m1 ha1 hT1 => ?_))
  refine x_V4 mX5_178 dX5_squat_34 rfl (s_sinks hE (hV.t ha1 hT1 (by decide) (by decide)) h1.1.2 h2.2 (by omega) (by omega) (fun m2 ha2 => ?_))
  exact x_iret dX5_squat_37  (hP _ _ ⟨h1, h2⟩ rfl (ha1.tr ha2 (by decide) (by decide)) (hT1.ag ha2 (by decide) (by decide) (by decide) (by decide) (by decide) (by decide)))

set_option maxRecDepth 20000 in
theorem s_cleft {E : xE} {f : Nat → Nat} {D : Nat → Nat × Nat} {n : Nat} {m : xM} {P : xPo} {PX : xPx} {v : Nat → Int} {x y z w : Int} (hE : eOk E) (hV : cV v f D m) (hx : -2147483648 ≤ x ∧ x ≤ 2147483647) (hy : -2147483648 ≤ y ∧ y ≤ 2147483647) (hz : -2147483648 ≤ z ∧ z ≤ 2147483647) (hw : -2147483648 ≤ w ∧ w ≤ 2147483647) (hX : ∀ k9 q9 m1, (rf2 ((0 ≤ x ∧ x < v 5) ∧ (0 ≤ y ∧ y < v 4)) ((0 ≤ z ∧ z ≤ 10000) ∧ (4 ≤ w ∧ w ≤ 25)) 0 1) k9 q9 → ag [86, 87, 89] m m1 → cT v m1 → ∀ j, PX (xcls q9) (gS f D (n + j)) (crf m1 q9)) (hP : ∀ m' r, (((0 ≤ x ∧ x < v 5) ∧ (0 ≤ y ∧ y < v 4)) ∧ ((0 ≤ z ∧ z ≤ 10000) ∧ (4 ≤ w ∧ w ≤ 25))) → (fun r => r = lfw v x.toNat (sh v x.toNat 0) (wa v y.toNat z) w) r → ag [86, 87, 89] m m' → cT v m' → P (some (vi r)) (gS f D n) m') : xC E (yX5_left, cX5_left, 5, some .int) 12 8 64 [vr E 40, vi x, vi y, vi z, vi w] (gS f D n) m P PX := by
  refine x_enter (by decide) rfl rfl (Nat.le_of_ble_eq_true rfl) ?_
  have hT := hV.2.1
  have hC := hT.1
  have hv := hV.1.1
  have hv5 := hv.2.2.2.2.2.1
  have hv4 := hv.2.2.2.2.1.1
  have hv3 := hv.2.2.2.1.1
  refine x_aload_n dX5_left_0 rfl ?_
  refine x_iload_n dX5_left_1 rfl ?_
  refine x_iload_n dX5_left_2 rfl ?_
  refine x_iload_n dX5_left_3 rfl ?_
  refine x_iload dX5_left_4 rfl ?_
  refine x_V4 mX5_174 dX5_left_6 rfl (s_needShipAtBar hx hy hz hw hv hC (fun k q hr => hX k q m hr ag.rf hT) (fun h1 h2 => ?_))
  obtain ⟨s, rfl⟩ := nat_of h1.1.1
  obtain ⟨b, rfl⟩ := nat_of h1.2.1
  obtain ⟨hdr, -⟩ := hv.2.2.2.2.2.2 s h1.1.2
  have hwb := wa_b (t := z) hv h1.2.2
  refine x_aload_n dX5_left_9 rfl ?_
  refine x_getR (r := 88) fX5_50 dX5_left_10 rfl rfl ?_
  refine x_iload_n dX5_left_13 rfl ?_
  refine x_iload dX5_left_14 rfl ?_
  refine x_aload_n dX5_left_16 rfl ?_
  refine x_getR (r := 41) fX5_10 dX5_left_17 rfl rfl ?_
  refine x_iload_n dX5_left_20 rfl ?_
  refine x_iconst dX5_left_21 ?_
  refine x_V2 mX5_109 dX5_left_22 rfl (s_shipOf (8 * s + 0) (by omega) (by omega) ?_)
  refine x_top (hC.2.2.2.s h1.1.2 (by omega)) ?_
  refine x_aload_n dX5_left_25 rfl ?_
  refine x_getR (r := 86) fX5_41 dX5_left_26 rfl rfl ?_
  refine x_iload_n dX5_left_29 rfl ?_
  refine x_iload_n dX5_left_30 rfl ?_
  refine x_V2 mX5_171 dX5_left_31 rfl (s_waterAt hv hT h1.2.2 (by omega) (fun m1 ha1 hT1 => ?_))
  refine x_V4 mX5_182 dX5_left_34 rfl (s_belowKeel hE (hV.t ha1 hT1 (by decide) (by decide)) h1.1.2 h2.2 (by omega) (by omega) (fun m2 ha2 => ?_))
  exact x_iret dX5_left_37  (hP _ _ ⟨h1, h2⟩ rfl (ha1.tr ha2 (by decide) (by decide)) (hT1.ag ha2 (by decide) (by decide) (by decide) (by decide) (by decide) (by decide)))

set_option maxRecDepth 20000 in
theorem s_cleast {E : xE} {f : Nat → Nat} {D : Nat → Nat × Nat} {n : Nat} {m : xM} {P : xPo} {PX : xPx} {v : Nat → Int} {x y z : Int} (hE : eOk E) (hV : cV v f D m) (hx : -2147483648 ≤ x ∧ x ≤ 2147483647) (hy : -2147483648 ≤ y ∧ y ≤ 2147483647) (hz : -2147483648 ≤ z ∧ z ≤ 2147483647) (hX : ∀ k9 q9 m1, (rf2 (0 ≤ x ∧ x < v 5) ((0 ≤ y ∧ y ≤ 10000) ∧ (4 ≤ z ∧ z ≤ 25)) 0 1) k9 q9 → ag [86, 87, 89, 90] m m1 → cT v m1 → ∀ j, PX (xcls q9) (gS f D (n + j)) (crf m1 q9)) (hP : ∀ m' r, ((0 ≤ x ∧ x < v 5) ∧ ((0 ≤ y ∧ y ≤ 10000) ∧ (4 ≤ z ∧ z ≤ 25))) → (fun r => r = lst v x.toNat y z) r → ag [86, 87, 89, 90] m m' → cT v m' → P (some (vi r)) (gS f D n) m') : xC E (yX5_least, cX5_least, 4, some .int) 12 8 64 [vr E 40, vi x, vi y, vi z] (gS f D n) m P PX := by
  refine x_enter (by decide) rfl rfl (Nat.le_of_ble_eq_true rfl) ?_
  have hT := hV.2.1
  have hC := hT.1
  have hv := hV.1.1
  have hv5 := hv.2.2.2.2.2.1
  have hv4 := hv.2.2.2.2.1.1
  have hv3 := hv.2.2.2.1.1
  refine x_aload_n dX5_least_0 rfl ?_
  refine x_iload_n dX5_least_1 rfl ?_
  refine x_iload_n dX5_least_2 rfl ?_
  refine x_iload_n dX5_least_3 rfl ?_
  refine x_V3 mX5_199 dX5_least_4 rfl (s_needPassage hx hy hz hv hC (fun k q hr => hX k q m hr ag.rf hT) (fun h1 h2 => ?_))
  obtain ⟨s, rfl⟩ := nat_of h1.1
  refine x_aload_n dX5_least_7 rfl ?_
  refine x_getR (r := 88) fX5_50 dX5_least_8 rfl rfl ?_
  refine x_iload_n dX5_least_11 rfl ?_
  refine x_iload_n dX5_least_12 rfl ?_
  refine x_iload_n dX5_least_13 rfl ?_
  refine x_V3 mX5_208 dX5_least_14 rfl (s_leastBelowKeel hE hV h1.2 h2.2 (by omega) (fun m1 ha1 hT1 => ?_))
  exact x_iret dX5_least_17  (hP _ _ ⟨h1, h2⟩ rfl ha1 hT1)

set_option maxRecDepth 20000 in
theorem s_cdeepest {E : xE} {f : Nat → Nat} {D : Nat → Nat × Nat} {n : Nat} {m : xM} {P : xPo} {PX : xPx} {v : Nat → Int} {x y z : Int} (hE : eOk E) (hV : cV v f D m) (hx : -2147483648 ≤ x ∧ x ≤ 2147483647) (hy : -2147483648 ≤ y ∧ y ≤ 2147483647) (hz : -2147483648 ≤ z ∧ z ≤ 2147483647) (hX : ∀ k9 q9 m1, (rf2 (0 ≤ x ∧ x < v 5) ((0 ≤ y ∧ y ≤ 10000) ∧ (4 ≤ z ∧ z ≤ 25)) 0 1) k9 q9 → ag [86, 87, 89, 90] m m1 → cT v m1 → ∀ j, PX (xcls q9) (gS f D (n + j)) (crf m1 q9)) (hP : ∀ m' r, ((0 ≤ x ∧ x < v 5) ∧ ((0 ≤ y ∧ y ≤ 10000) ∧ (4 ≤ z ∧ z ≤ 25))) → (fun r => r = dps v x.toNat y z) r → ag [86, 87, 89, 90] m m' → cT v m' → P (some (vi r)) (gS f D n) m') : xC E (yX5_deepest, cX5_deepest, 4, some .int) 12 8 64 [vr E 40, vi x, vi y, vi z] (gS f D n) m P PX := by
  refine x_enter (by decide) rfl rfl (Nat.le_of_ble_eq_true rfl) ?_
  have hT := hV.2.1
  have hC := hT.1
  have hv := hV.1.1
  have hv5 := hv.2.2.2.2.2.1
  have hv4 := hv.2.2.2.2.1.1
  have hv3 := hv.2.2.2.1.1
  refine x_aload_n dX5_deepest_0 rfl ?_
  refine x_iload_n dX5_deepest_1 rfl ?_
  refine x_iload_n dX5_deepest_2 rfl ?_
  refine x_iload_n dX5_deepest_3 rfl ?_
  refine x_V3 mX5_199 dX5_deepest_4 rfl (s_needPassage hx hy hz hv hC (fun k q hr => hX k q m hr ag.rf hT) (fun h1 h2 => ?_))
  obtain ⟨s, rfl⟩ := nat_of h1.1
  refine x_aload_n dX5_deepest_7 rfl ?_
  refine x_getR (r := 88) fX5_50 dX5_deepest_8 rfl rfl ?_
  refine x_iload_n dX5_deepest_11 rfl ?_
  refine x_iload_n dX5_deepest_12 rfl ?_
  refine x_iload_n dX5_deepest_13 rfl ?_
  refine x_V3 mX5_211 dX5_deepest_14 rfl (s_deepestDraught hE hV h1.2 h2.2 (by omega) (fun m1 ha1 hT1 => ?_))
  exact x_iret dX5_deepest_17  (hP _ _ ⟨h1, h2⟩ rfl ha1 hT1)

set_option maxRecDepth 20000 in
theorem s_cclose {E : xE} {f : Nat → Nat} {D : Nat → Nat × Nat} {n : Nat} {m : xM} {P : xPo} {PX : xPx} {v : Nat → Int} {x y z : Int} (hE : eOk E) (hV : cV v f D m) (hx : -2147483648 ≤ x ∧ x ≤ 2147483647) (hy : -2147483648 ≤ y ∧ y ≤ 2147483647) (hz : -2147483648 ≤ z ∧ z ≤ 2147483647) (hX : ∀ k9 q9 m1, (rf2 (0 ≤ x ∧ x < v 5) ((0 ≤ y ∧ y ≤ 10000) ∧ (4 ≤ z ∧ z ≤ 25)) 0 1) k9 q9 → ag [] m m1 → cT v m1 → ∀ j, PX (xcls q9) (gS f D (n + j)) (crf m1 q9)) (hP : ∀ m' r, ((0 ≤ x ∧ x < v 5) ∧ ((0 ≤ y ∧ y ≤ 10000) ∧ (4 ≤ z ∧ z ≤ 25))) → (fun r => r = ((cset (cls v x.toNat y z) (v 5).toNat : Nat) : Int)) r → ag [] m m' → cT v m' → P (some (vi r)) (gS f D n) m') : xC E (yX5_close, cX5_close, 4, some .int) 12 8 64 [vr E 40, vi x, vi y, vi z] (gS f D n) m P PX := by
  refine x_enter (by decide) rfl rfl (Nat.le_of_ble_eq_true rfl) ?_
  have hT := hV.2.1
  have hC := hT.1
  have hv := hV.1.1
  have hv5 := hv.2.2.2.2.2.1
  have hv4 := hv.2.2.2.2.1.1
  have hv3 := hv.2.2.2.1.1
  refine x_aload_n dX5_close_0 rfl ?_
  refine x_iload_n dX5_close_1 rfl ?_
  refine x_iload_n dX5_close_2 rfl ?_
  refine x_iload_n dX5_close_3 rfl ?_
  refine x_V3 mX5_199 dX5_close_4 rfl (s_needPassage hx hy hz hv hC (fun k q hr => hX k q m hr ag.rf hT) (fun h1 h2 => ?_))
  obtain ⟨s, rfl⟩ := nat_of h1.1
  refine x_aload_n dX5_close_7 rfl ?_
  refine x_iload_n dX5_close_8 rfl ?_
  refine x_iload_n dX5_close_9 rfl ?_
  refine x_iload_n dX5_close_10 rfl ?_
  refine x_V3 mX5_126 dX5_close_11 rfl (s_closeTo hv hC h1.2 h2.2 (by omega) ?_)
  exact x_iret dX5_close_14  (hP _ _ ⟨h1, h2⟩ rfl ag.rf hT)

set_option maxRecDepth 20000 in
theorem s_csoonest {E : xE} {f : Nat → Nat} {D : Nat → Nat × Nat} {n : Nat} {m : xM} {P : xPo} {PX : xPx} {v : Nat → Int} {x y : Int} (hE : eOk E) (hV : cV v f D m) (hx : -2147483648 ≤ x ∧ x ≤ 2147483647) (hy : -2147483648 ≤ y ∧ y ≤ 2147483647) (hX : ∀ k9 q9 m1, (rf2 (0 ≤ x ∧ x < v 5) (0 ≤ y ∧ y ≤ 10000) 0 1) k9 q9 → ag [86, 87, 89, 90, 91, 93, 94] m m1 → cT v m1 → ∀ j, PX (xcls q9) (gS f D (n + j)) (crf m1 q9)) (hP : ∀ m' r, ((0 ≤ x ∧ x < v 5) ∧ (0 ≤ y ∧ y ≤ 10000)) → (fun r => soR v x.toNat y r) r → ag [86, 87, 89, 90, 91, 93, 94] m m' → cT v m' → P (some (vi r)) (gS f D n) m') : xC E (yX5_soonest, cX5_soonest, 3, some .int) 12 8 64 [vr E 40, vi x, vi y] (gS f D n) m P PX := by
  refine x_enter (by decide) rfl rfl (Nat.le_of_ble_eq_true rfl) ?_
  have hT := hV.2.1
  have hC := hT.1
  have hv := hV.1.1
  have hv5 := hv.2.2.2.2.2.1
  have hv4 := hv.2.2.2.2.1.1
  have hv3 := hv.2.2.2.1.1
  refine x_aload_n dX5_soonest_0 rfl ?_
  refine x_iload_n dX5_soonest_1 rfl ?_
  refine x_V1 mX5_106 dX5_soonest_2 rfl (s_needShip hx hv5 hC (fun hn => hX 1 0 m (Or.inl ⟨hn, rfl, rfl⟩) ag.rf hT) (fun h1 => ?_))
  refine x_aload_n dX5_soonest_5 rfl ?_
  refine x_iload_n dX5_soonest_6 rfl ?_
  refine x_V1 mX5_165 dX5_soonest_7 rfl (s_needMinute hy (fun hn => hX 2 1 m (Or.inr ⟨h1, hn, rfl, rfl⟩) ag.rf hT) (fun h2 => ?_))
  obtain ⟨s, rfl⟩ := nat_of h1.1
  refine x_aload_n dX5_soonest_10 rfl ?_
  refine x_getR (r := 88) fX5_50 dX5_soonest_11 rfl rfl ?_
  refine x_iload_n dX5_soonest_14 rfl ?_
  refine x_iload_n dX5_soonest_15 rfl ?_
  refine x_V2 mX5_214 dX5_soonest_16 rfl (s_soonestEnd hE hV h1.2 (by omega) (fun m1 r1 ha1 hT1 hr1 => ?_))
  exact x_iret dX5_soonest_19  (hP _ _ ⟨h1, h2⟩ hr1 ha1 hT1)

theorem hsg_b {v : Nat → Int} {w t : Int} (hv : vOk0 v) : -2147483648 ≤ hsg v w t ∧ hsg v w t ≤ 2147483647 := by
  have h := ht_b (t := t) hv
  unfold hsg
  split <;> omega
set_option maxRecDepth 20000 in
theorem s_cpeak {E : xE} {f : Nat → Nat} {D : Nat → Nat × Nat} {n : Nat} {m : xM} {P : xPo} {PX : xPx} {v : Nat → Int} {x y z : Int} (hE : eOk E) (hV : cV v f D m) (hx : -2147483648 ≤ x ∧ x ≤ 2147483647) (hy : -2147483648 ≤ y ∧ y ≤ 2147483647) (hz : -2147483648 ≤ z ∧ z ≤ 2147483647) (hX : ∀ k9 q9 m1, (rf1 ((0 ≤ x ∧ x ≤ 10000) ∧ (1 ≤ y ∧ y ≤ 2000) ∧ (0 ≤ z ∧ z ≤ 1)) 1) k9 q9 → ag [86, 87] m m1 → cT v m1 → ∀ j, PX (xcls q9) (gS f D (n + j)) (crf m1 q9)) (hP : ∀ m' r, ((0 ≤ x ∧ x ≤ 10000) ∧ (1 ≤ y ∧ y ≤ 2000) ∧ (0 ≤ z ∧ z ≤ 1)) → (fun r => pkR v x y z r) r → ag [86, 87] m m' → cT v m' → P (some (vi r)) (gS f D n) m') : xC E (yX5_peak, cX5_peak, 9, some .int) 12 8 64 [vr E 40, vi x, vi y, vi z] (gS f D n) m P PX := by
  refine x_enter (by decide) rfl rfl (Nat.le_of_ble_eq_true rfl) ?_
  have hT := hV.2.1
  have hC := hT.1
  have hv := hV.1.1
  have hv5 := hv.2.2.2.2.2.1
  have hv4 := hv.2.2.2.2.1.1
  have hv3 := hv.2.2.2.1.1
  have loop : ((0 ≤ x ∧ x ≤ 10000) ∧ (1 ≤ y ∧ y ≤ 2000) ∧ (0 ≤ z ∧ z ≤ 1)) → ∀ sg : Int, (∀ t, sg * ht v t = hsg v z t) → ∀ (j : Nat) (i b : Int) (m1 : xM), y < i + j → 1 ≤ i → i ≤ y → pkR v x (x + i - x) z b → ag [86, 87] m m1 → cT v m1 → xX E (("peak", some .int, []), (12, 8, 64), P, PX) RX5 cX5_peak 9 3 18 51 [(0, vr E 40), (1, vi x), (2, vi y), (3, vi z), (4, vi sg), (5, vi b), (6, vi (hsg v z b)), (7, vi i)] [] (gS f D n) m1 := by
    intro hp sg hsg9 j
    induction j with
    | zero => intro i b m1 h1 h2 h3; omega
    | succ j ih =>
      intro i b m1 h1 h2 h3 hpk ha1 hT1
      refine x_iload dX5_peak_51 rfl ?_
      refine x_iload_n dX5_peak_53 rfl ?_
      refine x_icmp_ge (tgt := 96) dX5_peak_54 (by decide) (by omega) (fun h54 => ?_) (fun h54 => ?_)
      · refine x_iload dX5_peak_96 rfl ?_
        exact x_iret dX5_peak_98  (hP _ _ hp (by rw [show y = x + i - x by omega]; exact hpk) ha1 hT1)
      · refine x_iload dX5_peak_57 rfl ?_
        refine x_aload_n dX5_peak_59 rfl ?_
        refine x_getR (r := 86) fX5_41 dX5_peak_60 rfl rfl ?_
        refine x_iload_n dX5_peak_63 rfl ?_
        refine x_iload dX5_peak_64 rfl ?_
        refine x_iadd dX5_peak_66 ?_
        refine x_V1 mX5_168 dX5_peak_67 rfl (s_heightAt hv hT1 (by omega) (fun m2 ha2 hT2 => ?_))
        refine x_imul dX5_peak_70 ?_
        refine x_top (show sg * ht v (x + i) = hsg v z (x + i) by exact hsg9 _) ?_
        have hb1 := hsg_b (w := z) (t := x + i) hv
        have hb2 := hsg_b (w := z) (t := b) hv
        refine x_istore dX5_peak_71 ?_
        refine x_iload dX5_peak_73 rfl ?_
        refine x_iload dX5_peak_75 rfl ?_
        refine x_icmp_le (tgt := 90) dX5_peak_77 (by decide) (by omega) (fun h77 => ?_) (fun h77 => ?_)
        · refine x_iinc dX5_peak_90 rfl ?_
          refine x_goto (tgt := 51) dX5_peak_93 (by decide) ?_
          exact x_loc (lv' := [(0, vr E 40), (1, vi x), (2, vi y), (3, vi z), (4, vi sg), (5, vi b), (6, vi (hsg v z b)), (7, vi (i + 1))]) ⟨rfl, rfl, rfl, rfl, rfl, rfl, rfl, xl_i rfl rfl, trivial⟩ (ih (i + 1) b m2 (by omega) (by omega) (by omega) (by rw [show x + (i + 1) - x = x + i + 1 - x by omega]; exact pk_no hpk (by omega)) (ha1.tr1 ha2) hT2)
        · refine x_iload_n dX5_peak_80 rfl ?_
          refine x_iload dX5_peak_81 rfl ?_
          refine x_iadd dX5_peak_83 ?_
          refine x_istore dX5_peak_84 ?_
          refine x_iload dX5_peak_86 rfl ?_
          refine x_istore dX5_peak_88 ?_
          refine x_iinc dX5_peak_90 rfl ?_
          refine x_goto (tgt := 51) dX5_peak_93 (by decide) ?_
          exact x_loc (lv' := [(0, vr E 40), (1, vi x), (2, vi y), (3, vi z), (4, vi sg), (5, vi (x + i)), (6, vi (hsg v z (x + i))), (7, vi (i + 1))]) ⟨rfl, rfl, rfl, rfl, rfl, xl_i rfl rfl, xl_i rfl rfl, xl_i rfl rfl, trivial⟩ (ih (i + 1) (x + i) m2 (by omega) (by omega) (by omega) (by rw [show x + (i + 1) - x = x + i + 1 - x by omega]; exact pk_yes hpk (by omega)) (ha1.tr1 ha2) hT2)
  refine x_aload_n dX5_peak_0 rfl ?_
  refine x_iload_n dX5_peak_1 rfl ?_
  refine x_V1 mX5_165 dX5_peak_2 rfl (s_needMinute hx (fun hn => hX 1 1 m (⟨fun zz => hn zz.1, rfl, rfl⟩) ag.rf hT) (fun h1 => ?_))
  refine x_aload_n dX5_peak_5 rfl ?_
  refine x_iload_n dX5_peak_6 rfl ?_
  refine x_iconst dX5_peak_7 ?_
  refine x_sipush dX5_peak_8 (h := ?_)
  refine x_V3 mX5_65 dX5_peak_11 rfl (s_needWithin hy (by omega) (by omega) (fun hn => hX 1 1 m (⟨fun zz => hn zz.2.1, rfl, rfl⟩) ag.rf hT) (fun h2 => ?_))
  refine x_aload_n dX5_peak_14 rfl ?_
  refine x_iload_n dX5_peak_15 rfl ?_
  refine x_iconst dX5_peak_16 ?_
  refine x_iconst dX5_peak_17 ?_
  refine x_V3 mX5_65 dX5_peak_18 rfl (s_needWithin hz (by omega) (by omega) (fun hn => hX 1 1 m (⟨fun zz => hn zz.2.2, rfl, rfl⟩) ag.rf hT) (fun h3 => ?_))
  have hp : (0 ≤ x ∧ x ≤ 10000) ∧ (1 ≤ y ∧ y ≤ 2000) ∧ (0 ≤ z ∧ z ≤ 1) := ⟨h1, h2, h3⟩
  refine x_iload_n dX5_peak_21 rfl ?_
  refine x_if_ne (tgt := 29) dX5_peak_22 (by decide) (by omega) (fun h22 => ?_) (fun h22 => ?_)
  · refine x_iconst dX5_peak_29 ?_
    refine x_istore dX5_peak_30 ?_
    refine x_iload_n dX5_peak_32 rfl ?_
    refine x_istore dX5_peak_33 ?_
    refine x_iload dX5_peak_35 rfl ?_
    refine x_aload_n dX5_peak_37 rfl ?_
    refine x_getR (r := 86) fX5_41 dX5_peak_38 rfl rfl ?_
    refine x_iload_n dX5_peak_41 rfl ?_
    refine x_V1 mX5_168 dX5_peak_42 rfl (s_heightAt hv hT (by omega) (fun m2 ha2 hT2 => ?_))
    refine x_imul dX5_peak_45 ?_
    refine x_top (show (-1) * ht v x = hsg v z x by unfold hsg; rw [if_neg (by omega)]; omega) ?_
    refine x_istore dX5_peak_46 ?_
    refine x_iconst dX5_peak_48 ?_
    refine x_istore dX5_peak_49 ?_
    exact x_loc (lv' := [(0, vr E 40), (1, vi x), (2, vi y), (3, vi z), (4, vi (-1)), (5, vi x), (6, vi (hsg v z x)), (7, vi 1)]) ⟨rfl, rfl, rfl, rfl, rfl, rfl, rfl, rfl, trivial⟩ (loop hp (-1) (fun t => by unfold hsg; rw [if_neg (by omega)]; omega) 2001 1 x m2 (by omega) (by omega) (by omega) ⟨by omega, fun t _ _ => by omega, fun t _ _ => by omega⟩ ha2 hT2)
  · refine x_iconst dX5_peak_25 ?_
    refine x_goto (tgt := 30) dX5_peak_26 (by decide) ?_
    refine x_istore dX5_peak_30 ?_
    refine x_iload_n dX5_peak_32 rfl ?_
    refine x_istore dX5_peak_33 ?_
    refine x_iload dX5_peak_35 rfl ?_
    refine x_aload_n dX5_peak_37 rfl ?_
    refine x_getR (r := 86) fX5_41 dX5_peak_38 rfl rfl ?_
    refine x_iload_n dX5_peak_41 rfl ?_
    refine x_V1 mX5_168 dX5_peak_42 rfl (s_heightAt hv hT (by omega) (fun m2 ha2 hT2 => ?_))
    refine x_imul dX5_peak_45 ?_
    refine x_top (show 1 * ht v x = hsg v z x by unfold hsg; rw [if_pos (by omega)]; omega) ?_
    refine x_istore dX5_peak_46 ?_
    refine x_iconst dX5_peak_48 ?_
    refine x_istore dX5_peak_49 ?_
    exact x_loc (lv' := [(0, vr E 40), (1, vi x), (2, vi y), (3, vi z), (4, vi (1)), (5, vi x), (6, vi (hsg v z x)), (7, vi 1)]) ⟨rfl, rfl, rfl, rfl, rfl, rfl, rfl, rfl, trivial⟩ (loop hp (1) (fun t => by unfold hsg; rw [if_pos (by omega)]; omega) 2001 1 x m2 (by omega) (by omega) (by omega) ⟨by omega, fun t _ _ => by omega, fun t _ _ => by omega⟩ ha2 hT2)

set_option maxRecDepth 20000 in
theorem s_cabove {E : xE} {f : Nat → Nat} {D : Nat → Nat × Nat} {n : Nat} {m : xM} {P : xPo} {PX : xPx} {v : Nat → Int} {x y z w : Int} (hE : eOk E) (hV : cV v f D m) (hx : -2147483648 ≤ x ∧ x ≤ 2147483647) (hy : -2147483648 ≤ y ∧ y ≤ 2147483647) (hz : -2147483648 ≤ z ∧ z ≤ 2147483647) (hw : -2147483648 ≤ w ∧ w ≤ 2147483647) (hX : ∀ k9 q9 m1, (rf2 (0 ≤ x ∧ x < v 4) ((0 ≤ z ∧ z ≤ 10000) ∧ (0 ≤ w ∧ w ≤ 2000)) 0 1) k9 q9 → ag [86, 87] m m1 → cT v m1 → ∀ j, PX (xcls q9) (gS f D (n + j)) (crf m1 q9)) (hP : ∀ m' r, ((0 ≤ x ∧ x < v 4) ∧ ((0 ≤ z ∧ z ≤ 10000) ∧ (0 ≤ w ∧ w ≤ 2000))) → (fun r => r = abv v x.toNat y z w.toNat) r → ag [86, 87] m m' → cT v m' → P (some (vi r)) (gS f D n) m') : xC E (yX5_above, cX5_above, 7, some .int) 12 8 64 [vr E 40, vi x, vi y, vi z, vi w] (gS f D n) m P PX := by
  refine x_enter (by decide) rfl rfl (Nat.le_of_ble_eq_true rfl) ?_
  have hT := hV.2.1
  have hC := hT.1
  have hv := hV.1.1
  have hv5 := hv.2.2.2.2.2.1
  have hv4 := hv.2.2.2.2.1.1
  have hv3 := hv.2.2.2.1.1
  have loop : ∀ b : Nat, x = (b : Int) → (b : Int) < v 4 → ((0 ≤ x ∧ x < v 4) ∧ ((0 ≤ z ∧ z ≤ 10000) ∧ (0 ≤ w ∧ w ≤ 2000))) → ∀ (j i : Nat) (m1 : xM), w < (i : Int) + j → (i : Int) ≤ w → ag [86, 87] m m1 → cT v m1 → xX E (("above", some .int, []), (12, 8, 64), P, PX) RX5 cX5_above 7 3 18 26 [(0, vr E 40), (1, vi (b : Int)), (2, vi y), (3, vi z), (4, vi w), (5, vi (abv v b y z i)), (6, vi ((i : Nat) : Int))] [] (gS f D n) m1 := by
    intro b hxb hb hp j
    subst hxb
    induction j with
    | zero => intro i m1 h1 h2; omega
    | succ j ih =>
      intro i m1 h1 h2 ha1 hT1
      refine x_iload dX5_above_26 rfl ?_
      refine x_iload dX5_above_28 rfl ?_
      refine x_icmp_ge (tgt := 58) dX5_above_30 (by decide) (by omega) (fun h30 => ?_) (fun h30 => ?_)
      · refine x_iload dX5_above_58 rfl ?_
        exact x_iret dX5_above_60  (hP _ _ hp (by show _ = abv v b y z w.toNat; rw [show w.toNat = i by omega]) ha1 hT1)
      · refine x_aload_n dX5_above_33 rfl ?_
        refine x_getR (r := 86) fX5_41 dX5_above_34 rfl rfl ?_
        refine x_iload_n dX5_above_37 rfl ?_
        refine x_iload_n dX5_above_38 rfl ?_
        refine x_iload dX5_above_39 rfl ?_
        refine x_iadd dX5_above_41 ?_
        refine x_V2 mX5_171 dX5_above_42 rfl (s_waterAt hv hT1 hb (by omega) (fun m2 ha2 hT2 => ?_))
        have hwb := wa_b (t := z + (i : Int)) hv hb
        refine x_iload_n dX5_above_45 rfl ?_
        refine x_icmp_lt (tgt := 52) dX5_above_46 (by decide) (by omega) (fun h46 => ?_) (fun h46 => ?_)
        · refine x_iinc dX5_above_52 rfl ?_
          refine x_goto (tgt := 26) dX5_above_55 (by decide) ?_
          exact x_loc (lv' := [(0, vr E 40), (1, vi (b : Int)), (2, vi y), (3, vi z), (4, vi w), (5, vi (abv v b y z (i + 1))), (6, vi (((i + 1) : Nat) : Int))]) ⟨rfl, rfl, rfl, rfl, rfl, xl_i rfl (by show _ = abv v b y z i + _; rw [if_neg (by omega)]; try omega), xl_i rfl (by omega), trivial⟩ (ih (i + 1) m2 (by omega) (by omega) (ha1.tr1 ha2) hT2)
        · refine x_iinc dX5_above_49 rfl ?_
          refine x_iinc dX5_above_52 rfl ?_
          refine x_goto (tgt := 26) dX5_above_55 (by decide) ?_
          exact x_loc (lv' := [(0, vr E 40), (1, vi (b : Int)), (2, vi y), (3, vi z), (4, vi w), (5, vi (abv v b y z (i + 1))), (6, vi (((i + 1) : Nat) : Int))]) ⟨rfl, rfl, rfl, rfl, rfl, xl_i rfl (by show _ = abv v b y z i + _; rw [if_pos (by omega)]; try omega), xl_i rfl (by omega), trivial⟩ (ih (i + 1) m2 (by omega) (by omega) (ha1.tr1 ha2) hT2)
  refine x_aload_n dX5_above_0 rfl ?_
  refine x_iload_n dX5_above_1 rfl ?_
  refine x_V1 mX5_95 dX5_above_2 rfl (s_needBar hx hv4 hC (fun hn => hX 1 0 m (Or.inl ⟨hn, rfl, rfl⟩) ag.rf hT) (fun h1 => ?_))
  refine x_aload_n dX5_above_5 rfl ?_
  refine x_iload_n dX5_above_6 rfl ?_
  refine x_V1 mX5_165 dX5_above_7 rfl (s_needMinute hz (fun hn => hX 2 1 m (Or.inr ⟨h1, fun zz => hn zz.1, rfl, rfl⟩) ag.rf hT) (fun h2 => ?_))
  refine x_aload_n dX5_above_10 rfl ?_
  refine x_iload dX5_above_11 rfl ?_
  refine x_iconst dX5_above_13 ?_
  refine x_sipush dX5_above_14 (h := ?_)
  refine x_V3 mX5_65 dX5_above_17 rfl (s_needWithin hw (by omega) (by omega) (fun hn => hX 2 1 m (Or.inr ⟨h1, fun zz => hn zz.2, rfl, rfl⟩) ag.rf hT) (fun h3 => ?_))
  obtain ⟨b, rfl⟩ := nat_of h1.1
  refine x_iconst dX5_above_20 ?_
  refine x_istore dX5_above_21 ?_
  refine x_iconst dX5_above_23 ?_
  refine x_istore dX5_above_24 ?_
  exact x_loc (lv' := [(0, vr E 40), (1, vi (b : Int)), (2, vi y), (3, vi z), (4, vi w), (5, vi (abv v b y z 0)), (6, vi ((0 : Nat) : Int))]) ⟨rfl, rfl, rfl, rfl, rfl, rfl, rfl, trivial⟩ (loop b rfl h1.2 ⟨h1, h2, h3⟩ 2001 0 m (by omega) (by omega) ag.rf hT)

set_option maxRecDepth 20000 in
theorem s_cfastest {E : xE} {f : Nat → Nat} {D : Nat → Nat × Nat} {n : Nat} {m : xM} {P : xPo} {PX : xPx} {v : Nat → Int} {x y z : Int} (hE : eOk E) (hV : cV v f D m) (hx : -2147483648 ≤ x ∧ x ≤ 2147483647) (hy : -2147483648 ≤ y ∧ y ≤ 2147483647) (hz : -2147483648 ≤ z ∧ z ≤ 2147483647) (hX : ∀ k9 q9 m1, (rf2 ((0 ≤ x ∧ x < v 5) ∧ (0 ≤ y ∧ y < v 4)) (0 ≤ z ∧ z ≤ 10000) 0 1) k9 q9 → ag [86, 87, 89] m m1 → cT v m1 → ∀ j, PX (xcls q9) (gS f D (n + j)) (crf m1 q9)) (hP : ∀ m' r, (((0 ≤ x ∧ x < v 5) ∧ (0 ≤ y ∧ y < v 4)) ∧ (0 ≤ z ∧ z ≤ 10000)) → (fun r => ftR v x.toNat y.toNat z r) r → ag [86, 87, 89] m m' → cT v m' → P (some (vi r)) (gS f D n) m') : xC E (yX5_fastest, cX5_fastest, 7, some .int) 12 8 64 [vr E 40, vi x, vi y, vi z] (gS f D n) m P PX := by
  refine x_enter (by decide) rfl rfl (Nat.le_of_ble_eq_true rfl) ?_
  have hT := hV.2.1
  have hC := hT.1
  have hv := hV.1.1
  have hv5 := hv.2.2.2.2.2.1
  have hv4 := hv.2.2.2.2.1.1
  have hv3 := hv.2.2.2.1.1
  have loop : ∀ s b : Nat, x = (s : Int) → y = (b : Int) → (s : Int) < v 5 → (b : Int) < v 4 → (((0 ≤ x ∧ x < v 5) ∧ (0 ≤ y ∧ y < v 4)) ∧ (0 ≤ z ∧ z ≤ 10000)) → ∀ (j : Nat) (q : Int) (m1 : xM), q < sh v s 3 - 1 + j → sh v s 3 - 1 ≤ q → q ≤ sh v s 4 → (∀ g, q < g → g ≤ sh v s 4 → ¬ clr v s (sh v s 0) (wa v b z) g) → ag [86, 87, 89] m m1 → cT v m1 → xX E (("fastest", some .int, []), (12, 8, 64), P, PX) RX5 cX5_fastest 7 3 18 48 [(0, vr E 40), (1, vi (s : Int)), (2, vi (b : Int)), (3, vi z), (4, vi (sh v s 0)), (5, vi (wa v b z)), (6, vi q)] [] (gS f D n) m1 := by
    intro s b hxs hyb hs hb hp j
    subst hxs hyb
    obtain ⟨hdr, -, -, hls, -⟩ := hv.2.2.2.2.2.2 s hs
    have hwb := wa_b (t := z) hv hb
    induction j with
    | zero => intro q m1 h1 h2; omega
    | succ j ih =>
      intro q m1 h1 h2 h3 hno ha1 hT1
      refine x_iload dX5_fastest_48 rfl ?_
      refine x_aload_n dX5_fastest_50 rfl ?_
      refine x_getR (r := 41) fX5_10 dX5_fastest_51 rfl rfl ?_
      refine x_iload_n dX5_fastest_54 rfl ?_
      refine x_iconst dX5_fastest_55 ?_
      refine x_V2 mX5_109 dX5_fastest_56 rfl (s_shipOf (8 * s + 3) (by omega) (by omega) ?_)
      refine x_top (hT1.1.2.2.2.s hs (by omega)) ?_
      refine x_icmp_lt (tgt := 88) dX5_fastest_59 (by decide) (by omega) (fun h59 => ?_) (fun h59 => ?_)
      · refine x_iconst dX5_fastest_88 ?_
        exact x_iret dX5_fastest_89  (hP _ _ hp (show ftR v s b z (-1) from Or.inr ⟨rfl, fun g h8 h9 => hno g (by omega) h9⟩) ha1 hT1)
      · refine x_aload_n dX5_fastest_62 rfl ?_
        refine x_getR (r := 88) fX5_50 dX5_fastest_63 rfl rfl ?_
        refine x_iload_n dX5_fastest_66 rfl ?_
        refine x_iload dX5_fastest_67 rfl ?_
        refine x_iload dX5_fastest_69 rfl ?_
        refine x_iload dX5_fastest_71 rfl ?_
        refine x_V4 mX5_185 dX5_fastest_73 rfl (s_isClear hE (hV.t ha1 hT1 (by decide) (by decide)) hs (by omega) (by omega) (by omega) (fun m2 ha2 => ?_))
        refine x_if_eq (tgt := 82) dX5_fastest_76 (by decide) (zi_r _) (fun h76 => ?_) (fun h76 => ?_)
        · refine x_iinc dX5_fastest_82 rfl ?_
          refine x_goto (tgt := 48) dX5_fastest_85 (by decide) ?_
          exact x_loc (lv' := [(0, vr E 40), (1, vi (s : Int)), (2, vi (b : Int)), (3, vi z), (4, vi (sh v s 0)), (5, vi (wa v b z)), (6, vi (q - 1))]) ⟨rfl, rfl, rfl, rfl, rfl, rfl, xl_i rfl (by omega), trivial⟩ (ih (q - 1) m2 (by omega) (by omega) (by omega) (fun g h8 h9 => by rcases (by omega : g = q ∨ q < g) with e | e; (rw [e]; exact zi_0.mp h76); exact hno g e h9) (ha1.tr1 (ha2.wk (by decide))) (hT1.ag ha2 (by decide) (by decide) (by decide) (by decide) (by decide) (by decide)))
        · refine x_iload dX5_fastest_79 rfl ?_
          exact x_iret dX5_fastest_81  (hP _ _ hp (show ftR v s b z q from Or.inl ⟨by omega, zi_1.mp h76, fun g h8 h9 => hno g h8 h9⟩) (ha1.tr1 (ha2.wk (by decide))) (hT1.ag ha2 (by decide) (by decide) (by decide) (by decide) (by decide) (by decide)))
  refine x_aload_n dX5_fastest_0 rfl ?_
  refine x_iload_n dX5_fastest_1 rfl ?_
  refine x_V1 mX5_106 dX5_fastest_2 rfl (s_needShip hx hv5 hC (fun hn => hX 1 0 m (Or.inl ⟨fun zz => hn zz.1, rfl, rfl⟩) ag.rf hT) (fun h1 => ?_))
  refine x_aload_n dX5_fastest_5 rfl ?_
  refine x_iload_n dX5_fastest_6 rfl ?_
  refine x_V1 mX5_95 dX5_fastest_7 rfl (s_needBar hy hv4 hC (fun hn => hX 1 0 m (Or.inl ⟨fun zz => hn zz.2, rfl, rfl⟩) ag.rf hT) (fun h2 => ?_))
  refine x_aload_n dX5_fastest_10 rfl ?_
  refine x_iload_n dX5_fastest_11 rfl ?_
  refine x_V1 mX5_165 dX5_fastest_12 rfl (s_needMinute hz (fun hn => hX 2 1 m (Or.inr ⟨⟨h1, h2⟩, hn, rfl, rfl⟩) ag.rf hT) (fun h3 => ?_))
  obtain ⟨s, rfl⟩ := nat_of h1.1
  obtain ⟨b, rfl⟩ := nat_of h2.1
  obtain ⟨hdr, -, -, hls, -⟩ := hv.2.2.2.2.2.2 s h1.2
  refine x_aload_n dX5_fastest_15 rfl ?_
  refine x_getR (r := 41) fX5_10 dX5_fastest_16 rfl rfl ?_
  refine x_iload_n dX5_fastest_19 rfl ?_
  refine x_iconst dX5_fastest_20 ?_
  refine x_V2 mX5_109 dX5_fastest_21 rfl (s_shipOf (8 * s + 0) (by omega) (by omega) ?_)
  refine x_top (hC.2.2.2.s h1.2 (by omega)) ?_
  refine x_istore dX5_fastest_24 ?_
  refine x_aload_n dX5_fastest_26 rfl ?_
  refine x_getR (r := 86) fX5_41 dX5_fastest_27 rfl rfl ?_
  refine x_iload_n dX5_fastest_30 rfl ?_
  refine x_iload_n dX5_fastest_31 rfl ?_
  refine x_V2 mX5_171 dX5_fastest_32 rfl (s_waterAt hv hT h2.2 (by omega) (fun m1 ha1 hT1 => ?_))
  refine x_istore dX5_fastest_35 ?_
  refine x_aload_n dX5_fastest_37 rfl ?_
  refine x_getR (r := 41) fX5_10 dX5_fastest_38 rfl rfl ?_
  refine x_iload_n dX5_fastest_41 rfl ?_
  refine x_iconst dX5_fastest_42 ?_
  refine x_V2 mX5_109 dX5_fastest_43 rfl (s_shipOf (8 * s + 4) (by omega) (by omega) ?_)
  refine x_top (hT1.1.2.2.2.s h1.2 (by omega)) ?_
  refine x_istore dX5_fastest_46 ?_
  exact x_loc (lv' := [(0, vr E 40), (1, vi (s : Int)), (2, vi (b : Int)), (3, vi z), (4, vi (sh v s 0)), (5, vi (wa v b z)), (6, vi (sh v s 4))]) ⟨rfl, rfl, rfl, rfl, rfl, rfl, rfl, trivial⟩ (loop s b rfl rfl h1.2 h2.2 ⟨⟨h1, h2⟩, h3⟩ 23 (sh v s 4) m1 (by omega) (by omega) (by omega) (fun g h8 h9 => by omega) (ha1.wk (by decide)) hT1)

end CK
