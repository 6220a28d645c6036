section WR
/-- as kp, but for the law's own cell -/
def kq (L : List Nat) (m m' : xM) : Prop := (∀ c, 96 ≤ c → c < 111 → m' c = m c) ∧ m' 79 = m 79 ∧ ∀ j, j ∉ L → m' 40 j = m 40 j
def r32 (z : Int) : Int := (Int32.ofInt z).toInt
section WK
variable {v : Nat → Int} {h : List (Nat → Int)} {f : Nat → Nat} {D : Nat → Nat × Nat} {n : Nat} {m m' m1 : xM} {L : List Nat} {z : Int} {q : Nat}
theorem kp_q (h1 : kp L m m') : kq L m m' := ⟨fun c a b => h1.1 c a (by omega), h1.2.1, h1.2.2⟩
theorem kp_u (h1 : kp L m m') : kq L m (xu m' 111 0 z) := ⟨fun c a b => by rw [xu_ne (by omega)]; exact h1.1 c a (by omega), by rw [xu_ne (by omega)]; exact h1.2.1, fun j hj => by rw [xu_ne (by omega)]; exact h1.2.2 j hj⟩
theorem kp_f (h1 : kp [] m m1) : kq [9 + q] m (crf m1 q) := ⟨fun c a b => by show xu m1 40 (9 + q) _ c = m c; rw [xu_ne (by omega)]; exact h1.1 c a (by omega), by show xu m1 40 (9 + q) _ 79 = m 79; rw [xu_ne (by omega)]; exact h1.2.1, fun j hj => by simp at hj; show xu m1 40 (9 + q) _ 40 j = m 40 j; rw [xu_if, if_neg (by omega)]; exact h1.2.2 j (by simp)⟩
theorem kp_c (h1 : kp [] m m1) : crf m1 q 40 (9 + q) = m 40 (9 + q) + 1 := by show xu m1 40 (9 + q) (m1 40 (9 + q) + 1) 40 (9 + q) = _; rw [xu_if, if_pos rfl, h1.2.2 _ (by simp)]
theorem cI_u (hI : cI v h f D n m) : cI v h f D n (xu m 111 0 z) := by
  obtain ⟨i1, i2, i3, i5, i6, p, q1, q2, q3, q4, q5⟩ := hI
  have eo : ∀ c, c ≠ 111 → xu m 111 0 z c = m c := fun c hc => xu_ne hc
  have ha : ag [111] m (xu m 111 0 z) := ag.u ag.rf (by decide)
  refine ⟨i1.ag ha (by decide) (by decide) (by decide) (by decide) (by decide) (by decide) (by decide), by rw [eo 40 (by omega)]; exact i2, by rw [eo 40 (by omega), eo 41 (by omega)]; exact i3, i5, i6, p, by rw [eo 45 (by omega)]; exact q1, q2, by rw [eo 45 (by omega)]; exact q3, q4, fun i hi => ?_⟩
  exact (q5 i hi).mv rfl rfl (eo _ (by omega)) (eo _ (by omega)) (eo _ (by omega)) (eo _ (by omega)) (fun y => eo _ (by omega)) (by rw [eo 40 (by omega)]; exact Int.le_refl _) (fun _ _ _ _ => rfl)
end WK
set_option maxRecDepth 20000 in
theorem s_wtold {E : xE} {f : Nat → Nat} {D : Nat → Nat × Nat} {n : Nat} {m : xM} {P : xPo} {PX : xPx} {v : Nat → Int} {h : List (Nat → Int)} {x : Int} (hE : eOk E) (hI : cI v h f D n m) (hx : -2147483648 ≤ x ∧ x ≤ 2147483647) (hX : ∀ k9 q9 n' m', (rf1 (0 ≤ x ∧ x ≤ 8) 1) k9 q9 → cI v h f D n' m' → kq [9 + q9] m m' → m' 40 (9 + q9) = m 40 (9 + q9) + 1 → P (some (vi k9)) (gS f D n') m') (hP : ∀ m' r, (0 ≤ x ∧ x ≤ 8) → (fun r => r = tdv v (m 40 6) (m 45 2) x) r → cI v h f D n m' → kq [] m m' → m' 111 0 = r32 r → P (some (vi 0)) (gS f D n) m') : xCH E (yL_told, cL_told, 4, some .int) [(0, 9, 12, 13)] 13 8 64 [vr E 40, vi x, vr E 111] (gS f D n) m P := by
  refine x_enterH (by decide) rfl rfl (Nat.le_of_ble_eq_true rfl) ?_
  refine x_aload_n dL_told_0 rfl ?_
  refine x_iconst dL_told_1 ?_
  refine x_aload_n dL_told_2 rfl ?_
  refine x_iload_n dL_told_3 rfl ?_
  refine x_callVH (as := [vi x]) (rest := [vi 0, vr E 111]) mL_36 dL_told_4 rfl rfl rfl (by simp only [List.map_cons, List.map_nil, vr_cat]; decide) (by decide) (by decide) (by decide) (s_ctold hE hI.1 hx (fun k9 q9 m1 hr ha hT j => ?_) (fun m' r hok hR ha hT => ?_))
  · have hr0 := hr
    obtain ⟨-, rfl, rfl⟩ := hr
    exact ⟨12, ⟨[], ⟨0, 9, 12, 13⟩, [], rfl, (fun z hz => by cases hz), by decide, by decide, qcL_13, by decide, rfl⟩, fun q => x_astore_nr dL_told_12 (x_iconst dL_told_13 (x_iret dL_told_14 (hX 1 1 _ _ hr0 (hI.ask ha hT (by decide)).crf (kp_f (kp.ag ha (by decide))) (kp_c (kp.ag ha (by decide))))))⟩
  · refine x_i2lz dL_told_7 ?_
    refine x_last (j := 0) dL_told_8 rfl (by decide) rfl (by show 0 < 1; decide) (by decide) ?_
    refine x_goto (tgt := 15) dL_told_9 (by decide) ?_
    refine x_iconst dL_told_15 ?_
    exact x_iret dL_told_16 (hP _ r hok hR (cI_u (hI.ask ha hT (by decide))) (kp_u (kp.ag ha (by decide))) (by show xu m' 111 0 _ 111 0 = _; rw [xu_if, if_pos rfl]; rfl))

set_option maxRecDepth 20000 in
theorem s_wwave {E : xE} {f : Nat → Nat} {D : Nat → Nat × Nat} {n : Nat} {m : xM} {P : xPo} {PX : xPx} {v : Nat → Int} {h : List (Nat → Int)} {x y : Int} (hE : eOk E) (hI : cI v h f D n m) (hx : -2147483648 ≤ x ∧ x ≤ 2147483647) (hy : -2147483648 ≤ y ∧ y ≤ 2147483647) (hX : ∀ k9 q9 n' m', (rf2 (0 ≤ x ∧ x < v 3) (0 ≤ y ∧ y ≤ 2) 0 1) k9 q9 → cI v h f D n' m' → kq [9 + q9] m m' → m' 40 (9 + q9) = m 40 (9 + q9) + 1 → P (some (vi k9)) (gS f D n') m') (hP : ∀ m' r, ((0 ≤ x ∧ x < v 3) ∧ (0 ≤ y ∧ y ≤ 2)) → (fun r => r = wv v x.toNat y.toNat) r → cI v h f D n m' → kq [] m m' → m' 111 0 = r32 r → P (some (vi 0)) (gS f D n) m') : xCH E (yL_wave, cL_wave, 5, some .int) [(0, 10, 13, 19), (0, 10, 17, 13)] 13 8 64 [vr E 40, vi x, vi y, vr E 111] (gS f D n) m P := by
  refine x_enterH (by decide) rfl rfl (Nat.le_of_ble_eq_true rfl) ?_
  refine x_aload_n dL_wave_0 rfl ?_
  refine x_iconst dL_wave_1 ?_
  refine x_aload_n dL_wave_2 rfl ?_
  refine x_iload_n dL_wave_3 rfl ?_
  refine x_iload_n dL_wave_4 rfl ?_
  refine x_callVH (as := [vi x, vi y]) (rest := [vi 0, vr E 111]) mL_39 dL_wave_5 rfl rfl rfl (by simp only [List.map_cons, List.map_nil, vr_cat]; decide) (by decide) (by decide) (by decide) (s_cwave hE hI.1 hx hy (fun k9 q9 m1 hr ha hT j => ?_) (fun m' r hok hR ha hT => ?_))
  · have hr0 := hr
    rcases hr with ⟨-, rfl, rfl⟩ | ⟨-, -, rfl, rfl⟩
    · exact ⟨13, ⟨[], ⟨0, 10, 13, 19⟩, [⟨0, 10, 17, 13⟩], rfl, (fun z hz => by cases hz), by decide, by decide, qcL_19, by decide, rfl⟩, fun q => x_astorer dL_wave_13 (x_iconst dL_wave_15 (x_iret dL_wave_16 (hX 1 0 _ _ hr0 (hI.ask ha hT (by decide)).crf (kp_f (kp.ag ha (by decide))) (kp_c (kp.ag ha (by decide))))))⟩
    · exact ⟨17, ⟨[⟨0, 10, 13, 19⟩], ⟨0, 10, 17, 13⟩, [], rfl, (fun z hz => by rw [List.mem_singleton.mp hz]; exact Or.inr ⟨by decide, xNSE, qcL_19, by decide⟩), by decide, by decide, qcL_13, by decide, rfl⟩, fun q => x_astorer dL_wave_17 (x_iconst dL_wave_19 (x_iret dL_wave_20 (hX 2 1 _ _ hr0 (hI.ask ha hT (by decide)).crf (kp_f (kp.ag ha (by decide))) (kp_c (kp.ag ha (by decide))))))⟩
  · refine x_i2lz dL_wave_8 ?_
    refine x_last (j := 0) dL_wave_9 rfl (by decide) rfl (by show 0 < 1; decide) (by decide) ?_
    refine x_goto (tgt := 21) dL_wave_10 (by decide) ?_
    refine x_iconst dL_wave_21 ?_
    exact x_iret dL_wave_22 (hP _ r hok hR (cI_u (hI.ask ha hT (by decide))) (kp_u (kp.ag ha (by decide))) (by show xu m' 111 0 _ 111 0 = _; rw [xu_if, if_pos rfl]; rfl))

set_option maxRecDepth 20000 in
theorem s_wbar {E : xE} {f : Nat → Nat} {D : Nat → Nat × Nat} {n : Nat} {m : xM} {P : xPo} {PX : xPx} {v : Nat → Int} {h : List (Nat → Int)} {x y : Int} (hE : eOk E) (hI : cI v h f D n m) (hx : -2147483648 ≤ x ∧ x ≤ 2147483647) (hy : -2147483648 ≤ y ∧ y ≤ 2147483647) (hX : ∀ k9 q9 n' m', (rf2 (0 ≤ x ∧ x < v 4) (0 ≤ y ∧ y ≤ 5) 0 1) k9 q9 → cI v h f D n' m' → kq [9 + q9] m m' → m' 40 (9 + q9) = m 40 (9 + q9) + 1 → P (some (vi k9)) (gS f D n') m') (hP : ∀ m' r, ((0 ≤ x ∧ x < v 4) ∧ (0 ≤ y ∧ y ≤ 5)) → (fun r => r = br v x.toNat y.toNat) r → cI v h f D n m' → kq [] m m' → m' 111 0 = r32 r → P (some (vi 0)) (gS f D n) m') : xCH E (yL_bar, cL_bar, 5, some .int) [(0, 10, 13, 19), (0, 10, 17, 13)] 13 8 64 [vr E 40, vi x, vi y, vr E 111] (gS f D n) m P := by
  refine x_enterH (by decide) rfl rfl (Nat.le_of_ble_eq_true rfl) ?_
  refine x_aload_n dL_bar_0 rfl ?_
  refine x_iconst dL_bar_1 ?_
  refine x_aload_n dL_bar_2 rfl ?_
  refine x_iload_n dL_bar_3 rfl ?_
  refine x_iload_n dL_bar_4 rfl ?_
  refine x_callVH (as := [vi x, vi y]) (rest := [vi 0, vr E 111]) mL_42 dL_bar_5 rfl rfl rfl (by simp only [List.map_cons, List.map_nil, vr_cat]; decide) (by decide) (by decide) (by decide) (s_cbar hE hI.1 hx hy (fun k9 q9 m1 hr ha hT j => ?_) (fun m' r hok hR ha hT => ?_))
  · have hr0 := hr
    rcases hr with ⟨-, rfl, rfl⟩ | ⟨-, -, rfl, rfl⟩
    · exact ⟨13, ⟨[], ⟨0, 10, 13, 19⟩, [⟨0, 10, 17, 13⟩], rfl, (fun z hz => by cases hz), by decide, by decide, qcL_19, by decide, rfl⟩, fun q => x_astorer dL_bar_13 (x_iconst dL_bar_15 (x_iret dL_bar_16 (hX 1 0 _ _ hr0 (hI.ask ha hT (by decide)).crf (kp_f (kp.ag ha (by decide))) (kp_c (kp.ag ha (by decide))))))⟩
    · exact ⟨17, ⟨[⟨0, 10, 13, 19⟩], ⟨0, 10, 17, 13⟩, [], rfl, (fun z hz => by rw [List.mem_singleton.mp hz]; exact Or.inr ⟨by decide, xNSE, qcL_19, by decide⟩), by decide, by decide, qcL_13, by decide, rfl⟩, fun q => x_astorer dL_bar_17 (x_iconst dL_bar_19 (x_iret dL_bar_20 (hX 2 1 _ _ hr0 (hI.ask ha hT (by decide)).crf (kp_f (kp.ag ha (by decide))) (kp_c (kp.ag ha (by decide))))))⟩
  · refine x_i2lz dL_bar_8 ?_
    refine x_last (j := 0) dL_bar_9 rfl (by decide) rfl (by show 0 < 1; decide) (by decide) ?_
    refine x_goto (tgt := 21) dL_bar_10 (by decide) ?_
    refine x_iconst dL_bar_21 ?_
    exact x_iret dL_bar_22 (hP _ r hok hR (cI_u (hI.ask ha hT (by decide))) (kp_u (kp.ag ha (by decide))) (by show xu m' 111 0 _ 111 0 = _; rw [xu_if, if_pos rfl]; rfl))

set_option maxRecDepth 20000 in
theorem s_wship {E : xE} {f : Nat → Nat} {D : Nat → Nat × Nat} {n : Nat} {m : xM} {P : xPo} {PX : xPx} {v : Nat → Int} {h : List (Nat → Int)} {x y : Int} (hE : eOk E) (hI : cI v h f D n m) (hx : -2147483648 ≤ x ∧ x ≤ 2147483647) (hy : -2147483648 ≤ y ∧ y ≤ 2147483647) (hX : ∀ k9 q9 n' m', (rf2 (0 ≤ x ∧ x < v 5) (0 ≤ y ∧ y ≤ 7) 0 1) k9 q9 → cI v h f D n' m' → kq [9 + q9] m m' → m' 40 (9 + q9) = m 40 (9 + q9) + 1 → P (some (vi k9)) (gS f D n') m') (hP : ∀ m' r, ((0 ≤ x ∧ x < v 5) ∧ (0 ≤ y ∧ y ≤ 7)) → (fun r => r = sh v x.toNat y.toNat) r → cI v h f D n m' → kq [] m m' → m' 111 0 = r32 r → P (some (vi 0)) (gS f D n) m') : xCH E (yL_ship, cL_ship, 5, some .int) [(0, 10, 13, 19), (0, 10, 17, 13)] 13 8 64 [vr E 40, vi x, vi y, vr E 111] (gS f D n) m P := by
  refine x_enterH (by decide) rfl rfl (Nat.le_of_ble_eq_true rfl) ?_
  refine x_aload_n dL_ship_0 rfl ?_
  refine x_iconst dL_ship_1 ?_
  refine x_aload_n dL_ship_2 rfl ?_
  refine x_iload_n dL_ship_3 rfl ?_
  refine x_iload_n dL_ship_4 rfl ?_
  refine x_callVH (as := [vi x, vi y]) (rest := [vi 0, vr E 111]) mL_45 dL_ship_5 rfl rfl rfl (by simp only [List.map_cons, List.map_nil, vr_cat]; decide) (by decide) (by decide) (by decide) (s_cship hE hI.1 hx hy (fun k9 q9 m1 hr ha hT j => ?_) (fun m' r hok hR ha hT => ?_))
  · have hr0 := hr
    rcases hr with ⟨-, rfl, rfl⟩ | ⟨-, -, rfl, rfl⟩
    · exact ⟨13, ⟨[], ⟨0, 10, 13, 19⟩, [⟨0, 10, 17, 13⟩], rfl, (fun z hz => by cases hz), by decide, by decide, qcL_19, by decide, rfl⟩, fun q => x_astorer dL_ship_13 (x_iconst dL_ship_15 (x_iret dL_ship_16 (hX 1 0 _ _ hr0 (hI.ask ha hT (by decide)).crf (kp_f (kp.ag ha (by decide))) (kp_c (kp.ag ha (by decide))))))⟩
    · exact ⟨17, ⟨[⟨0, 10, 13, 19⟩], ⟨0, 10, 17, 13⟩, [], rfl, (fun z hz => by rw [List.mem_singleton.mp hz]; exact Or.inr ⟨by decide, xNSE, qcL_19, by decide⟩), by decide, by decide, qcL_13, by decide, rfl⟩, fun q => x_astorer dL_ship_17 (x_iconst dL_ship_19 (x_iret dL_ship_20 (hX 2 1 _ _ hr0 (hI.ask ha hT (by decide)).crf (kp_f (kp.ag ha (by decide))) (kp_c (kp.ag ha (by decide))))))⟩
  · refine x_i2lz dL_ship_8 ?_
    refine x_last (j := 0) dL_ship_9 rfl (by decide) rfl (by show 0 < 1; decide) (by decide) ?_
    refine x_goto (tgt := 21) dL_ship_10 (by decide) ?_
    refine x_iconst dL_ship_21 ?_
    exact x_iret dL_ship_22 (hP _ r hok hR (cI_u (hI.ask ha hT (by decide))) (kp_u (kp.ag ha (by decide))) (by show xu m' 111 0 _ 111 0 = _; rw [xu_if, if_pos rfl]; rfl))

set_option maxRecDepth 20000 in
theorem s_wheight {E : xE} {f : Nat → Nat} {D : Nat → Nat × Nat} {n : Nat} {m : xM} {P : xPo} {PX : xPx} {v : Nat → Int} {h : List (Nat → Int)} {x : Int} (hE : eOk E) (hI : cI v h f D n m) (hx : -2147483648 ≤ x ∧ x ≤ 2147483647) (hX : ∀ k9 q9 n' m', (rf1 (0 ≤ x ∧ x ≤ 10000) 1) k9 q9 → cI v h f D n' m' → kq [9 + q9] m m' → m' 40 (9 + q9) = m 40 (9 + q9) + 1 → P (some (vi k9)) (gS f D n') m') (hP : ∀ m' r, (0 ≤ x ∧ x ≤ 10000) → (fun r => r = ht v x) r → cI v h f D n m' → kq [] m m' → m' 111 0 = r32 r → P (some (vi 0)) (gS f D n) m') : xCH E (yL_height, cL_height, 4, some .int) [(0, 9, 12, 13)] 13 8 64 [vr E 40, vi x, vr E 111] (gS f D n) m P := by
  refine x_enterH (by decide) rfl rfl (Nat.le_of_ble_eq_true rfl) ?_
  refine x_aload_n dL_height_0 rfl ?_
  refine x_iconst dL_height_1 ?_
  refine x_aload_n dL_height_2 rfl ?_
  refine x_iload_n dL_height_3 rfl ?_
  refine x_callVH (as := [vi x]) (rest := [vi 0, vr E 111]) mL_48 dL_height_4 rfl rfl rfl (by simp only [List.map_cons, List.map_nil, vr_cat]; decide) (by decide) (by decide) (by decide) (s_cheight hE hI.1 hx (fun k9 q9 m1 hr ha hT j => ?_) (fun m' r hok hR ha hT => ?_))
  · have hr0 := hr
    obtain ⟨-, rfl, rfl⟩ := hr
    exact ⟨12, ⟨[], ⟨0, 9, 12, 13⟩, [], rfl, (fun z hz => by cases hz), by decide, by decide, qcL_13, by decide, rfl⟩, fun q => x_astore_nr dL_height_12 (x_iconst dL_height_13 (x_iret dL_height_14 (hX 1 1 _ _ hr0 (hI.ask ha hT (by decide)).crf (kp_f (kp.ag ha (by decide))) (kp_c (kp.ag ha (by decide))))))⟩
  · refine x_i2lz dL_height_7 ?_
    refine x_last (j := 0) dL_height_8 rfl (by decide) rfl (by show 0 < 1; decide) (by decide) ?_
    refine x_goto (tgt := 15) dL_height_9 (by decide) ?_
    refine x_iconst dL_height_15 ?_
    exact x_iret dL_height_16 (hP _ r hok hR (cI_u (hI.ask ha hT (by decide))) (kp_u (kp.ag ha (by decide))) (by show xu m' 111 0 _ 111 0 = _; rw [xu_if, if_pos rfl]; rfl))

set_option maxRecDepth 20000 in
theorem s_wpeak {E : xE} {f : Nat → Nat} {D : Nat → Nat × Nat} {n : Nat} {m : xM} {P : xPo} {PX : xPx} {v : Nat → Int} {h : List (Nat → Int)} {x y z : Int} (hE : eOk E) (hI : cI v h f D n m) (hx : -2147483648 ≤ x ∧ x ≤ 2147483647) (hy : -2147483648 ≤ y ∧ y ≤ 2147483647) (hz : -2147483648 ≤ z ∧ z ≤ 2147483647) (hX : ∀ k9 q9 n' m', (rf1 ((0 ≤ x ∧ x ≤ 10000) ∧ (1 ≤ y ∧ y ≤ 2000) ∧ (0 ≤ z ∧ z ≤ 1)) 1) k9 q9 → cI v h f D n' m' → kq [9 + q9] m m' → m' 40 (9 + q9) = m 40 (9 + q9) + 1 → P (some (vi k9)) (gS f D n') m') (hP : ∀ m' r, ((0 ≤ x ∧ x ≤ 10000) ∧ (1 ≤ y ∧ y ≤ 2000) ∧ (0 ≤ z ∧ z ≤ 1)) → (fun r => pkR v x y z r) r → cI v h f D n m' → kq [] m m' → m' 111 0 = r32 r → P (some (vi 0)) (gS f D n) m') : xCH E (yL_peak, cL_peak, 6, some .int) [(0, 12, 15, 13)] 13 8 64 [vr E 40, vi x, vi y, vi z, vr E 111] (gS f D n) m P := by
  refine x_enterH (by decide) rfl rfl (Nat.le_of_ble_eq_true rfl) ?_
  refine x_aload dL_peak_0 rfl ?_
  refine x_iconst dL_peak_2 ?_
  refine x_aload_n dL_peak_3 rfl ?_
  refine x_iload_n dL_peak_4 rfl ?_
  refine x_iload_n dL_peak_5 rfl ?_
  refine x_iload_n dL_peak_6 rfl ?_
  refine x_callVH (as := [vi x, vi y, vi z]) (rest := [vi 0, vr E 111]) mL_51 dL_peak_7 rfl rfl rfl (by simp only [List.map_cons, List.map_nil, vr_cat]; decide) (by decide) (by decide) (by decide) (s_cpeak hE hI.1 hx hy hz (fun k9 q9 m1 hr ha hT j => ?_) (fun m' r hok hR ha hT => ?_))
  · have hr0 := hr
    obtain ⟨-, rfl, rfl⟩ := hr
    exact ⟨15, ⟨[], ⟨0, 12, 15, 13⟩, [], rfl, (fun z hz => by cases hz), by decide, by decide, qcL_13, by decide, rfl⟩, fun q => x_astorer dL_peak_15 (x_iconst dL_peak_17 (x_iret dL_peak_18 (hX 1 1 _ _ hr0 (hI.ask ha hT (by decide)).crf (kp_f (kp.ag ha (by decide))) (kp_c (kp.ag ha (by decide))))))⟩
  · refine x_i2lz dL_peak_10 ?_
    refine x_last (j := 0) dL_peak_11 rfl (by decide) rfl (by show 0 < 1; decide) (by decide) ?_
    refine x_goto (tgt := 19) dL_peak_12 (by decide) ?_
    refine x_iconst dL_peak_19 ?_
    exact x_iret dL_peak_20 (hP _ r hok hR (cI_u (hI.ask ha hT (by decide))) (kp_u (kp.ag ha (by decide))) (by show xu m' 111 0 _ 111 0 = _; rw [xu_if, if_pos rfl]; rfl))

set_option maxRecDepth 20000 in
theorem s_wwater {E : xE} {f : Nat → Nat} {D : Nat → Nat × Nat} {n : Nat} {m : xM} {P : xPo} {PX : xPx} {v : Nat → Int} {h : List (Nat → Int)} {x y : Int} (hE : eOk E) (hI : cI v h f D n m) (hx : -2147483648 ≤ x ∧ x ≤ 2147483647) (hy : -2147483648 ≤ y ∧ y ≤ 2147483647) (hX : ∀ k9 q9 n' m', (rf2 (0 ≤ x ∧ x < v 4) (0 ≤ y ∧ y ≤ 10000) 0 1) k9 q9 → cI v h f D n' m' → kq [9 + q9] m m' → m' 40 (9 + q9) = m 40 (9 + q9) + 1 → P (some (vi k9)) (gS f D n') m') (hP : ∀ m' r, ((0 ≤ x ∧ x < v 4) ∧ (0 ≤ y ∧ y ≤ 10000)) → (fun r => r = wa v x.toNat y) r → cI v h f D n m' → kq [] m m' → m' 111 0 = r32 r → P (some (vi 0)) (gS f D n) m') : xCH E (yL_water, cL_water, 5, some .int) [(0, 10, 13, 19), (0, 10, 17, 13)] 13 8 64 [vr E 40, vi x, vi y, vr E 111] (gS f D n) m P := by
  refine x_enterH (by decide) rfl rfl (Nat.le_of_ble_eq_true rfl) ?_
  refine x_aload_n dL_water_0 rfl ?_
  refine x_iconst dL_water_1 ?_
  refine x_aload_n dL_water_2 rfl ?_
  refine x_iload_n dL_water_3 rfl ?_
  refine x_iload_n dL_water_4 rfl ?_
  refine x_callVH (as := [vi x, vi y]) (rest := [vi 0, vr E 111]) mL_54 dL_water_5 rfl rfl rfl (by simp only [List.map_cons, List.map_nil, vr_cat]; decide) (by decide) (by decide) (by decide) (s_cwater hE hI.1 hx hy (fun k9 q9 m1 hr ha hT j => ?_) (fun m' r hok hR ha hT => ?_))
  · have hr0 := hr
    rcases hr with ⟨-, rfl, rfl⟩ | ⟨-, -, rfl, rfl⟩
    · exact ⟨13, ⟨[], ⟨0, 10, 13, 19⟩, [⟨0, 10, 17, 13⟩], rfl, (fun z hz => by cases hz), by decide, by decide, qcL_19, by decide, rfl⟩, fun q => x_astorer dL_water_13 (x_iconst dL_water_15 (x_iret dL_water_16 (hX 1 0 _ _ hr0 (hI.ask ha hT (by decide)).crf (kp_f (kp.ag ha (by decide))) (kp_c (kp.ag ha (by decide))))))⟩
    · exact ⟨17, ⟨[⟨0, 10, 13, 19⟩], ⟨0, 10, 17, 13⟩, [], rfl, (fun z hz => by rw [List.mem_singleton.mp hz]; exact Or.inr ⟨by decide, xNSE, qcL_19, by decide⟩), by decide, by decide, qcL_13, by decide, rfl⟩, fun q => x_astorer dL_water_17 (x_iconst dL_water_19 (x_iret dL_water_20 (hX 2 1 _ _ hr0 (hI.ask ha hT (by decide)).crf (kp_f (kp.ag ha (by decide))) (kp_c (kp.ag ha (by decide))))))⟩
  · refine x_i2lz dL_water_8 ?_
    refine x_last (j := 0) dL_water_9 rfl (by decide) rfl (by show 0 < 1; decide) (by decide) ?_
    refine x_goto (tgt := 21) dL_water_10 (by decide) ?_
    refine x_iconst dL_water_21 ?_
    exact x_iret dL_water_22 (hP _ r hok hR (cI_u (hI.ask ha hT (by decide))) (kp_u (kp.ag ha (by decide))) (by show xu m' 111 0 _ 111 0 = _; rw [xu_if, if_pos rfl]; rfl))

set_option maxRecDepth 20000 in
theorem s_wabove {E : xE} {f : Nat → Nat} {D : Nat → Nat × Nat} {n : Nat} {m : xM} {P : xPo} {PX : xPx} {v : Nat → Int} {h : List (Nat → Int)} {x y z w : Int} (hE : eOk E) (hI : cI v h f D n m) (hx : -2147483648 ≤ x ∧ x ≤ 2147483647) (hy : -2147483648 ≤ y ∧ y ≤ 2147483647) (hz : -2147483648 ≤ z ∧ z ≤ 2147483647) (hw : -2147483648 ≤ w ∧ w ≤ 2147483647) (hX : ∀ k9 q9 n' m', (rf2 (0 ≤ x ∧ x < v 4) ((0 ≤ z ∧ z ≤ 10000) ∧ (0 ≤ w ∧ w ≤ 2000)) 0 1) k9 q9 → cI v h f D n' m' → kq [9 + q9] m m' → m' 40 (9 + q9) = m 40 (9 + q9) + 1 → P (some (vi k9)) (gS f D n') m') (hP : ∀ m' r, ((0 ≤ x ∧ x < v 4) ∧ ((0 ≤ z ∧ z ≤ 10000) ∧ (0 ≤ w ∧ w ≤ 2000))) → (fun r => r = abv v x.toNat y z w.toNat) r → cI v h f D n m' → kq [] m m' → m' 111 0 = r32 r → P (some (vi 0)) (gS f D n) m') : xCH E (yL_above, cL_above, 7, some .int) [(0, 14, 17, 19), (0, 14, 21, 13)] 13 8 64 [vr E 40, vi x, vi y, vi z, vi w, vr E 111] (gS f D n) m P := by
  refine x_enterH (by decide) rfl rfl (Nat.le_of_ble_eq_true rfl) ?_
  refine x_aload dL_above_0 rfl ?_
  refine x_iconst dL_above_2 ?_
  refine x_aload_n dL_above_3 rfl ?_
  refine x_iload_n dL_above_4 rfl ?_
  refine x_iload_n dL_above_5 rfl ?_
  refine x_iload_n dL_above_6 rfl ?_
  refine x_iload dL_above_7 rfl ?_
  refine x_callVH (as := [vi x, vi y, vi z, vi w]) (rest := [vi 0, vr E 111]) mL_57 dL_above_9 rfl rfl rfl (by simp only [List.map_cons, List.map_nil, vr_cat]; decide) (by decide) (by decide) (by decide) (s_cabove hE hI.1 hx hy hz hw (fun k9 q9 m1 hr ha hT j => ?_) (fun m' r hok hR ha hT => ?_))
  · have hr0 := hr
    rcases hr with ⟨-, rfl, rfl⟩ | ⟨-, -, rfl, rfl⟩
    · exact ⟨17, ⟨[], ⟨0, 14, 17, 19⟩, [⟨0, 14, 21, 13⟩], rfl, (fun z hz => by cases hz), by decide, by decide, qcL_19, by decide, rfl⟩, fun q => x_astorer dL_above_17 (x_iconst dL_above_19 (x_iret dL_above_20 (hX 1 0 _ _ hr0 (hI.ask ha hT (by decide)).crf (kp_f (kp.ag ha (by decide))) (kp_c (kp.ag ha (by decide))))))⟩
    · exact ⟨21, ⟨[⟨0, 14, 17, 19⟩], ⟨0, 14, 21, 13⟩, [], rfl, (fun z hz => by rw [List.mem_singleton.mp hz]; exact Or.inr ⟨by decide, xNSE, qcL_19, by decide⟩), by decide, by decide, qcL_13, by decide, rfl⟩, fun q => x_astorer dL_above_21 (x_iconst dL_above_23 (x_iret dL_above_24 (hX 2 1 _ _ hr0 (hI.ask ha hT (by decide)).crf (kp_f (kp.ag ha (by decide))) (kp_c (kp.ag ha (by decide))))))⟩
  · refine x_i2lz dL_above_12 ?_
    refine x_last (j := 0) dL_above_13 rfl (by decide) rfl (by show 0 < 1; decide) (by decide) ?_
    refine x_goto (tgt := 25) dL_above_14 (by decide) ?_
    refine x_iconst dL_above_25 ?_
    exact x_iret dL_above_26 (hP _ r hok hR (cI_u (hI.ask ha hT (by decide))) (kp_u (kp.ag ha (by decide))) (by show xu m' 111 0 _ 111 0 = _; rw [xu_if, if_pos rfl]; rfl))

set_option maxRecDepth 20000 in
theorem s_wsquat {E : xE} {f : Nat → Nat} {D : Nat → Nat × Nat} {n : Nat} {m : xM} {P : xPo} {PX : xPx} {v : Nat → Int} {h : List (Nat → Int)} {x y z w : Int} (hE : eOk E) (hI : cI v h f D n m) (hx : -2147483648 ≤ x ∧ x ≤ 2147483647) (hy : -2147483648 ≤ y ∧ y ≤ 2147483647) (hz : -2147483648 ≤ z ∧ z ≤ 2147483647) (hw : -2147483648 ≤ w ∧ w ≤ 2147483647) (hX : ∀ k9 q9 n' m', (rf2 ((0 ≤ x ∧ x < v 5) ∧ (0 ≤ y ∧ y < v 4)) ((0 ≤ z ∧ z ≤ 10000) ∧ (4 ≤ w ∧ w ≤ 25)) 0 1) k9 q9 → cI v h f D n' m' → kq [9 + q9] m m' → m' 40 (9 + q9) = m 40 (9 + q9) + 1 → P (some (vi k9)) (gS f D n') m') (hP : ∀ m' r, (((0 ≤ x ∧ x < v 5) ∧ (0 ≤ y ∧ y < v 4)) ∧ ((0 ≤ z ∧ z ≤ 10000) ∧ (4 ≤ w ∧ w ≤ 25))) → (fun r => r = sk v x.toNat (sh v x.toNat 0) (wa v y.toNat z) w) r → cI v h f D n m' → kq [] m m' → m' 111 0 = r32 r → P (some (vi 0)) (gS f D n) m') : xCH E (yL_squat, cL_squat, 7, some .int) [(0, 14, 17, 19), (0, 14, 21, 13)] 13 8 64 [vr E 40, vi x, vi y, vi z, vi w, vr E 111] (gS f D n) m P := by
  refine x_enterH (by decide) rfl rfl (Nat.le_of_ble_eq_true rfl) ?_
  refine x_aload dL_squat_0 rfl ?_
  refine x_iconst dL_squat_2 ?_
  refine x_aload_n dL_squat_3 rfl ?_
  refine x_iload_n dL_squat_4 rfl ?_
  refine x_iload_n dL_squat_5 rfl ?_
  refine x_iload_n dL_squat_6 rfl ?_
  refine x_iload dL_squat_7 rfl ?_
  refine x_callVH (as := [vi x, vi y, vi z, vi w]) (rest := [vi 0, vr E 111]) mL_61 dL_squat_9 rfl rfl rfl (by simp only [List.map_cons, List.map_nil, vr_cat]; decide) (by decide) (by decide) (by decide) (s_csquat hE hI.1 hx hy hz hw (fun k9 q9 m1 hr ha hT j => ?_) (fun m' r hok hR ha hT => ?_))
  · have hr0 := hr
    rcases hr with ⟨-, rfl, rfl⟩ | ⟨-, -, rfl, rfl⟩
    · exact ⟨17, ⟨[], ⟨0, 14, 17, 19⟩, [⟨0, 14, 21, 13⟩], rfl, (fun z hz => by cases hz), by decide, by decide, qcL_19, by decide, rfl⟩, fun q => x_astorer dL_squat_17 (x_iconst dL_squat_19 (x_iret dL_squat_20 (hX 1 0 _ _ hr0 (hI.ask ha hT (by decide)).crf (kp_f (kp.ag ha (by decide))) (kp_c (kp.ag ha (by decide))))))⟩
    · exact ⟨21, ⟨[⟨0, 14, 17, 19⟩], ⟨0, 14, 21, 13⟩, [], rfl, (fun z hz => by rw [List.mem_singleton.mp hz]; exact Or.inr ⟨by decide, xNSE, qcL_19, by decide⟩), by decide, by decide, qcL_13, by decide, rfl⟩, fun q => x_astorer dL_squat_21 (x_iconst dL_squat_23 (x_iret dL_squat_24 (hX 2 1 _ _ hr0 (hI.ask ha hT (by decide)).crf (kp_f (kp.ag ha (by decide))) (kp_c (kp.ag ha (by decide))))))⟩
  · refine x_i2lz dL_squat_12 ?_
    refine x_last (j := 0) dL_squat_13 rfl (by decide) rfl (by show 0 < 1; decide) (by decide) ?_
    refine x_goto (tgt := 25) dL_squat_14 (by decide) ?_
    refine x_iconst dL_squat_25 ?_
    exact x_iret dL_squat_26 (hP _ r hok hR (cI_u (hI.ask ha hT (by decide))) (kp_u (kp.ag ha (by decide))) (by show xu m' 111 0 _ 111 0 = _; rw [xu_if, if_pos rfl]; rfl))

set_option maxRecDepth 20000 in
theorem s_wleft {E : xE} {f : Nat → Nat} {D : Nat → Nat × Nat} {n : Nat} {m : xM} {P : xPo} {PX : xPx} {v : Nat → Int} {h : List (Nat → Int)} {x y z w : Int} (hE : eOk E) (hI : cI v h f D n m) (hx : -2147483648 ≤ x ∧ x ≤ 2147483647) (hy : -2147483648 ≤ y ∧ y ≤ 2147483647) (hz : -2147483648 ≤ z ∧ z ≤ 2147483647) (hw : -2147483648 ≤ w ∧ w ≤ 2147483647) (hX : ∀ k9 q9 n' m', (rf2 ((0 ≤ x ∧ x < v 5) ∧ (0 ≤ y ∧ y < v 4)) ((0 ≤ z ∧ z ≤ 10000) ∧ (4 ≤ w ∧ w ≤ 25)) 0 1) k9 q9 → cI v h f D n' m' → kq [9 + q9] m m' → m' 40 (9 + q9) = m 40 (9 + q9) + 1 → P (some (vi k9)) (gS f D n') m') (hP : ∀ m' r, (((0 ≤ x ∧ x < v 5) ∧ (0 ≤ y ∧ y < v 4)) ∧ ((0 ≤ z ∧ z ≤ 10000) ∧ (4 ≤ w ∧ w ≤ 25))) → (fun r => r = lfw v x.toNat (sh v x.toNat 0) (wa v y.toNat z) w) r → cI v h f D n m' → kq [] m m' → m' 111 0 = r32 r → P (some (vi 0)) (gS f D n) m') : xCH E (yL_left, cL_left, 7, some .int) [(0, 14, 17, 19), (0, 14, 21, 13)] 13 8 64 [vr E 40, vi x, vi y, vi z, vi w, vr E 111] (gS f D n) m P := by
  refine x_enterH (by decide) rfl rfl (Nat.le_of_ble_eq_true rfl) ?_
  refine x_aload dL_left_0 rfl ?_
  refine x_iconst dL_left_2 ?_
  refine x_aload_n dL_left_3 rfl ?_
  refine x_iload_n dL_left_4 rfl ?_
  refine x_iload_n dL_left_5 rfl ?_
  refine x_iload_n dL_left_6 rfl ?_
  refine x_iload dL_left_7 rfl ?_
  refine x_callVH (as := [vi x, vi y, vi z, vi w]) (rest := [vi 0, vr E 111]) mL_64 dL_left_9 rfl rfl rfl (by simp only [List.map_cons, List.map_nil, vr_cat]; decide) (by decide) (by decide) (by decide) (s_cleft hE hI.1 hx hy hz hw (fun k9 q9 m1 hr ha hT j => ?_) (fun m' r hok hR ha hT => ?_))
  · have hr0 := hr
    rcases hr with ⟨-, rfl, rfl⟩ | ⟨-, -, rfl, rfl⟩
    · exact ⟨17, ⟨[], ⟨0, 14, 17, 19⟩, [⟨0, 14, 21, 13⟩], rfl, (fun z hz => by cases hz), by decide, by decide, qcL_19, by decide, rfl⟩, fun q => x_astorer dL_left_17 (x_iconst dL_left_19 (x_iret dL_left_20 (hX 1 0 _ _ hr0 (hI.ask ha hT (by decide)).crf (kp_f (kp.ag ha (by decide))) (kp_c (kp.ag ha (by decide))))))⟩
    · exact ⟨21, ⟨[⟨0, 14, 17, 19⟩], ⟨0, 14, 21, 13⟩, [], rfl, (fun z hz => by rw [List.mem_singleton.mp hz]; exact Or.inr ⟨by decide, xNSE, qcL_19, by decide⟩), by decide, by decide, qcL_13, by decide, rfl⟩, fun q => x_astorer dL_left_21 (x_iconst dL_left_23 (x_iret dL_left_24 (hX 2 1 _ _ hr0 (hI.ask ha hT (by decide)).crf (kp_f (kp.ag ha (by decide))) (kp_c (kp.ag ha (by decide))))))⟩
  · refine x_i2lz dL_left_12 ?_
    refine x_last (j := 0) dL_left_13 rfl (by decide) rfl (by show 0 < 1; decide) (by decide) ?_
    refine x_goto (tgt := 25) dL_left_14 (by decide) ?_
    refine x_iconst dL_left_25 ?_
    exact x_iret dL_left_26 (hP _ r hok hR (cI_u (hI.ask ha hT (by decide))) (kp_u (kp.ag ha (by decide))) (by show xu m' 111 0 _ 111 0 = _; rw [xu_if, if_pos rfl]; rfl))

set_option maxRecDepth 20000 in
theorem s_wfastest {E : xE} {f : Nat → Nat} {D : Nat → Nat × Nat} {n : Nat} {m : xM} {P : xPo} {PX : xPx} {v : Nat → Int} {h : List (Nat → Int)} {x y z : Int} (hE : eOk E) (hI : cI v h f D n m) (hx : -2147483648 ≤ x ∧ x ≤ 2147483647) (hy : -2147483648 ≤ y ∧ y ≤ 2147483647) (hz : -2147483648 ≤ z ∧ z ≤ 2147483647) (hX : ∀ k9 q9 n' m', (rf2 ((0 ≤ x ∧ x < v 5) ∧ (0 ≤ y ∧ y < v 4)) (0 ≤ z ∧ z ≤ 10000) 0 1) k9 q9 → cI v h f D n' m' → kq [9 + q9] m m' → m' 40 (9 + q9) = m 40 (9 + q9) + 1 → P (some (vi k9)) (gS f D n') m') (hP : ∀ m' r, (((0 ≤ x ∧ x < v 5) ∧ (0 ≤ y ∧ y < v 4)) ∧ (0 ≤ z ∧ z ≤ 10000)) → (fun r => ftR v x.toNat y.toNat z r) r → cI v h f D n m' → kq [] m m' → m' 111 0 = r32 r → P (some (vi 0)) (gS f D n) m') : xCH E (yL_fastest, cL_fastest, 6, some .int) [(0, 12, 15, 19), (0, 12, 19, 13)] 13 8 64 [vr E 40, vi x, vi y, vi z, vr E 111] (gS f D n) m P := by
  refine x_enterH (by decide) rfl rfl (Nat.le_of_ble_eq_true rfl) ?_
  refine x_aload dL_fastest_0 rfl ?_
  refine x_iconst dL_fastest_2 ?_
  refine x_aload_n dL_fastest_3 rfl ?_
  refine x_iload_n dL_fastest_4 rfl ?_
  refine x_iload_n dL_fastest_5 rfl ?_
  refine x_iload_n dL_fastest_6 rfl ?_
  refine x_callVH (as := [vi x, vi y, vi z]) (rest := [vi 0, vr E 111]) mL_67 dL_fastest_7 rfl rfl rfl (by simp only [List.map_cons, List.map_nil, vr_cat]; decide) (by decide) (by decide) (by decide) (s_cfastest hE hI.1 hx hy hz (fun k9 q9 m1 hr ha hT j => ?_) (fun m' r hok hR ha hT => ?_))
  · have hr0 := hr
    rcases hr with ⟨-, rfl, rfl⟩ | ⟨-, -, rfl, rfl⟩
    · exact ⟨15, ⟨[], ⟨0, 12, 15, 19⟩, [⟨0, 12, 19, 13⟩], rfl, (fun z hz => by cases hz), by decide, by decide, qcL_19, by decide, rfl⟩, fun q => x_astorer dL_fastest_15 (x_iconst dL_fastest_17 (x_iret dL_fastest_18 (hX 1 0 _ _ hr0 (hI.ask ha hT (by decide)).crf (kp_f (kp.ag ha (by decide))) (kp_c (kp.ag ha (by decide))))))⟩
    · exact ⟨19, ⟨[⟨0, 12, 15, 19⟩], ⟨0, 12, 19, 13⟩, [], rfl, (fun z hz => by rw [List.mem_singleton.mp hz]; exact Or.inr ⟨by decide, xNSE, qcL_19, by decide⟩), by decide, by decide, qcL_13, by decide, rfl⟩, fun q => x_astorer dL_fastest_19 (x_iconst dL_fastest_21 (x_iret dL_fastest_22 (hX 2 1 _ _ hr0 (hI.ask ha hT (by decide)).crf (kp_f (kp.ag ha (by decide))) (kp_c (kp.ag ha (by decide))))))⟩
  · refine x_i2lz dL_fastest_10 ?_
    refine x_last (j := 0) dL_fastest_11 rfl (by decide) rfl (by show 0 < 1; decide) (by decide) ?_
    refine x_goto (tgt := 23) dL_fastest_12 (by decide) ?_
    refine x_iconst dL_fastest_23 ?_
    exact x_iret dL_fastest_24 (hP _ r hok hR (cI_u (hI.ask ha hT (by decide))) (kp_u (kp.ag ha (by decide))) (by show xu m' 111 0 _ 111 0 = _; rw [xu_if, if_pos rfl]; rfl))

set_option maxRecDepth 20000 in
theorem s_wwindow {E : xE} {f : Nat → Nat} {D : Nat → Nat × Nat} {n : Nat} {m : xM} {P : xPo} {PX : xPx} {v : Nat → Int} {h : List (Nat → Int)} {x y z u k w : Int} (hE : eOk E) (hI : cI v h f D n m) (hx : -2147483648 ≤ x ∧ x ≤ 2147483647) (hy : -2147483648 ≤ y ∧ y ≤ 2147483647) (hz : -2147483648 ≤ z ∧ z ≤ 2147483647) (hu : -2147483648 ≤ u ∧ u ≤ 2147483647) (hk : -2147483648 ≤ k ∧ k ≤ 2147483647) (hw : -2147483648 ≤ w ∧ w ≤ 2147483647) (hX : ∀ k9 q9 n' m', (wrf ((0 ≤ x ∧ x < v 5) ∧ (0 ≤ y ∧ y < v 4)) (((0 ≤ u ∧ u ≤ 10000) ∧ (4 ≤ z ∧ z ≤ 25)) ∧ edg k w) (fun i : Nat => pas v x.toNat (sh v x.toNat 0) y.toNat (u + i) z) k w) k9 q9 → cI v h f D n' m' → kq [9 + q9] m m' → m' 40 (9 + q9) = m 40 (9 + q9) + 1 → P (some (vi k9)) (gS f D n') m') (hP : ∀ m' r, (((0 ≤ x ∧ x < v 5) ∧ (0 ≤ y ∧ y < v 4)) ∧ (((0 ≤ u ∧ u ≤ 10000) ∧ (4 ≤ z ∧ z ≤ 25)) ∧ edg k w)) → (wiR (fun i : Nat => pas v x.toNat (sh v x.toNat 0) y.toNat (u + i) z) u k w) r → cI v h f D n m' → kq [] m m' → m' 111 0 = r32 r → P (some (vi 0)) (gS f D n) m') : xCH E (yL_window, cL_window, 9, some .int) [(0, 18, 21, 19), (0, 18, 25, 13)] 13 8 64 [vr E 40, vi x, vi y, vi z, vi u, vi k, vi w, vr E 111] (gS f D n) m P := by
  refine x_enterH (by decide) rfl rfl (Nat.le_of_ble_eq_true rfl) ?_
  refine x_aload dL_window_0 rfl ?_
  refine x_iconst dL_window_2 ?_
  refine x_aload_n dL_window_3 rfl ?_
  refine x_iload_n dL_window_4 rfl ?_
  refine x_iload_n dL_window_5 rfl ?_
  refine x_iload_n dL_window_6 rfl ?_
  refine x_iload dL_window_7 rfl ?_
  refine x_iload dL_window_9 rfl ?_
  refine x_iload dL_window_11 rfl ?_
  refine x_callVH (as := [vi x, vi y, vi z, vi u, vi k, vi w]) (rest := [vi 0, vr E 111]) mL_70 dL_window_13 rfl rfl rfl (by simp only [List.map_cons, List.map_nil, vr_cat]; decide) (by decide) (by decide) (by decide) (s_cwindow hE hI.1 hx hy hz hu hk hw (fun k9 q9 m1 hr ha hT j => ?_) (fun m' r hok hR ha hT => ?_))
  · have hr0 := hr
    rcases hr with (⟨-, rfl, rfl⟩ | ⟨-, -, rfl, rfl⟩) | ⟨-, -, rfl, rfl⟩
    · exact ⟨21, ⟨[], ⟨0, 18, 21, 19⟩, [⟨0, 18, 25, 13⟩], rfl, (fun z hz => by cases hz), by decide, by decide, qcL_19, by decide, rfl⟩, fun q => x_astorer dL_window_21 (x_iconst dL_window_23 (x_iret dL_window_24 (hX 1 0 _ _ hr0 (hI.ask ha hT (by decide)).crf (kp_f (kp.ag ha (by decide))) (kp_c (kp.ag ha (by decide))))))⟩
    · exact ⟨25, ⟨[⟨0, 18, 21, 19⟩], ⟨0, 18, 25, 13⟩, [], rfl, (fun z hz => by rw [List.mem_singleton.mp hz]; exact Or.inr ⟨by decide, xNSE, qcL_19, by decide⟩), by decide, by decide, qcL_13, by decide, rfl⟩, fun q => x_astorer dL_window_25 (x_iconst dL_window_27 (x_iret dL_window_28 (hX 2 1 _ _ hr0 (hI.ask ha hT (by decide)).crf (kp_f (kp.ag ha (by decide))) (kp_c (kp.ag ha (by decide))))))⟩
    · exact ⟨21, ⟨[], ⟨0, 18, 21, 19⟩, [⟨0, 18, 25, 13⟩], rfl, (fun z hz => by cases hz), by decide, by decide, qcL_19, by decide, rfl⟩, fun q => x_astorer dL_window_21 (x_iconst dL_window_23 (x_iret dL_window_24 (hX 1 0 _ _ hr0 (hI.ask ha hT (by decide)).crf (kp_f (kp.ag ha (by decide))) (kp_c (kp.ag ha (by decide))))))⟩
  · refine x_i2lz dL_window_16 ?_
    refine x_last (j := 0) dL_window_17 rfl (by decide) rfl (by show 0 < 1; decide) (by decide) ?_
    refine x_goto (tgt := 29) dL_window_18 (by decide) ?_
    refine x_iconst dL_window_29 ?_
    exact x_iret dL_window_30 (hP _ r hok hR (cI_u (hI.ask ha hT (by decide))) (kp_u (kp.ag ha (by decide))) (by show xu m' 111 0 _ 111 0 = _; rw [xu_if, if_pos rfl]; rfl))

set_option maxRecDepth 20000 in
theorem s_wjoined {E : xE} {f : Nat → Nat} {D : Nat → Nat × Nat} {n : Nat} {m : xM} {P : xPo} {PX : xPx} {v : Nat → Int} {h : List (Nat → Int)} {x y u k w : Int} (hE : eOk E) (hI : cI v h f D n m) (hx : -2147483648 ≤ x ∧ x ≤ 2147483647) (hy : -2147483648 ≤ y ∧ y ≤ 2147483647) (hu : -2147483648 ≤ u ∧ u ≤ 2147483647) (hk : -2147483648 ≤ k ∧ k ≤ 2147483647) (hw : -2147483648 ≤ w ∧ w ≤ 2147483647) (hX : ∀ k9 q9 n' m', (wrf (0 ≤ x ∧ x < v 5) ((4 ≤ y ∧ y ≤ 25) ∧ (0 ≤ u ∧ u ≤ 10000) ∧ edg k w) (fun i : Nat => good v x.toNat (sh v x.toNat 0) (u + i) y) k w) k9 q9 → cI v h f D n' m' → kq [9 + q9] m m' → m' 40 (9 + q9) = m 40 (9 + q9) + 1 → P (some (vi k9)) (gS f D n') m') (hP : ∀ m' r, ((0 ≤ x ∧ x < v 5) ∧ ((4 ≤ y ∧ y ≤ 25) ∧ (0 ≤ u ∧ u ≤ 10000) ∧ edg k w)) → (wiR (fun i : Nat => good v x.toNat (sh v x.toNat 0) (u + i) y) u k w) r → cI v h f D n m' → kq [] m m' → m' 111 0 = r32 r → P (some (vi 0)) (gS f D n) m') : xCH E (yL_joined, cL_joined, 8, some .int) [(0, 16, 19, 19), (0, 16, 23, 13)] 13 8 64 [vr E 40, vi x, vi y, vi u, vi k, vi w, vr E 111] (gS f D n) m P := by
  refine x_enterH (by decide) rfl rfl (Nat.le_of_ble_eq_true rfl) ?_
  refine x_aload dL_joined_0 rfl ?_
  refine x_iconst dL_joined_2 ?_
  refine x_aload_n dL_joined_3 rfl ?_
  refine x_iload_n dL_joined_4 rfl ?_
  refine x_iload_n dL_joined_5 rfl ?_
  refine x_iload_n dL_joined_6 rfl ?_
  refine x_iload dL_joined_7 rfl ?_
  refine x_iload dL_joined_9 rfl ?_
  refine x_callVH (as := [vi x, vi y, vi u, vi k, vi w]) (rest := [vi 0, vr E 111]) mL_74 dL_joined_11 rfl rfl rfl (by simp only [List.map_cons, List.map_nil, vr_cat]; decide) (by decide) (by decide) (by decide) (s_cjoined hE hI.1 hx hy hu hk hw (fun k9 q9 m1 hr ha hT j => ?_) (fun m' r hok hR ha hT => ?_))
  · have hr0 := hr
    rcases hr with (⟨-, rfl, rfl⟩ | ⟨-, -, rfl, rfl⟩) | ⟨-, -, rfl, rfl⟩
    · exact ⟨19, ⟨[], ⟨0, 16, 19, 19⟩, [⟨0, 16, 23, 13⟩], rfl, (fun z hz => by cases hz), by decide, by decide, qcL_19, by decide, rfl⟩, fun q => x_astorer dL_joined_19 (x_iconst dL_joined_21 (x_iret dL_joined_22 (hX 1 0 _ _ hr0 (hI.ask ha hT (by decide)).crf (kp_f (kp.ag ha (by decide))) (kp_c (kp.ag ha (by decide))))))⟩
    · exact ⟨23, ⟨[⟨0, 16, 19, 19⟩], ⟨0, 16, 23, 13⟩, [], rfl, (fun z hz => by rw [List.mem_singleton.mp hz]; exact Or.inr ⟨by decide, xNSE, qcL_19, by decide⟩), by decide, by decide, qcL_13, by decide, rfl⟩, fun q => x_astorer dL_joined_23 (x_iconst dL_joined_25 (x_iret dL_joined_26 (hX 2 1 _ _ hr0 (hI.ask ha hT (by decide)).crf (kp_f (kp.ag ha (by decide))) (kp_c (kp.ag ha (by decide))))))⟩
    · exact ⟨19, ⟨[], ⟨0, 16, 19, 19⟩, [⟨0, 16, 23, 13⟩], rfl, (fun z hz => by cases hz), by decide, by decide, qcL_19, by decide, rfl⟩, fun q => x_astorer dL_joined_19 (x_iconst dL_joined_21 (x_iret dL_joined_22 (hX 1 0 _ _ hr0 (hI.ask ha hT (by decide)).crf (kp_f (kp.ag ha (by decide))) (kp_c (kp.ag ha (by decide))))))⟩
  · refine x_i2lz dL_joined_14 ?_
    refine x_last (j := 0) dL_joined_15 rfl (by decide) rfl (by show 0 < 1; decide) (by decide) ?_
    refine x_goto (tgt := 27) dL_joined_16 (by decide) ?_
    refine x_iconst dL_joined_27 ?_
    exact x_iret dL_joined_28 (hP _ r hok hR (cI_u (hI.ask ha hT (by decide))) (kp_u (kp.ag ha (by decide))) (by show xu m' 111 0 _ 111 0 = _; rw [xu_if, if_pos rfl]; rfl))

set_option maxRecDepth 20000 in
theorem s_wlasts {E : xE} {f : Nat → Nat} {D : Nat → Nat × Nat} {n : Nat} {m : xM} {P : xPo} {PX : xPx} {v : Nat → Int} {h : List (Nat → Int)} {x y : Int} (hE : eOk E) (hI : cI v h f D n m) (hx : -2147483648 ≤ x ∧ x ≤ 2147483647) (hy : -2147483648 ≤ y ∧ y ≤ 2147483647) (hX : ∀ k9 q9 n' m', (rf2 (0 ≤ x ∧ x < v 5) (4 ≤ y ∧ y ≤ 25) 0 1) k9 q9 → cI v h f D n' m' → kq [9 + q9] m m' → m' 40 (9 + q9) = m 40 (9 + q9) + 1 → P (some (vi k9)) (gS f D n') m') (hP : ∀ m' r, ((0 ≤ x ∧ x < v 5) ∧ (4 ≤ y ∧ y ≤ 25)) → (fun r => r = pt v x.toNat y) r → cI v h f D n m' → kq [] m m' → m' 111 0 = r32 r → P (some (vi 0)) (gS f D n) m') : xCH E (yL_lasts, cL_lasts, 5, some .int) [(0, 10, 13, 19), (0, 10, 17, 13)] 13 8 64 [vr E 40, vi x, vi y, vr E 111] (gS f D n) m P := by
  refine x_enterH (by decide) rfl rfl (Nat.le_of_ble_eq_true rfl) ?_
  refine x_aload_n dL_lasts_0 rfl ?_
  refine x_iconst dL_lasts_1 ?_
  refine x_aload_n dL_lasts_2 rfl ?_
  refine x_iload_n dL_lasts_3 rfl ?_
  refine x_iload_n dL_lasts_4 rfl ?_
  refine x_callVH (as := [vi x, vi y]) (rest := [vi 0, vr E 111]) mL_78 dL_lasts_5 rfl rfl rfl (by simp only [List.map_cons, List.map_nil, vr_cat]; decide) (by decide) (by decide) (by decide) (s_clasts hE hI.1 hx hy (fun k9 q9 m1 hr ha hT j => ?_) (fun m' r hok hR ha hT => ?_))
  · have hr0 := hr
    rcases hr with ⟨-, rfl, rfl⟩ | ⟨-, -, rfl, rfl⟩
    · exact ⟨13, ⟨[], ⟨0, 10, 13, 19⟩, [⟨0, 10, 17, 13⟩], rfl, (fun z hz => by cases hz), by decide, by decide, qcL_19, by decide, rfl⟩, fun q => x_astorer dL_lasts_13 (x_iconst dL_lasts_15 (x_iret dL_lasts_16 (hX 1 0 _ _ hr0 (hI.ask ha hT (by decide)).crf (kp_f (kp.ag ha (by decide))) (kp_c (kp.ag ha (by decide))))))⟩
    · exact ⟨17, ⟨[⟨0, 10, 13, 19⟩], ⟨0, 10, 17, 13⟩, [], rfl, (fun z hz => by rw [List.mem_singleton.mp hz]; exact Or.inr ⟨by decide, xNSE, qcL_19, by decide⟩), by decide, by decide, qcL_13, by decide, rfl⟩, fun q => x_astorer dL_lasts_17 (x_iconst dL_lasts_19 (x_iret dL_lasts_20 (hX 2 1 _ _ hr0 (hI.ask ha hT (by decide)).crf (kp_f (kp.ag ha (by decide))) (kp_c (kp.ag ha (by decide))))))⟩
  · refine x_i2lz dL_lasts_8 ?_
    refine x_last (j := 0) dL_lasts_9 rfl (by decide) rfl (by show 0 < 1; decide) (by decide) ?_
    refine x_goto (tgt := 21) dL_lasts_10 (by decide) ?_
    refine x_iconst dL_lasts_21 ?_
    exact x_iret dL_lasts_22 (hP _ r hok hR (cI_u (hI.ask ha hT (by decide))) (kp_u (kp.ag ha (by decide))) (by show xu m' 111 0 _ 111 0 = _; rw [xu_if, if_pos rfl]; rfl))

set_option maxRecDepth 20000 in
theorem s_wleast {E : xE} {f : Nat → Nat} {D : Nat → Nat × Nat} {n : Nat} {m : xM} {P : xPo} {PX : xPx} {v : Nat → Int} {h : List (Nat → Int)} {x y z : Int} (hE : eOk E) (hI : cI v h f D n m) (hx : -2147483648 ≤ x ∧ x ≤ 2147483647) (hy : -2147483648 ≤ y ∧ y ≤ 2147483647) (hz : -2147483648 ≤ z ∧ z ≤ 2147483647) (hX : ∀ k9 q9 n' m', (rf2 (0 ≤ x ∧ x < v 5) ((0 ≤ y ∧ y ≤ 10000) ∧ (4 ≤ z ∧ z ≤ 25)) 0 1) k9 q9 → cI v h f D n' m' → kq [9 + q9] m m' → m' 40 (9 + q9) = m 40 (9 + q9) + 1 → P (some (vi k9)) (gS f D n') m') (hP : ∀ m' r, ((0 ≤ x ∧ x < v 5) ∧ ((0 ≤ y ∧ y ≤ 10000) ∧ (4 ≤ z ∧ z ≤ 25))) → (fun r => r = lst v x.toNat y z) r → cI v h f D n m' → kq [] m m' → m' 111 0 = r32 r → P (some (vi 0)) (gS f D n) m') : xCH E (yL_least, cL_least, 6, some .int) [(0, 12, 15, 19), (0, 12, 19, 13)] 13 8 64 [vr E 40, vi x, vi y, vi z, vr E 111] (gS f D n) m P := by
  refine x_enterH (by decide) rfl rfl (Nat.le_of_ble_eq_true rfl) ?_
  refine x_aload dL_least_0 rfl ?_
  refine x_iconst dL_least_2 ?_
  refine x_aload_n dL_least_3 rfl ?_
  refine x_iload_n dL_least_4 rfl ?_
  refine x_iload_n dL_least_5 rfl ?_
  refine x_iload_n dL_least_6 rfl ?_
  refine x_callVH (as := [vi x, vi y, vi z]) (rest := [vi 0, vr E 111]) mL_81 dL_least_7 rfl rfl rfl (by simp only [List.map_cons, List.map_nil, vr_cat]; decide) (by decide) (by decide) (by decide) (s_cleast hE hI.1 hx hy hz (fun k9 q9 m1 hr ha hT j => ?_) (fun m' r hok hR ha hT => ?_))
  · have hr0 := hr
    rcases hr with ⟨-, rfl, rfl⟩ | ⟨-, -, rfl, rfl⟩
    · exact ⟨15, ⟨[], ⟨0, 12, 15, 19⟩, [⟨0, 12, 19, 13⟩], rfl, (fun z hz => by cases hz), by decide, by decide, qcL_19, by decide, rfl⟩, fun q => x_astorer dL_least_15 (x_iconst dL_least_17 (x_iret dL_least_18 (hX 1 0 _ _ hr0 (hI.ask ha hT (by decide)).crf (kp_f (kp.ag ha (by decide))) (kp_c (kp.ag ha (by decide))))))⟩
    · exact ⟨19, ⟨[⟨0, 12, 15, 19⟩], ⟨0, 12, 19, 13⟩, [], rfl, (fun z hz => by rw [List.mem_singleton.mp hz]; exact Or.inr ⟨by decide, xNSE, qcL_19, by decide⟩), by decide, by decide, qcL_13, by decide, rfl⟩, fun q => x_astorer dL_least_19 (x_iconst dL_least_21 (x_iret dL_least_22 (hX 2 1 _ _ hr0 (hI.ask ha hT (by decide)).crf (kp_f (kp.ag ha (by decide))) (kp_c (kp.ag ha (by decide))))))⟩
  · refine x_i2lz dL_least_10 ?_
    refine x_last (j := 0) dL_least_11 rfl (by decide) rfl (by show 0 < 1; decide) (by decide) ?_
    refine x_goto (tgt := 23) dL_least_12 (by decide) ?_
    refine x_iconst dL_least_23 ?_
    exact x_iret dL_least_24 (hP _ r hok hR (cI_u (hI.ask ha hT (by decide))) (kp_u (kp.ag ha (by decide))) (by show xu m' 111 0 _ 111 0 = _; rw [xu_if, if_pos rfl]; rfl))

set_option maxRecDepth 20000 in
theorem s_wdeepest {E : xE} {f : Nat → Nat} {D : Nat → Nat × Nat} {n : Nat} {m : xM} {P : xPo} {PX : xPx} {v : Nat → Int} {h : List (Nat → Int)} {x y z : Int} (hE : eOk E) (hI : cI v h f D n m) (hx : -2147483648 ≤ x ∧ x ≤ 2147483647) (hy : -2147483648 ≤ y ∧ y ≤ 2147483647) (hz : -2147483648 ≤ z ∧ z ≤ 2147483647) (hX : ∀ k9 q9 n' m', (rf2 (0 ≤ x ∧ x < v 5) ((0 ≤ y ∧ y ≤ 10000) ∧ (4 ≤ z ∧ z ≤ 25)) 0 1) k9 q9 → cI v h f D n' m' → kq [9 + q9] m m' → m' 40 (9 + q9) = m 40 (9 + q9) + 1 → P (some (vi k9)) (gS f D n') m') (hP : ∀ m' r, ((0 ≤ x ∧ x < v 5) ∧ ((0 ≤ y ∧ y ≤ 10000) ∧ (4 ≤ z ∧ z ≤ 25))) → (fun r => r = dps v x.toNat y z) r → cI v h f D n m' → kq [] m m' → m' 111 0 = r32 r → P (some (vi 0)) (gS f D n) m') : xCH E (yL_deepest, cL_deepest, 6, some .int) [(0, 12, 15, 19), (0, 12, 19, 13)] 13 8 64 [vr E 40, vi x, vi y, vi z, vr E 111] (gS f D n) m P := by
  refine x_enterH (by decide) rfl rfl (Nat.le_of_ble_eq_true rfl) ?_
  refine x_aload dL_deepest_0 rfl ?_
  refine x_iconst dL_deepest_2 ?_
  refine x_aload_n dL_deepest_3 rfl ?_
  refine x_iload_n dL_deepest_4 rfl ?_
  refine x_iload_n dL_deepest_5 rfl ?_
  refine x_iload_n dL_deepest_6 rfl ?_
  refine x_callVH (as := [vi x, vi y, vi z]) (rest := [vi 0, vr E 111]) mL_84 dL_deepest_7 rfl rfl rfl (by simp only [List.map_cons, List.map_nil, vr_cat]; decide) (by decide) (by decide) (by decide) (s_cdeepest hE hI.1 hx hy hz (fun k9 q9 m1 hr ha hT j => ?_) (fun m' r hok hR ha hT => ?_))
  · have hr0 := hr
    rcases hr with ⟨-, rfl, rfl⟩ | ⟨-, -, rfl, rfl⟩
    · exact ⟨15, ⟨[], ⟨0, 12, 15, 19⟩, [⟨0, 12, 19, 13⟩], rfl, (fun z hz => by cases hz), by decide, by decide, qcL_19, by decide, rfl⟩, fun q => x_astorer dL_deepest_15 (x_iconst dL_deepest_17 (x_iret dL_deepest_18 (hX 1 0 _ _ hr0 (hI.ask ha hT (by decide)).crf (kp_f (kp.ag ha (by decide))) (kp_c (kp.ag ha (by decide))))))⟩
    · exact ⟨19, ⟨[⟨0, 12, 15, 19⟩], ⟨0, 12, 19, 13⟩, [], rfl, (fun z hz => by rw [List.mem_singleton.mp hz]; exact Or.inr ⟨by decide, xNSE, qcL_19, by decide⟩), by decide, by decide, qcL_13, by decide, rfl⟩, fun q => x_astorer dL_deepest_19 (x_iconst dL_deepest_21 (x_iret dL_deepest_22 (hX 2 1 _ _ hr0 (hI.ask ha hT (by decide)).crf (kp_f (kp.ag ha (by decide))) (kp_c (kp.ag ha (by decide))))))⟩
  · refine x_i2lz dL_deepest_10 ?_
    refine x_last (j := 0) dL_deepest_11 rfl (by decide) rfl (by show 0 < 1; decide) (by decide) ?_
    refine x_goto (tgt := 23) dL_deepest_12 (by decide) ?_
    refine x_iconst dL_deepest_23 ?_
    exact x_iret dL_deepest_24 (hP _ r hok hR (cI_u (hI.ask ha hT (by decide))) (kp_u (kp.ag ha (by decide))) (by show xu m' 111 0 _ 111 0 = _; rw [xu_if, if_pos rfl]; rfl))

set_option maxRecDepth 20000 in
theorem s_wsoonest {E : xE} {f : Nat → Nat} {D : Nat → Nat × Nat} {n : Nat} {m : xM} {P : xPo} {PX : xPx} {v : Nat → Int} {h : List (Nat → Int)} {x y : Int} (hE : eOk E) (hI : cI v h f D n m) (hx : -2147483648 ≤ x ∧ x ≤ 2147483647) (hy : -2147483648 ≤ y ∧ y ≤ 2147483647) (hX : ∀ k9 q9 n' m', (rf2 (0 ≤ x ∧ x < v 5) (0 ≤ y ∧ y ≤ 10000) 0 1) k9 q9 → cI v h f D n' m' → kq [9 + q9] m m' → m' 40 (9 + q9) = m 40 (9 + q9) + 1 → P (some (vi k9)) (gS f D n') m') (hP : ∀ m' r, ((0 ≤ x ∧ x < v 5) ∧ (0 ≤ y ∧ y ≤ 10000)) → (fun r => soR v x.toNat y r) r → cI v h f D n m' → kq [] m m' → m' 111 0 = r32 r → P (some (vi 0)) (gS f D n) m') : xCH E (yL_soonest, cL_soonest, 5, some .int) [(0, 10, 13, 19), (0, 10, 17, 13)] 13 8 64 [vr E 40, vi x, vi y, vr E 111] (gS f D n) m P := by
  refine x_enterH (by decide) rfl rfl (Nat.le_of_ble_eq_true rfl) ?_
  refine x_aload_n dL_soonest_0 rfl ?_
  refine x_iconst dL_soonest_1 ?_
  refine x_aload_n dL_soonest_2 rfl ?_
  refine x_iload_n dL_soonest_3 rfl ?_
  refine x_iload_n dL_soonest_4 rfl ?_
  refine x_callVH (as := [vi x, vi y]) (rest := [vi 0, vr E 111]) mL_87 dL_soonest_5 rfl rfl rfl (by simp only [List.map_cons, List.map_nil, vr_cat]; decide) (by decide) (by decide) (by decide) (s_csoonest hE hI.1 hx hy (fun k9 q9 m1 hr ha hT j => ?_) (fun m' r hok hR ha hT => ?_))
  · have hr0 := hr
    rcases hr with ⟨-, rfl, rfl⟩ | ⟨-, -, rfl, rfl⟩
    · exact ⟨13, ⟨[], ⟨0, 10, 13, 19⟩, [⟨0, 10, 17, 13⟩], rfl, (fun z hz => by cases hz), by decide, by decide, qcL_19, by decide, rfl⟩, fun q => x_astorer dL_soonest_13 (x_iconst dL_soonest_15 (x_iret dL_soonest_16 (hX 1 0 _ _ hr0 (hI.ask ha hT (by decide)).crf (kp_f (kp.ag ha (by decide))) (kp_c (kp.ag ha (by decide))))))⟩
    · exact ⟨17, ⟨[⟨0, 10, 13, 19⟩], ⟨0, 10, 17, 13⟩, [], rfl, (fun z hz => by rw [List.mem_singleton.mp hz]; exact Or.inr ⟨by decide, xNSE, qcL_19, by decide⟩), by decide, by decide, qcL_13, by decide, rfl⟩, fun q => x_astorer dL_soonest_17 (x_iconst dL_soonest_19 (x_iret dL_soonest_20 (hX 2 1 _ _ hr0 (hI.ask ha hT (by decide)).crf (kp_f (kp.ag ha (by decide))) (kp_c (kp.ag ha (by decide))))))⟩
  · refine x_i2lz dL_soonest_8 ?_
    refine x_last (j := 0) dL_soonest_9 rfl (by decide) rfl (by show 0 < 1; decide) (by decide) ?_
    refine x_goto (tgt := 21) dL_soonest_10 (by decide) ?_
    refine x_iconst dL_soonest_21 ?_
    exact x_iret dL_soonest_22 (hP _ r hok hR (cI_u (hI.ask ha hT (by decide))) (kp_u (kp.ag ha (by decide))) (by show xu m' 111 0 _ 111 0 = _; rw [xu_if, if_pos rfl]; rfl))

set_option maxRecDepth 20000 in
theorem s_wconvoy {E : xE} {f : Nat → Nat} {D : Nat → Nat × Nat} {n : Nat} {m : xM} {P : xPo} {PX : xPx} {v : Nat → Int} {h : List (Nat → Int)} {x y z : Int} (hE : eOk E) (hI : cI v h f D n m) (hx : -2147483648 ≤ x ∧ x ≤ 2147483647) (hy : -2147483648 ≤ y ∧ y ≤ 2147483647) (hz : -2147483648 ≤ z ∧ z ≤ 2147483647) (hX : ∀ k9 q9 n' m', (rf1 ((1 ≤ x ∧ x < ((2 ^ (v 5).toNat : Nat) : Int)) ∧ (4 ≤ y ∧ y ≤ 25) ∧ (0 ≤ z ∧ z ≤ 10000)) 1) k9 q9 → cI v h f D n' m' → kq [9 + q9] m m' → m' 40 (9 + q9) = m 40 (9 + q9) + 1 → P (some (vi k9)) (gS f D n') m') (hP : ∀ m' r, ((1 ≤ x ∧ x < ((2 ^ (v 5).toNat : Nat) : Int)) ∧ (4 ≤ y ∧ y ≤ 25) ∧ (0 ≤ z ∧ z ≤ 10000)) → (cvR v x.toNat y z) r → cI v h f D n m' → kq [] m m' → m' 111 0 = r32 r → P (some (vi 0)) (gS f D n) m') : xCH E (yL_convoy, cL_convoy, 6, some .int) [(0, 12, 15, 13)] 13 8 64 [vr E 40, vi x, vi y, vi z, vr E 111] (gS f D n) m P := by
  refine x_enterH (by decide) rfl rfl (Nat.le_of_ble_eq_true rfl) ?_
  refine x_aload dL_convoy_0 rfl ?_
  refine x_iconst dL_convoy_2 ?_
  refine x_aload_n dL_convoy_3 rfl ?_
  refine x_iload_n dL_convoy_4 rfl ?_
  refine x_iload_n dL_convoy_5 rfl ?_
  refine x_iload_n dL_convoy_6 rfl ?_
  refine x_callVH (as := [vi x, vi y, vi z]) (rest := [vi 0, vr E 111]) mL_90 dL_convoy_7 rfl rfl rfl (by simp only [List.map_cons, List.map_nil, vr_cat]; decide) (by decide) (by decide) (by decide) (s_cconvoy hE hI.1 hx hy hz (fun k9 q9 m1 hr ha hT j => ?_) (fun m' r hok hR ha hT => ?_))
  · have hr0 := hr
    obtain ⟨-, rfl, rfl⟩ := hr
    exact ⟨15, ⟨[], ⟨0, 12, 15, 13⟩, [], rfl, (fun z hz => by cases hz), by decide, by decide, qcL_13, by decide, rfl⟩, fun q => x_astorer dL_convoy_15 (x_iconst dL_convoy_17 (x_iret dL_convoy_18 (hX 1 1 _ _ hr0 (hI.ask ha hT (by decide)).crf (kp_f (kp.ag ha (by decide))) (kp_c (kp.ag ha (by decide))))))⟩
  · refine x_i2lz dL_convoy_10 ?_
    refine x_last (j := 0) dL_convoy_11 rfl (by decide) rfl (by show 0 < 1; decide) (by decide) ?_
    refine x_goto (tgt := 19) dL_convoy_12 (by decide) ?_
    refine x_iconst dL_convoy_19 ?_
    exact x_iret dL_convoy_20 (hP _ r hok hR (cI_u (hI.ask ha hT (by decide))) (kp_u (kp.ag ha (by decide))) (by show xu m' 111 0 _ 111 0 = _; rw [xu_if, if_pos rfl]; rfl))

set_option maxRecDepth 20000 in
theorem s_worder {E : xE} {f : Nat → Nat} {D : Nat → Nat × Nat} {n : Nat} {m : xM} {P : xPo} {PX : xPx} {v : Nat → Int} {h : List (Nat → Int)} {x y z w : Int} (hE : eOk E) (hI : cI v h f D n m) (hx : -2147483648 ≤ x ∧ x ≤ 2147483647) (hy : -2147483648 ≤ y ∧ y ≤ 2147483647) (hz : -2147483648 ≤ z ∧ z ≤ 2147483647) (hw : -2147483648 ≤ w ∧ w ≤ 2147483647) (hX : ∀ k9 q9 n' m', (rf2 ((1 ≤ x ∧ x < ((2 ^ (v 5).toNat : Nat) : Int)) ∧ (4 ≤ y ∧ y ≤ 25) ∧ (0 ≤ z ∧ z ≤ 10000)) (-1 ≤ w ∧ w < (pcn x.toNat : Int)) 1 0) k9 q9 → cI v h f D n' m' → kq [9 + q9] m m' → m' 40 (9 + q9) = m 40 (9 + q9) + 1 → P (some (vi k9)) (gS f D n') m') (hP : ∀ m' r, (((1 ≤ x ∧ x < ((2 ^ (v 5).toNat : Nat) : Int)) ∧ (4 ≤ y ∧ y ≤ 25) ∧ (0 ≤ z ∧ z ≤ 10000)) ∧ (-1 ≤ w ∧ w < (pcn x.toNat : Int))) → (orR v x.toNat y z w) r → cI v h f D n m' → kq [] m m' → m' 111 0 = r32 r → P (some (vi 0)) (gS f D n) m') : xCH E (yL_order, cL_order, 7, some .int) [(0, 14, 17, 13), (0, 14, 21, 19)] 13 8 64 [vr E 40, vi x, vi y, vi z, vi w, vr E 111] (gS f D n) m P := by
  refine x_enterH (by decide) rfl rfl (Nat.le_of_ble_eq_true rfl) ?_
  refine x_aload dL_order_0 rfl ?_
  refine x_iconst dL_order_2 ?_
  refine x_aload_n dL_order_3 rfl ?_
  refine x_iload_n dL_order_4 rfl ?_
  refine x_iload_n dL_order_5 rfl ?_
  refine x_iload_n dL_order_6 rfl ?_
  refine x_iload dL_order_7 rfl ?_
  refine x_callVH (as := [vi x, vi y, vi z, vi w]) (rest := [vi 0, vr E 111]) mL_93 dL_order_9 rfl rfl rfl (by simp only [List.map_cons, List.map_nil, vr_cat]; decide) (by decide) (by decide) (by decide) (s_corder hE hI.1 hx hy hz hw (fun k9 q9 m1 hr ha hT j => ?_) (fun m' r hok hR ha hT => ?_))
  · have hr0 := hr
    rcases hr with ⟨-, rfl, rfl⟩ | ⟨-, -, rfl, rfl⟩
    · exact ⟨17, ⟨[], ⟨0, 14, 17, 13⟩, [⟨0, 14, 21, 19⟩], rfl, (fun z hz => by cases hz), by decide, by decide, qcL_13, by decide, rfl⟩, fun q => x_astorer dL_order_17 (x_iconst dL_order_19 (x_iret dL_order_20 (hX 1 1 _ _ hr0 (hI.ask ha hT (by decide)).crf (kp_f (kp.ag ha (by decide))) (kp_c (kp.ag ha (by decide))))))⟩
    · exact ⟨21, ⟨[⟨0, 14, 17, 13⟩], ⟨0, 14, 21, 19⟩, [], rfl, (fun z hz => by rw [List.mem_singleton.mp hz]; exact Or.inr ⟨by decide, xIAE, qcL_13, by decide⟩), by decide, by decide, qcL_19, by decide, rfl⟩, fun q => x_astorer dL_order_21 (x_iconst dL_order_23 (x_iret dL_order_24 (hX 2 0 _ _ hr0 (hI.ask ha hT (by decide)).crf (kp_f (kp.ag ha (by decide))) (kp_c (kp.ag ha (by decide))))))⟩
  · refine x_i2lz dL_order_12 ?_
    refine x_last (j := 0) dL_order_13 rfl (by decide) rfl (by show 0 < 1; decide) (by decide) ?_
    refine x_goto (tgt := 25) dL_order_14 (by decide) ?_
    refine x_iconst dL_order_25 ?_
    exact x_iret dL_order_26 (hP _ r hok hR (cI_u (hI.ask ha hT (by decide))) (kp_u (kp.ag ha (by decide))) (by show xu m' 111 0 _ 111 0 = _; rw [xu_if, if_pos rfl]; rfl))

set_option maxRecDepth 20000 in
theorem s_wclose {E : xE} {f : Nat → Nat} {D : Nat → Nat × Nat} {n : Nat} {m : xM} {P : xPo} {PX : xPx} {v : Nat → Int} {h : List (Nat → Int)} {x y z : Int} (hE : eOk E) (hI : cI v h f D n m) (hx : -2147483648 ≤ x ∧ x ≤ 2147483647) (hy : -2147483648 ≤ y ∧ y ≤ 2147483647) (hz : -2147483648 ≤ z ∧ z ≤ 2147483647) (hX : ∀ k9 q9 n' m', (rf2 (0 ≤ x ∧ x < v 5) ((0 ≤ y ∧ y ≤ 10000) ∧ (4 ≤ z ∧ z ≤ 25)) 0 1) k9 q9 → cI v h f D n' m' → kq [9 + q9] m m' → m' 40 (9 + q9) = m 40 (9 + q9) + 1 → P (some (vi k9)) (gS f D n') m') (hP : ∀ m' r, ((0 ≤ x ∧ x < v 5) ∧ ((0 ≤ y ∧ y ≤ 10000) ∧ (4 ≤ z ∧ z ≤ 25))) → (fun r => r = ((cset (cls v x.toNat y z) (v 5).toNat : Nat) : Int)) r → cI v h f D n m' → kq [] m m' → m' 111 0 = r32 r → P (some (vi 0)) (gS f D n) m') : xCH E (yL_close, cL_close, 6, some .int) [(0, 12, 15, 19), (0, 12, 19, 13)] 13 8 64 [vr E 40, vi x, vi y, vi z, vr E 111] (gS f D n) m P := by
  refine x_enterH (by decide) rfl rfl (Nat.le_of_ble_eq_true rfl) ?_
  refine x_aload dL_close_0 rfl ?_
  refine x_iconst dL_close_2 ?_
  refine x_aload_n dL_close_3 rfl ?_
  refine x_iload_n dL_close_4 rfl ?_
  refine x_iload_n dL_close_5 rfl ?_
  refine x_iload_n dL_close_6 rfl ?_
  refine x_callVH (as := [vi x, vi y, vi z]) (rest := [vi 0, vr E 111]) mL_96 dL_close_7 rfl rfl rfl (by simp only [List.map_cons, List.map_nil, vr_cat]; decide) (by decide) (by decide) (by decide) (s_cclose hE hI.1 hx hy hz (fun k9 q9 m1 hr ha hT j => ?_) (fun m' r hok hR ha hT => ?_))
  · have hr0 := hr
    rcases hr with ⟨-, rfl, rfl⟩ | ⟨-, -, rfl, rfl⟩
    · exact ⟨15, ⟨[], ⟨0, 12, 15, 19⟩, [⟨0, 12, 19, 13⟩], rfl, (fun z hz => by cases hz), by decide, by decide, qcL_19, by decide, rfl⟩, fun q => x_astorer dL_close_15 (x_iconst dL_close_17 (x_iret dL_close_18 (hX 1 0 _ _ hr0 (hI.ask ha hT (by decide)).crf (kp_f (kp.ag ha (by decide))) (kp_c (kp.ag ha (by decide))))))⟩
    · exact ⟨19, ⟨[⟨0, 12, 15, 19⟩], ⟨0, 12, 19, 13⟩, [], rfl, (fun z hz => by rw [List.mem_singleton.mp hz]; exact Or.inr ⟨by decide, xNSE, qcL_19, by decide⟩), by decide, by decide, qcL_13, by decide, rfl⟩, fun q => x_astorer dL_close_19 (x_iconst dL_close_21 (x_iret dL_close_22 (hX 2 1 _ _ hr0 (hI.ask ha hT (by decide)).crf (kp_f (kp.ag ha (by decide))) (kp_c (kp.ag ha (by decide))))))⟩
  · refine x_i2lz dL_close_10 ?_
    refine x_last (j := 0) dL_close_11 rfl (by decide) rfl (by show 0 < 1; decide) (by decide) ?_
    refine x_goto (tgt := 23) dL_close_12 (by decide) ?_
    refine x_iconst dL_close_23 ?_
    exact x_iret dL_close_24 (hP _ r hok hR (cI_u (hI.ask ha hT (by decide))) (kp_u (kp.ag ha (by decide))) (by show xu m' 111 0 _ 111 0 = _; rw [xu_if, if_pos rfl]; rfl))

set_option maxRecDepth 20000 in
theorem s_wsound {E : xE} {f : Nat → Nat} {D : Nat → Nat × Nat} {n : Nat} {m : xM} {P : xPo} {PX : xPx} {v : Nat → Int} {h : List (Nat → Int)} {x y : Int} (hE : eOk E) (hI : cI v h f D n m) (hx : -2147483648 ≤ x ∧ x ≤ 2147483647) (hy : -2147483648 ≤ y ∧ y ≤ 2147483647) (hX : ∀ k9 q9 n' m', (rf2 (0 ≤ x ∧ x < v 4) (100 ≤ y ∧ y ≤ 3000) 0 1) k9 q9 → cI v h f D n' m' → kq [9 + q9] m m' → m' 40 (9 + q9) = m 40 (9 + q9) + 1 → P (some (vi k9)) (gS f D n') m') (hP : ∀ f' m' r, ((0 ≤ x ∧ x < v 4) ∧ (100 ≤ y ∧ y ≤ 3000)) → (fun r => r = br v x.toNat 1) r → cI (vup v (24 + 6 * x.toNat + 1) y) (psh h v) f' D n m' → kq [] m m' → m' 111 0 = r32 r → P (some (vi 0)) (gS f' D n) m') : xCH E (yL_sound, cL_sound, 5, some .int) [(0, 10, 13, 19), (0, 10, 17, 13)] 13 8 64 [vr E 40, vi x, vi y, vr E 111] (gS f D n) m P := by
  refine x_enterH (by decide) rfl rfl (Nat.le_of_ble_eq_true rfl) ?_
  refine x_aload_n dL_sound_0 rfl ?_
  refine x_iconst dL_sound_1 ?_
  refine x_aload_n dL_sound_2 rfl ?_
  refine x_iload_n dL_sound_3 rfl ?_
  refine x_iload_n dL_sound_4 rfl ?_
  refine x_callVH (as := [vi x, vi y]) (rest := [vi 0, vr E 111]) mL_15 dL_sound_5 rfl rfl rfl (by simp only [List.map_cons, List.map_nil, vr_cat]; decide) (by decide) (by decide) (by decide) (s_csound hE hI hx hy (fun k9 q9 m1 hr hI1 hk1 j => ?_) (fun m' f' r hok hR hI2 hk2 => ?_))
  · have hr0 := hr
    rcases hr with ⟨-, rfl, rfl⟩ | ⟨-, -, rfl, rfl⟩
    · exact ⟨13, ⟨[], ⟨0, 10, 13, 19⟩, [⟨0, 10, 17, 13⟩], rfl, (fun z hz => by cases hz), by decide, by decide, qcL_19, by decide, rfl⟩, fun q => x_astorer dL_sound_13 (x_iconst dL_sound_15 (x_iret dL_sound_16 (hX 1 0 _ _ hr0 hI1.crf (kp_f hk1) (kp_c hk1))))⟩
    · exact ⟨17, ⟨[⟨0, 10, 13, 19⟩], ⟨0, 10, 17, 13⟩, [], rfl, (fun z hz => by rw [List.mem_singleton.mp hz]; exact Or.inr ⟨by decide, xNSE, qcL_19, by decide⟩), by decide, by decide, qcL_13, by decide, rfl⟩, fun q => x_astorer dL_sound_17 (x_iconst dL_sound_19 (x_iret dL_sound_20 (hX 2 1 _ _ hr0 hI1.crf (kp_f hk1) (kp_c hk1))))⟩
  · refine x_i2lz dL_sound_8 ?_
    refine x_last (j := 0) dL_sound_9 rfl (by decide) rfl (by show 0 < 1; decide) (by decide) ?_
    refine x_goto (tgt := 21) dL_sound_10 (by decide) ?_
    refine x_iconst dL_sound_21 ?_
    exact x_iret dL_sound_22 (hP _ _ r hok hR (cI_u hI2) (kp_u hk2) (by show xu m' 111 0 _ 111 0 = _; rw [xu_if, if_pos rfl]; rfl))

set_option maxRecDepth 20000 in
theorem s_wload {E : xE} {f : Nat → Nat} {D : Nat → Nat × Nat} {n : Nat} {m : xM} {P : xPo} {PX : xPx} {v : Nat → Int} {h : List (Nat → Int)} {x y : Int} (hE : eOk E) (hI : cI v h f D n m) (hx : -2147483648 ≤ x ∧ x ≤ 2147483647) (hy : -2147483648 ≤ y ∧ y ≤ 2147483647) (hX : ∀ k9 q9 n' m', (rf2 (0 ≤ x ∧ x < v 5) (100 ≤ y ∧ y ≤ 2500) 0 1) k9 q9 → cI v h f D n' m' → kq [9 + q9] m m' → m' 40 (9 + q9) = m 40 (9 + q9) + 1 → P (some (vi k9)) (gS f D n') m') (hP : ∀ f' m' r, ((0 ≤ x ∧ x < v 5) ∧ (100 ≤ y ∧ y ≤ 2500)) → (fun r => r = sh v x.toNat 0) r → cI (vup v (60 + 8 * x.toNat + 0) y) (psh h v) f' D n m' → kq [] m m' → m' 111 0 = r32 r → P (some (vi 0)) (gS f' D n) m') : xCH E (yL_load, cL_load, 5, some .int) [(0, 10, 13, 19), (0, 10, 17, 13)] 13 8 64 [vr E 40, vi x, vi y, vr E 111] (gS f D n) m P := by
  refine x_enterH (by decide) rfl rfl (Nat.le_of_ble_eq_true rfl) ?_
  refine x_aload_n dL_load_0 rfl ?_
  refine x_iconst dL_load_1 ?_
  refine x_aload_n dL_load_2 rfl ?_
  refine x_iload_n dL_load_3 rfl ?_
  refine x_iload_n dL_load_4 rfl ?_
  refine x_callVH (as := [vi x, vi y]) (rest := [vi 0, vr E 111]) mL_21 dL_load_5 rfl rfl rfl (by simp only [List.map_cons, List.map_nil, vr_cat]; decide) (by decide) (by decide) (by decide) (s_cload hE hI hx hy (fun k9 q9 m1 hr hI1 hk1 j => ?_) (fun m' f' r hok hR hI2 hk2 => ?_))
  · have hr0 := hr
    rcases hr with ⟨-, rfl, rfl⟩ | ⟨-, -, rfl, rfl⟩
    · exact ⟨13, ⟨[], ⟨0, 10, 13, 19⟩, [⟨0, 10, 17, 13⟩], rfl, (fun z hz => by cases hz), by decide, by decide, qcL_19, by decide, rfl⟩, fun q => x_astorer dL_load_13 (x_iconst dL_load_15 (x_iret dL_load_16 (hX 1 0 _ _ hr0 hI1.crf (kp_f hk1) (kp_c hk1))))⟩
    · exact ⟨17, ⟨[⟨0, 10, 13, 19⟩], ⟨0, 10, 17, 13⟩, [], rfl, (fun z hz => by rw [List.mem_singleton.mp hz]; exact Or.inr ⟨by decide, xNSE, qcL_19, by decide⟩), by decide, by decide, qcL_13, by decide, rfl⟩, fun q => x_astorer dL_load_17 (x_iconst dL_load_19 (x_iret dL_load_20 (hX 2 1 _ _ hr0 hI1.crf (kp_f hk1) (kp_c hk1))))⟩
  · refine x_i2lz dL_load_8 ?_
    refine x_last (j := 0) dL_load_9 rfl (by decide) rfl (by show 0 < 1; decide) (by decide) ?_
    refine x_goto (tgt := 21) dL_load_10 (by decide) ?_
    refine x_iconst dL_load_21 ?_
    exact x_iret dL_load_22 (hP _ _ r hok hR (cI_u hI2) (kp_u hk2) (by show xu m' 111 0 _ 111 0 = _; rw [xu_if, if_pos rfl]; rfl))

set_option maxRecDepth 20000 in
theorem s_wsurge {E : xE} {f : Nat → Nat} {D : Nat → Nat × Nat} {n : Nat} {m : xM} {P : xPo} {PX : xPx} {v : Nat → Int} {h : List (Nat → Int)} {x : Int} (hE : eOk E) (hI : cI v h f D n m) (hx : -2147483648 ≤ x ∧ x ≤ 2147483647) (hX : ∀ k9 q9 n' m', (rf1 (-300 ≤ x ∧ x ≤ 300) 1) k9 q9 → cI v h f D n' m' → kq [9 + q9] m m' → m' 40 (9 + q9) = m 40 (9 + q9) + 1 → P (some (vi k9)) (gS f D n') m') (hP : ∀ f' m' r, (-300 ≤ x ∧ x ≤ 300) → (fun r => r = v 2) r → cI (vup v 2 x) (psh h v) f' D n m' → kq [] m m' → m' 111 0 = r32 r → P (some (vi 0)) (gS f' D n) m') : xCH E (yL_surge, cL_surge, 4, some .int) [(0, 9, 12, 13)] 13 8 64 [vr E 40, vi x, vr E 111] (gS f D n) m P := by
  refine x_enterH (by decide) rfl rfl (Nat.le_of_ble_eq_true rfl) ?_
  refine x_aload_n dL_surge_0 rfl ?_
  refine x_iconst dL_surge_1 ?_
  refine x_aload_n dL_surge_2 rfl ?_
  refine x_iload_n dL_surge_3 rfl ?_
  refine x_callVH (as := [vi x]) (rest := [vi 0, vr E 111]) mL_24 dL_surge_4 rfl rfl rfl (by simp only [List.map_cons, List.map_nil, vr_cat]; decide) (by decide) (by decide) (by decide) (s_csurge hE hI hx (fun k9 q9 m1 hr hI1 hk1 j => ?_) (fun m' f' r hok hR hI2 hk2 => ?_))
  · have hr0 := hr
    obtain ⟨-, rfl, rfl⟩ := hr
    exact ⟨12, ⟨[], ⟨0, 9, 12, 13⟩, [], rfl, (fun z hz => by cases hz), by decide, by decide, qcL_13, by decide, rfl⟩, fun q => x_astore_nr dL_surge_12 (x_iconst dL_surge_13 (x_iret dL_surge_14 (hX 1 1 _ _ hr0 hI1.crf (kp_f hk1) (kp_c hk1))))⟩
  · refine x_i2lz dL_surge_7 ?_
    refine x_last (j := 0) dL_surge_8 rfl (by decide) rfl (by show 0 < 1; decide) (by decide) ?_
    refine x_goto (tgt := 15) dL_surge_9 (by decide) ?_
    refine x_iconst dL_surge_15 ?_
    exact x_iret dL_surge_16 (hP _ _ r hok hR (cI_u hI2) (kp_u hk2) (by show xu m' 111 0 _ 111 0 = _; rw [xu_if, if_pos rfl]; rfl))

set_option maxRecDepth 20000 in
theorem s_wbook {E : xE} {f : Nat → Nat} {D : Nat → Nat × Nat} {n : Nat} {m : xM} {P : xPo} {PX : xPx} {v : Nat → Int} {h : List (Nat → Int)} {x y z : Int} (hE : eOk E) (hI : cI v h f D n m) (hx : -2147483648 ≤ x ∧ x ≤ 2147483647) (hy : -2147483648 ≤ y ∧ y ≤ 2147483647) (hz : -2147483648 ≤ z ∧ z ≤ 2147483647) (hX : ∀ k9 q9 n' m', (rf3 (0 ≤ x ∧ x < v 5) ((0 ≤ y ∧ y ≤ 2000) ∧ (sh v x.toNat 3 ≤ z ∧ z ≤ sh v x.toNat 4)) (¬ bk v x.toNat ∧ good v x.toNat (sh v x.toNat 0) y z ∧ cset (cls v x.toNat y z) (v 5).toNat = 0)) k9 q9 → cI v h f D n' m' → kq [9 + q9] m m' → m' 40 (9 + q9) = m 40 (9 + q9) + 1 → P (some (vi k9)) (gS f D n') m') (hP : ∀ f' m' r, ((0 ≤ x ∧ x < v 5) ∧ ((0 ≤ y ∧ y ≤ 2000) ∧ (sh v x.toNat 3 ≤ z ∧ z ≤ sh v x.toNat 4)) ∧ (¬ bk v x.toNat ∧ good v x.toNat (sh v x.toNat 0) y z ∧ cset (cls v x.toNat y z) (v 5).toNat = 0)) → (fun r => r = y + pt v x.toNat z) r → cI (vbk v x.toNat y z) (psh h v) f' D n m' → kq [] m m' → m' 111 0 = r32 r → P (some (vi 0)) (gS f' D n) m') : xCH E (yL_book, cL_book, 6, some .int) [(0, 12, 15, 19), (0, 12, 19, 13), (0, 12, 23, 31)] 13 8 64 [vr E 40, vi x, vi y, vi z, vr E 111] (gS f D n) m P := by
  refine x_enterH (by decide) rfl rfl (Nat.le_of_ble_eq_true rfl) ?_
  refine x_aload dL_book_0 rfl ?_
  refine x_iconst dL_book_2 ?_
  refine x_aload_n dL_book_3 rfl ?_
  refine x_iload_n dL_book_4 rfl ?_
  refine x_iload_n dL_book_5 rfl ?_
  refine x_iload_n dL_book_6 rfl ?_
  refine x_callVH (as := [vi x, vi y, vi z]) (rest := [vi 0, vr E 111]) mL_27 dL_book_7 rfl rfl rfl (by simp only [List.map_cons, List.map_nil, vr_cat]; decide) (by decide) (by decide) (by decide) (s_cbook hE hI hx hy hz (fun k9 q9 m1 hr hI1 hk1 j => ?_) (fun m' f' r hok hR hI2 hk2 => ?_))
  · have hr0 := hr
    rcases hr with ⟨-, rfl, rfl⟩ | ⟨-, -, rfl, rfl⟩ | ⟨-, -, -, rfl, rfl⟩
    · exact ⟨15, ⟨[], ⟨0, 12, 15, 19⟩, [⟨0, 12, 19, 13⟩, ⟨0, 12, 23, 31⟩], rfl, (fun z hz => by cases hz), by decide, by decide, qcL_19, by decide, rfl⟩, fun q => x_astorer dL_book_15 (x_iconst dL_book_17 (x_iret dL_book_18 (hX 1 0 _ _ hr0 hI1.crf (kp_f hk1) (kp_c hk1))))⟩
    · exact ⟨19, ⟨[⟨0, 12, 15, 19⟩], ⟨0, 12, 19, 13⟩, [⟨0, 12, 23, 31⟩], rfl, (fun z hz => by rw [List.mem_singleton.mp hz]; exact Or.inr ⟨by decide, xNSE, qcL_19, by decide⟩), by decide, by decide, qcL_13, by decide, rfl⟩, fun q => x_astorer dL_book_19 (x_iconst dL_book_21 (x_iret dL_book_22 (hX 2 1 _ _ hr0 hI1.crf (kp_f hk1) (kp_c hk1))))⟩
    · exact ⟨23, ⟨[⟨0, 12, 15, 19⟩, ⟨0, 12, 19, 13⟩], ⟨0, 12, 23, 31⟩, [], rfl, (fun z hz => by rcases List.mem_cons.mp hz with e | hz; (rw [e]; exact Or.inr ⟨by decide, xNSE, qcL_19, by decide⟩); (rw [List.mem_singleton.mp hz]; exact Or.inr ⟨by decide, xIAE, qcL_13, by decide⟩)), by decide, by decide, qcL_31, by decide, rfl⟩, fun q => x_astorer dL_book_23 (x_iconst dL_book_25 (x_iret dL_book_26 (hX 3 2 _ _ hr0 hI1.crf (kp_f hk1) (kp_c hk1))))⟩
  · refine x_i2lz dL_book_10 ?_
    refine x_last (j := 0) dL_book_11 rfl (by decide) rfl (by show 0 < 1; decide) (by decide) ?_
    refine x_goto (tgt := 27) dL_book_12 (by decide) ?_
    refine x_iconst dL_book_27 ?_
    exact x_iret dL_book_28 (hP _ _ r hok hR (cI_u hI2) (kp_u hk2) (by show xu m' 111 0 _ 111 0 = _; rw [xu_if, if_pos rfl]; rfl))

set_option maxRecDepth 20000 in
theorem s_wcancel {E : xE} {f : Nat → Nat} {D : Nat → Nat × Nat} {n : Nat} {m : xM} {P : xPo} {PX : xPx} {v : Nat → Int} {h : List (Nat → Int)} {x : Int} (hE : eOk E) (hI : cI v h f D n m) (hx : -2147483648 ≤ x ∧ x ≤ 2147483647) (hX : ∀ k9 q9 n' m', (rf2 (0 ≤ x ∧ x < v 5) (bk v x.toNat) 0 2) k9 q9 → cI v h f D n' m' → kq [9 + q9] m m' → m' 40 (9 + q9) = m 40 (9 + q9) + 1 → P (some (vi k9)) (gS f D n') m') (hP : ∀ f' m' r, ((0 ≤ x ∧ x < v 5) ∧ (bk v x.toNat)) → (fun r => r = sh v x.toNat 6) r → cI (vbk v x.toNat (-1) (-1)) (psh h v) f' D n m' → kq [] m m' → m' 111 0 = r32 r → P (some (vi 0)) (gS f' D n) m') : xCH E (yL_cancel, cL_cancel, 4, some .int) [(0, 9, 12, 19), (0, 9, 15, 31)] 13 8 64 [vr E 40, vi x, vr E 111] (gS f D n) m P := by
  refine x_enterH (by decide) rfl rfl (Nat.le_of_ble_eq_true rfl) ?_
  refine x_aload_n dL_cancel_0 rfl ?_
  refine x_iconst dL_cancel_1 ?_
  refine x_aload_n dL_cancel_2 rfl ?_
  refine x_iload_n dL_cancel_3 rfl ?_
  refine x_callVH (as := [vi x]) (rest := [vi 0, vr E 111]) mL_33 dL_cancel_4 rfl rfl rfl (by simp only [List.map_cons, List.map_nil, vr_cat]; decide) (by decide) (by decide) (by decide) (s_ccancel hE hI hx (fun k9 q9 m1 hr hI1 hk1 j => ?_) (fun m' f' r hok hR hI2 hk2 => ?_))
  · have hr0 := hr
    rcases hr with ⟨-, rfl, rfl⟩ | ⟨-, -, rfl, rfl⟩
    · exact ⟨12, ⟨[], ⟨0, 9, 12, 19⟩, [⟨0, 9, 15, 31⟩], rfl, (fun z hz => by cases hz), by decide, by decide, qcL_19, by decide, rfl⟩, fun q => x_astore_nr dL_cancel_12 (x_iconst dL_cancel_13 (x_iret dL_cancel_14 (hX 1 0 _ _ hr0 hI1.crf (kp_f hk1) (kp_c hk1))))⟩
    · exact ⟨15, ⟨[⟨0, 9, 12, 19⟩], ⟨0, 9, 15, 31⟩, [], rfl, (fun z hz => by rw [List.mem_singleton.mp hz]; exact Or.inr ⟨by decide, xNSE, qcL_19, by decide⟩), by decide, by decide, qcL_31, by decide, rfl⟩, fun q => x_astore_nr dL_cancel_15 (x_iconst dL_cancel_16 (x_iret dL_cancel_17 (hX 2 2 _ _ hr0 hI1.crf (kp_f hk1) (kp_c hk1))))⟩
  · refine x_i2lz dL_cancel_7 ?_
    refine x_last (j := 0) dL_cancel_8 rfl (by decide) rfl (by show 0 < 1; decide) (by decide) ?_
    refine x_goto (tgt := 18) dL_cancel_9 (by decide) ?_
    refine x_iconst dL_cancel_18 ?_
    exact x_iret dL_cancel_19 (hP _ _ r hok hR (cI_u hI2) (kp_u hk2) (by show xu m' 111 0 _ 111 0 = _; rw [xu_if, if_pos rfl]; rfl))

end WR
