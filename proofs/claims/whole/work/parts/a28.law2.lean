section LX
set_option maxRecDepth 20000 in
theorem s_wtext {E : xE} {f : Nat → Nat} {D : Nat → Nat × Nat} {n : Nat} {m : xM} {P : xPo} {v : Nat → Int} {h : List (Nat → Int)} {x : Int} {p : Nat} (hL : eL E) (hI : cI v h f D n m) (hx : -2147483648 ≤ x ∧ x ≤ 2147483647) (hp : m 40 6 = (p : Int)) (hp6 : p ≤ 600) (hq : ∀ k, k < 600 → -128 ≤ m 79 k ∧ m 79 k ≤ 127) (hT : m 40 7 < 100000)
    (hX : ¬ (0 ≤ x ∧ x ≤ (p : Int)) → ∀ n' m', cI v h f D n' m' → kq [9 + 1] m m' → m' 40 (9 + 1) = m 40 (9 + 1) + 1 → P (some (vi 1)) (gS f D n') m')
    (hPA : 0 ≤ x ∧ x ≤ (p : Int) → (ptx (m 79) x.toNat).1 ≠ 0 → ∀ m' f', cI v h f' D n m' → kq [6, 8] m m' → m' 40 6 = 0 → m' 40 8 = ((ptx (m 79) x.toNat).2.1 : Int) → m' 111 0 = r32 (((ptx (m 79) x.toNat).1 : Int) - 10) → P (some (vi 0)) (gS f' D n) m')
    (hPB : 0 ≤ x ∧ x ≤ (p : Int) → (ptx (m 79) x.toNat).1 = 0 → ∀ f' D' n' m', cI (vtx v (ptx (m 79) x.toNat).2.2.2 ((m 40 7).toNat + 1)) (psh h v) f' D' n' m' → kq [6, 7, 8] m m' → m' 40 6 = 0 → m' 40 8 = -1 → m' 40 7 = m 40 7 + 1 → m' 111 0 = r32 ((ptx (m 79) x.toNat).2.2.2 4 + (ptx (m 79) x.toNat).2.2.2 5) → P (some (vi 0)) (gS f' D' n') m') :
    xCH E (yL_text, cL_text, 4, some .int) [(0, 9, 12, 13)] 24 8 640 [vr E 40, vi x, vr E 111] (gS f D n) m P := by
  refine x_enterH (by decide) rfl rfl (Nat.le_of_ble_eq_true rfl) ?_
  refine x_aload_n dL_text_0 rfl ?_
  refine x_iconst dL_text_1 ?_
  refine x_aload_n dL_text_2 rfl ?_
  refine x_iload_n dL_text_3 rfl ?_
  have e40 : ∀ (m' : xM) (z : Int), xu m' 111 0 z 40 = m' 40 := fun m' z => xu_ne (by omega)
  refine x_callVH (as := [vi x]) (rest := [vi 0, vr E 111]) mL_7 dL_text_4 rfl rfl rfl (by simp only [List.map_cons, List.map_nil, vr_cat]; decide) (by decide) (by decide) (by decide) (s_ctext hL hI hx hp hp6 hq hT (fun hn j => ?_) (fun h1 hfl m' f' hI2 hk2 h6 h8 => ?_) (fun h1 hfl f' D' n' m' hn hI2 hk2 h6 h8 h7 => ?_))
  · exact ⟨12, ⟨[], ⟨0, 9, 12, 13⟩, [], rfl, (fun z hz => by cases hz), by decide, by decide, qcL_13, by decide, rfl⟩, fun q => x_astore_nr dL_text_12 (x_iconst dL_text_13 (x_iret dL_text_14 (hX hn _ _ hI.crf (kp_f kp.rf) (kp_c kp.rf))))⟩
  · refine x_i2lz dL_text_7 ?_
    refine x_last (j := 0) dL_text_8 rfl (by decide) rfl (by show 0 < 1; decide) (by decide) ?_
    refine x_goto (tgt := 15) dL_text_9 (by decide) ?_
    refine x_iconst dL_text_15 ?_
    exact x_iret dL_text_16 (hPA h1 hfl _ _ (cI_u hI2) (kp_u hk2) (by rw [e40]; exact h6) (by rw [e40]; exact h8) (by show xu m' 111 0 _ 111 0 = _; rw [xu_if, if_pos rfl]; rfl))
  · refine x_i2lz dL_text_7 ?_
    refine x_last (j := 0) dL_text_8 rfl (by decide) rfl (by show 0 < 1; decide) (by decide) ?_
    refine x_goto (tgt := 15) dL_text_9 (by decide) ?_
    refine x_iconst dL_text_15 ?_
    exact x_iret dL_text_16 (hPB h1 hfl _ _ _ _ (cI_u hI2) (kp_u hk2) (by rw [e40]; exact h6) (by rw [e40]; exact h8) (by rw [e40]; exact h7) (by show xu m' 111 0 _ 111 0 = _; rw [xu_if, if_pos rfl]; rfl))
end LX
