section PT
/-! ===== a statement that is read leaves what is told as the document allows ===== -/
def pK (r : Nat → Int) : Prop := vOk r ∧ (r 900 = 0 ∨ r 900 = 1) ∧ (r 901 = 0 ∨ r 901 = 1) ∧ (r 902 = 0 ∨ r 902 = 1) ∧ (r 900 = 0 → r 108 = 0) ∧ (r 900 = 1 → 0 < r 108)
section A
variable {q : Nat → Int} {N : Nat} {X : pX}
theorem pnX_h {lo hi : Int} (hN : X.2.2.1 ≤ N) (h : (pnX q N lo hi X).1 = 0) : X.2.2.1 < (pnX q N lo hi X).2.2.1 ∧ (pnX q N lo hi X).2.2.1 ≤ N := by
  have := pnX_c (q := q) (lo := lo) (hi := hi) (pnX_0 h) hN h
  rw [pnX_r] at this
  omega
theorem pns_K : ∀ (l : List (Int × Int)) (b : Nat) (X : pX), X.2.2.1 ≤ N → (pns q N b l X).1 = 0 → X.1 = 0 ∧ X.2.2.1 ≤ (pns q N b l X).2.2.1 ∧ (pns q N b l X).2.2.1 ≤ N ∧ (∀ i, i < l.length → (l.getD i (0, 0)).1 ≤ (pns q N b l X).2.2.2 (b + i) ∧ (pns q N b l X).2.2.2 (b + i) ≤ (l.getD i (0, 0)).2) ∧ ∀ k, k < b ∨ b + l.length ≤ k → (pns q N b l X).2.2.2 k = X.2.2.2 k := by
  intro l
  induction l with
  | nil => intro b X hN h; exact ⟨h, Nat.le_refl _, hN, fun i hi => absurd hi (by simp), fun _ _ => rfl⟩
  | cons t l ih =>
    intro b X hN h
    have hz : (pns q N b (t :: l) X) = pns q N (b + 1) l (pnum q N b t.1 t.2 X) := rfl
    rw [hz] at h ⊢
    by_cases h1 : (pnX q N t.1 t.2 X).1 = 0
    · have hh := pnX_h hN h1
      have hv := pnX_v h1
      obtain ⟨-, a1, a2, a3, a4⟩ := ih (b + 1) (pnum q N b t.1 t.2 X) hh.2 h
      have a1' : (pnX q N t.1 t.2 X).2.2.1 ≤ (pns q N (b + 1) l (pnum q N b t.1 t.2 X)).2.2.1 := a1
      refine ⟨pnX_0 h1, by omega, a2, fun i hi => ?_, fun k hk => ?_⟩
      · cases i with
        | zero =>
          rw [a4 (b + 0) (by omega)]
          show t.1 ≤ (if b + 0 = b then _ else _) ∧ (if b + 0 = b then _ else _) ≤ t.2
          rw [if_pos (by omega)]
          exact hv
        | succ i =>
          have := a3 i (by simp at hi; omega)
          rw [show b + (i + 1) = b + 1 + i by omega]
          exact this
      · rw [a4 k (by simp at hk; omega)]
        show (if k = b then _ else (pnX q N t.1 t.2 X).2.2.2 k) = _
        rw [if_neg (by simp at hk; omega), pnX_r]
    · exfalso
      have : ∀ (l : List (Int × Int)) (b : Nat) (Y : pX), Y.1 ≠ 0 → (pns q N b l Y).1 ≠ 0 := by
        intro l
        induction l with
        | nil => intro b Y hY; exact hY
        | cons t l ih2 => intro b Y hY; exact ih2 _ _ (by show (pnX q N t.1 t.2 Y).1 ≠ 0; rw [pnX_n hY]; exact hY)
      exact this l (b + 1) (pnum q N b t.1 t.2 X) h1 h
theorem pns_n {l : List (Int × Int)} {b : Nat} (h : (pns q N b l X).1 = 0) (hN : X.2.2.1 ≤ N) : X.1 = 0 := (pns_K l b X hN h).1
theorem wv_p {r : Nat → Int} {w j : Nat} : wv r w j = r (6 + 3 * w + j) := rfl
theorem pwav_K (hN : X.2.2.1 ≤ N) (hv : vOk X.2.2.2) (hw : X.2.2.2 3 < 6) (h : (pwav q N X).1 = 0) : vOk (pwav q N X).2.2.2 ∧ X.2.2.1 ≤ (pwav q N X).2.2.1 ∧ (pwav q N X).2.2.1 ≤ N ∧ (pwav q N X).2.2.2 3 = X.2.2.2 3 + 1 ∧ ∀ k, k ≠ 3 → (k < 6 ∨ 24 ≤ k) → (pwav q N X).2.2.2 k = X.2.2.2 k := by
  have h3 := hv.1.2.2.2.1.1
  obtain ⟨w, hw3⟩ := nat_of h3.1
  have e0 : (X.2.2.2 3).toNat = w := by omega
  have h' : (pns q N (6 + 3 * (X.2.2.2 3).toNat) [(0, 400), (60, 2000), (0, 2000)] X).1 = 0 := h
  obtain ⟨-, a1, a2, a3, a4⟩ := pns_K _ _ X hN h'
  have b0 := a3 0 (by simp)
  have b1 := a3 1 (by simp)
  have b2 := a3 2 (by simp)
  simp at b0 b1 b2 a4
  have hr : ∀ k, k ≠ 3 → (pwav q N X).2.2.2 k = (pns q N (6 + 3 * (X.2.2.2 3).toNat) [(0, 400), (60, 2000), (0, 2000)] X).2.2.2 k := fun k hk => if_neg hk
  have h33 : (pwav q N X).2.2.2 3 = X.2.2.2 3 + 1 := by unfold pwav; exact pset_eq
  have ho : ∀ k, k ≠ 3 → (k < 6 + 3 * w ∨ 6 + 3 * w + 3 ≤ k) → (pwav q N X).2.2.2 k = X.2.2.2 k := fun k hk hk2 => by rw [hr k hk]; exact a4 k (by omega)
  refine ⟨⟨⟨?_, ?_, ?_, ?_, ?_, ?_⟩, fOk_c (fun k hk => ho k (by omega) (by omega)) hv.2⟩, a1, a2, h33, fun k hk hk2 => ho k hk (by omega)⟩
  · rw [ho 0 (by omega) (by omega)]; exact hv.1.1
  · rw [ho 1 (by omega) (by omega)]; exact hv.1.2.1
  · rw [ho 2 (by omega) (by omega)]; exact hv.1.2.2.1
  · refine ⟨by rw [h33]; omega, fun u hu => ?_⟩
    rw [h33] at hu
    unfold wv
    by_cases e : u = w
    · subst e
      rw [hr _ (by omega), hr _ (by omega), hr _ (by omega)]
      rw [e0] at b0 b1 b2 ⊢
      exact ⟨b0, b1, b2⟩
    · have := hv.1.2.2.2.1.2 u (by omega)
      unfold wv at this
      rw [ho _ (by omega) (by omega), ho _ (by omega) (by omega), ho _ (by omega) (by omega)]
      exact this
  · exact bOk_c (ho 4 (by omega) (by omega)) (fun k k1 k2 => ho k (by omega) (by omega)) hv.1.2.2.2.2.1
  · exact sOk_c (ho 5 (by omega) (by omega)) (fun k k1 k2 => ho k (by omega) (by omega)) hv.1.2.2.2.2.2
theorem pwX_h {i : Nat} (hi : i < 13) (hN : X.2.2.1 ≤ N) (h0 : X.1 = 0) : X.2.2.1 ≤ (pwX q N i X).2.2.1 ∧ (pwX q N i X).2.2.1 ≤ N := by
  have hs := skp_b (q := q) hN
  by_cases c : pwT q N i X
  · rw [pwX_t c]
    exact ⟨by show X.2.2.1 ≤ skp q N X.2.2.1 + wl i; omega, c.2.1⟩
  · rw [pwX_f c, pskip_0 h0]
    exact ⟨hs.1, hs.2.1⟩
abbrev bL5 : List (Int × Int) := [(0, 200), (100, 3000), (1, 20), (0, 300), (50, 150)]
theorem pbar_e {w : Nat} (hw : X.2.2.2 4 = (w : Int)) : pbar q N X = pset 4 ((w : Int) + 1) (ptk q N (24 + 6 * w + 5) 3 (pns q N (24 + 6 * w) bL5 X)) := by
  unfold pbar
  rw [hw, Int.toNat_natCast]
theorem pbar_K (hN : X.2.2.1 ≤ N) (hv : vOk X.2.2.2) (hw : X.2.2.2 4 < 6) (h : (pbar q N X).1 = 0) : vOk (pbar q N X).2.2.2 ∧ X.2.2.1 ≤ (pbar q N X).2.2.1 ∧ (pbar q N X).2.2.1 ≤ N ∧ (pbar q N X).2.2.2 4 = X.2.2.2 4 + 1 ∧ ∀ k, k ≠ 4 → (k < 24 ∨ 60 ≤ k) → (pbar q N X).2.2.2 k = X.2.2.2 k := by
  have h4 := hv.1.2.2.2.2.1.1
  obtain ⟨w, hw4⟩ := nat_of h4.1
  rw [pbar_e hw4] at h ⊢
  obtain ⟨Y, hY⟩ : ∃ y, y = pns q N (24 + 6 * w) bL5 X := ⟨_, rfl⟩
  rw [← hY] at h ⊢
  have hp : (pwX q N 3 Y).1 = 0 := h
  have hy0 : Y.1 = 0 := pwX_0.symm.trans hp
  have h' : (pns q N (24 + 6 * w) bL5 X).1 = 0 := by rw [← hY]; exact hy0
  obtain ⟨-, a1, a2, a3, a4⟩ := pns_K _ _ X hN h'
  rw [← hY] at a1 a2 a3 a4
  have b0 := a3 0 (by simp)
  have b1 := a3 1 (by simp)
  have b2 := a3 2 (by simp)
  have b3 := a3 3 (by simp)
  have b4 := a3 4 (by simp)
  simp at b0 b1 b2 b3 b4 a4
  have hh := pwX_h (q := q) (i := 3) (by omega) a2 hy0
  obtain ⟨R, hR⟩ : ∃ R, R = (pset 4 ((w : Int) + 1) (ptk q N (24 + 6 * w + 5) 3 Y)).2.2.2 := ⟨_, rfl⟩
  have hRk : ∀ k, R k = if k = 4 then (w : Int) + 1 else if k = 24 + 6 * w + 5 then zi (pwT q N 3 Y) else Y.2.2.2 k := by
    intro k
    rw [hR]
    show (if k = 4 then _ else (if k = 24 + 6 * w + 5 then _ else (pwX q N 3 Y).2.2.2 k)) = _
    rw [pwX_r]
  rw [← hR]
  have h44 : R 4 = X.2.2.2 4 + 1 := by rw [hRk 4, if_pos rfl, hw4]
  have ho : ∀ k, k ≠ 4 → (k < 24 + 6 * w ∨ 24 + 6 * w + 6 ≤ k) → R k = X.2.2.2 k := fun k hk hk2 => by
    rw [hRk k, if_neg hk, if_neg (by omega)]; exact a4 k (by omega)
  refine ⟨⟨⟨?_, ?_, ?_, ?_, ?_, ?_⟩, fOk_c (fun k hk => ho k (by omega) (by omega)) hv.2⟩, Nat.le_trans a1 hh.1, hh.2, h44, fun k hk hk2 => ho k hk (by omega)⟩
  · rw [ho 0 (by omega) (by omega)]; exact hv.1.1
  · rw [ho 1 (by omega) (by omega)]; exact hv.1.2.1
  · rw [ho 2 (by omega) (by omega)]; exact hv.1.2.2.1
  · exact wOk_c (ho 3 (by omega) (by omega)) (fun k k1 k2 => ho k (by omega) (by omega)) hv.1.2.2.2.1
  · refine ⟨by rw [h44]; omega, fun u hu => ?_⟩
    rw [h44] at hu
    unfold br
    by_cases e : u = w
    · subst e
      have r0 : R (24 + 6 * u + 0) = Y.2.2.2 (24 + 6 * u) := by rw [hRk, if_neg (by omega), if_neg (by omega)]; rfl
      have r1 : R (24 + 6 * u + 1) = Y.2.2.2 (24 + 6 * u + 1) := by rw [hRk, if_neg (by omega), if_neg (by omega)]
      have r2 : R (24 + 6 * u + 2) = Y.2.2.2 (24 + 6 * u + 2) := by rw [hRk, if_neg (by omega), if_neg (by omega)]
      have r3 : R (24 + 6 * u + 3) = Y.2.2.2 (24 + 6 * u + 3) := by rw [hRk, if_neg (by omega), if_neg (by omega)]
      have r4 : R (24 + 6 * u + 4) = Y.2.2.2 (24 + 6 * u + 4) := by rw [hRk, if_neg (by omega), if_neg (by omega)]
      have r5 : R (24 + 6 * u + 5) = zi (pwT q N 3 Y) := by rw [hRk, if_neg (by omega), if_pos rfl]
      rw [r0, r1, r2, r3, r4, r5]
      exact ⟨b0, b1, b2, b3, b4, zi_01 _⟩
    · have := hv.1.2.2.2.2.1.2 u (by omega)
      unfold br at this
      rw [ho _ (by omega) (by omega), ho _ (by omega) (by omega), ho _ (by omega) (by omega), ho _ (by omega) (by omega), ho _ (by omega) (by omega), ho _ (by omega) (by omega)]
      exact this
  · exact sOk_c (ho 5 (by omega) (by omega)) (fun k k1 k2 => ho k (by omega) (by omega)) hv.1.2.2.2.2.2
abbrev sL4 : List (Int × Int) := [(100, 2500), (40, 95), (0, 300), (4, 25)]
theorem pshp_e {w : Nat} (hw : X.2.2.2 5 = (w : Int)) : pshp q N X = pset 5 ((w : Int) + 1) (pset (60 + 8 * w + 7) (-1) (pset (60 + 8 * w + 6) (-1) (ptk q N (60 + 8 * w + 5) 5 (pnum q N (60 + 8 * w + 4) ((pns q N (60 + 8 * w) sL4 X).2.2.2 (60 + 8 * w + 3)) 25 (pns q N (60 + 8 * w) sL4 X))))) := by
  unfold pshp
  rw [hw, Int.toNat_natCast]
theorem pshp_K (hN : X.2.2.1 ≤ N) (hv : vOk X.2.2.2) (hw : X.2.2.2 5 < 6) (h : (pshp q N X).1 = 0) : vOk (pshp q N X).2.2.2 ∧ X.2.2.1 ≤ (pshp q N X).2.2.1 ∧ (pshp q N X).2.2.1 ≤ N ∧ (pshp q N X).2.2.2 5 = X.2.2.2 5 + 1 ∧ ∀ k, k ≠ 5 → (k < 60 ∨ 108 ≤ k) → (pshp q N X).2.2.2 k = X.2.2.2 k := by
  have h5 := hv.1.2.2.2.2.2.1
  obtain ⟨w, hw5⟩ := nat_of h5.1
  rw [pshp_e hw5] at h ⊢
  obtain ⟨Y, hY⟩ : ∃ y, y = pns q N (60 + 8 * w) sL4 X := ⟨_, rfl⟩
  rw [← hY] at h ⊢
  obtain ⟨lo, hlo⟩ : ∃ y, y = Y.2.2.2 (60 + 8 * w + 3) := ⟨_, rfl⟩
  rw [← hlo] at h ⊢
  obtain ⟨Z, hZ⟩ : ∃ y, y = pnX q N lo 25 Y := ⟨_, rfl⟩
  have hp : (pwX q N 5 (pnum q N (60 + 8 * w + 4) lo 25 Y)).1 = 0 := h
  have hz0 : (pnX q N lo 25 Y).1 = 0 := (pwX_0 (q := q) (N := N) (i := 5) (X := pnum q N (60 + 8 * w + 4) lo 25 Y)).symm.trans hp
  have hy0 : Y.1 = 0 := pnX_0 hz0
  have h' : (pns q N (60 + 8 * w) sL4 X).1 = 0 := by rw [← hY]; exact hy0
  obtain ⟨-, a1, a2, a3, a4⟩ := pns_K _ _ X hN h'
  rw [← hY] at a1 a2 a3 a4
  have b0 := a3 0 (by simp)
  have b1 := a3 1 (by simp)
  have b2 := a3 2 (by simp)
  have b3 := a3 3 (by simp)
  simp at b0 b1 b2 b3 a4
  have hm := pnX_v hz0
  have hzh := pnX_h a2 hz0
  have hh := pwX_h (q := q) (i := 5) (X := pnum q N (60 + 8 * w + 4) lo 25 Y) (by omega) hzh.2 hz0
  have hh' : (pnX q N lo 25 Y).2.2.1 ≤ (pwX q N 5 (pnum q N (60 + 8 * w + 4) lo 25 Y)).2.2.1 := hh.1
  obtain ⟨R, hR⟩ : ∃ R, R = (pset 5 ((w : Int) + 1) (pset (60 + 8 * w + 7) (-1) (pset (60 + 8 * w + 6) (-1) (ptk q N (60 + 8 * w + 5) 5 (pnum q N (60 + 8 * w + 4) lo 25 Y))))).2.2.2 := ⟨_, rfl⟩
  have hRk : ∀ k, R k = if k = 5 then (w : Int) + 1 else if k = 60 + 8 * w + 7 then -1 else if k = 60 + 8 * w + 6 then -1 else if k = 60 + 8 * w + 5 then zi (pwT q N 5 (pnum q N (60 + 8 * w + 4) lo 25 Y)) else if k = 60 + 8 * w + 4 then pnV q N Y else Y.2.2.2 k := by
    intro k
    rw [hR]
    show (if k = 5 then _ else (if k = 60 + 8 * w + 7 then _ else (if k = 60 + 8 * w + 6 then _ else (if k = 60 + 8 * w + 5 then _ else (pwX q N 5 _).2.2.2 k)))) = _
    rw [pwX_r]
    show (if k = 5 then _ else (if k = 60 + 8 * w + 7 then _ else (if k = 60 + 8 * w + 6 then _ else (if k = 60 + 8 * w + 5 then _ else (if k = 60 + 8 * w + 4 then _ else (pnX q N lo 25 Y).2.2.2 k))))) = _
    rw [pnX_r]
  rw [← hR]
  have h55 : R 5 = X.2.2.2 5 + 1 := by rw [hRk 5, if_pos rfl, hw5]
  have ho : ∀ k, k ≠ 5 → (k < 60 + 8 * w ∨ 60 + 8 * w + 8 ≤ k) → R k = X.2.2.2 k := fun k hk hk2 => by
    rw [hRk k, if_neg hk, if_neg (by omega), if_neg (by omega), if_neg (by omega), if_neg (by omega)]; exact a4 k (by omega)
  refine ⟨⟨⟨?_, ?_, ?_, ?_, ?_, ?_⟩, fOk_c (fun k hk => ho k (by omega) (by omega)) hv.2⟩, Nat.le_trans a1 (Nat.le_trans (Nat.le_of_lt hzh.1) hh'), hh.2, h55, fun k hk hk2 => ho k hk (by omega)⟩
  · rw [ho 0 (by omega) (by omega)]; exact hv.1.1
  · rw [ho 1 (by omega) (by omega)]; exact hv.1.2.1
  · rw [ho 2 (by omega) (by omega)]; exact hv.1.2.2.1
  · exact wOk_c (ho 3 (by omega) (by omega)) (fun k k1 k2 => ho k (by omega) (by omega)) hv.1.2.2.2.1
  · exact bOk_c (ho 4 (by omega) (by omega)) (fun k k1 k2 => ho k (by omega) (by omega)) hv.1.2.2.2.2.1
  · refine ⟨by rw [h55]; omega, fun u hu => ?_⟩
    rw [h55] at hu
    unfold sh
    by_cases e : u = w
    · subst e
      have r0 : R (60 + 8 * u + 0) = Y.2.2.2 (60 + 8 * u) := by rw [hRk, if_neg (by omega), if_neg (by omega), if_neg (by omega), if_neg (by omega), if_neg (by omega)]; rfl
      have r1 : R (60 + 8 * u + 1) = Y.2.2.2 (60 + 8 * u + 1) := by rw [hRk, if_neg (by omega), if_neg (by omega), if_neg (by omega), if_neg (by omega), if_neg (by omega)]
      have r2 : R (60 + 8 * u + 2) = Y.2.2.2 (60 + 8 * u + 2) := by rw [hRk, if_neg (by omega), if_neg (by omega), if_neg (by omega), if_neg (by omega), if_neg (by omega)]
      have r3 : R (60 + 8 * u + 3) = lo := by rw [hRk, if_neg (by omega), if_neg (by omega), if_neg (by omega), if_neg (by omega), if_neg (by omega), hlo]
      have r4 : R (60 + 8 * u + 4) = pnV q N Y := by rw [hRk, if_neg (by omega), if_neg (by omega), if_neg (by omega), if_neg (by omega), if_pos rfl]
      have r5 : R (60 + 8 * u + 5) = zi (pwT q N 5 (pnum q N (60 + 8 * u + 4) lo 25 Y)) := by rw [hRk, if_neg (by omega), if_neg (by omega), if_neg (by omega), if_pos rfl]
      have r6 : R (60 + 8 * u + 6) = -1 := by rw [hRk, if_neg (by omega), if_neg (by omega), if_pos rfl]
      have r7 : R (60 + 8 * u + 7) = -1 := by rw [hRk, if_neg (by omega), if_pos rfl]
      rw [r0, r1, r2, r3, r4, r5, r6, r7]
      rw [← hlo] at b3
      exact ⟨b0, b1, b2, ⟨b3.1, hm.1, hm.2⟩, zi_01 _, Or.inl ⟨rfl, rfl⟩⟩
    · have := hv.1.2.2.2.2.2.2 u (by omega)
      unfold sh at this
      rw [ho _ (by omega) (by omega), ho _ (by omega) (by omega), ho _ (by omega) (by omega), ho _ (by omega) (by omega), ho _ (by omega) (by omega), ho _ (by omega) (by omega), ho _ (by omega) (by omega), ho _ (by omega) (by omega)]
      exact this
end A
end PT
