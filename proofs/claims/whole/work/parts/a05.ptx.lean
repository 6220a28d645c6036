section PV
section A
variable {q : Nat → Int} {N : Nat} {X : pX}
theorem pst_1 (h : pwT q N 1 X) : pst q N X = if X.2.2.2 3 < 6 then pwav q N (pwX q N 1 X) else (3, skp q N X.2.2.1, X.2.2) := by
  show (if wdP q N (skp q N X.2.2.1) 1 then _ else _) = _
  rw [if_pos h.2, pwX_t h]
theorem pst_2 (h1 : ¬ pwT q N 1 X) (h : pwT q N 2 X) : pst q N X = if X.2.2.2 4 < 6 then pbar q N (pwX q N 2 X) else (3, skp q N X.2.2.1, X.2.2) := by
  show (if wdP q N (skp q N X.2.2.1) 1 then _ else if wdP q N (skp q N X.2.2.1) 2 then _ else _) = _
  rw [if_neg (fun z => h1 ⟨h.1, z⟩), if_pos h.2, pwX_t h]
theorem pst_3 (h1 : ¬ pwT q N 1 X) (h2 : ¬ pwT q N 2 X) (h : pwT q N 4 X) : pst q N X = if X.2.2.2 5 < 6 then pshp q N (pwX q N 4 X) else (3, skp q N X.2.2.1, X.2.2) := by
  show (if wdP q N (skp q N X.2.2.1) 1 then _ else if wdP q N (skp q N X.2.2.1) 2 then _ else if wdP q N (skp q N X.2.2.1) 4 then _ else _) = _
  rw [if_neg (fun z => h1 ⟨h.1, z⟩), if_neg (fun z => h2 ⟨h.1, z⟩), if_pos h.2, pwX_t h]
theorem pst_4 (h1 : ¬ pwT q N 1 X) (h2 : ¬ pwT q N 2 X) (h3 : ¬ pwT q N 4 X) (h0 : X.2.2.2 900 = 0) (h : pwT q N 6 X) : pst q N X = psm q N (pun q N 4) (pset 900 1 (pwX q N 6 X)) := by
  show (if wdP q N (skp q N X.2.2.1) 1 then _ else if wdP q N (skp q N X.2.2.1) 2 then _ else if wdP q N (skp q N X.2.2.1) 4 then _ else if X.2.2.2 900 = 0 ∧ wdP q N (skp q N X.2.2.1) 6 then _ else _) = _
  rw [if_neg (fun z => h1 ⟨h.1, z⟩), if_neg (fun z => h2 ⟨h.1, z⟩), if_neg (fun z => h3 ⟨h.1, z⟩), if_pos ⟨h0, h.2⟩, pwX_t h]
theorem pst_5 (h1 : ¬ pwT q N 1 X) (h2 : ¬ pwT q N 2 X) (h3 : ¬ pwT q N 4 X) (h4 : ¬ (X.2.2.2 900 = 0 ∧ pwT q N 6 X)) (h0 : X.2.2.2 901 = 0) (h : pwT q N 11 X) : pst q N X = pnum q N 1 0 240 (pset 901 1 (pwX q N 11 X)) := by
  show (if wdP q N (skp q N X.2.2.1) 1 then _ else if wdP q N (skp q N X.2.2.1) 2 then _ else if wdP q N (skp q N X.2.2.1) 4 then _ else if X.2.2.2 900 = 0 ∧ wdP q N (skp q N X.2.2.1) 6 then _ else if X.2.2.2 901 = 0 ∧ wdP q N (skp q N X.2.2.1) 11 then _ else _) = _
  rw [if_neg (fun z => h1 ⟨h.1, z⟩), if_neg (fun z => h2 ⟨h.1, z⟩), if_neg (fun z => h3 ⟨h.1, z⟩), if_neg (fun z => h4 ⟨z.1, h.1, z.2⟩), if_pos ⟨h0, h.2⟩, pwX_t h]
theorem pst_6 (h1 : ¬ pwT q N 1 X) (h2 : ¬ pwT q N 2 X) (h3 : ¬ pwT q N 4 X) (h4 : ¬ (X.2.2.2 900 = 0 ∧ pwT q N 6 X)) (h5 : ¬ (X.2.2.2 901 = 0 ∧ pwT q N 11 X)) (h0 : X.2.2.2 902 = 0) (h : pwT q N 12 X) : pst q N X = psrg q N (pset 902 1 (pwX q N 12 X)) := by
  show (if wdP q N (skp q N X.2.2.1) 1 then _ else if wdP q N (skp q N X.2.2.1) 2 then _ else if wdP q N (skp q N X.2.2.1) 4 then _ else if X.2.2.2 900 = 0 ∧ wdP q N (skp q N X.2.2.1) 6 then _ else if X.2.2.2 901 = 0 ∧ wdP q N (skp q N X.2.2.1) 11 then _ else if X.2.2.2 902 = 0 ∧ wdP q N (skp q N X.2.2.1) 12 then _ else _) = _
  rw [if_neg (fun z => h1 ⟨h.1, z⟩), if_neg (fun z => h2 ⟨h.1, z⟩), if_neg (fun z => h3 ⟨h.1, z⟩), if_neg (fun z => h4 ⟨z.1, h.1, z.2⟩), if_neg (fun z => h5 ⟨z.1, h.1, z.2⟩), if_pos ⟨h0, h.2⟩, pwX_t h]
theorem pst_7 (hX : X.1 = 0) (h1 : ¬ pwT q N 1 X) (h2 : ¬ pwT q N 2 X) (h3 : ¬ pwT q N 4 X) (h4 : ¬ (X.2.2.2 900 = 0 ∧ pwT q N 6 X)) (h5 : ¬ (X.2.2.2 901 = 0 ∧ pwT q N 11 X)) (h6 : ¬ (X.2.2.2 902 = 0 ∧ pwT q N 12 X)) : pst q N X = (1, skp q N X.2.2.1, X.2.2) := by
  show (if wdP q N (skp q N X.2.2.1) 1 then _ else if wdP q N (skp q N X.2.2.1) 2 then _ else if wdP q N (skp q N X.2.2.1) 4 then _ else if X.2.2.2 900 = 0 ∧ wdP q N (skp q N X.2.2.1) 6 then _ else if X.2.2.2 901 = 0 ∧ wdP q N (skp q N X.2.2.1) 11 then _ else if X.2.2.2 902 = 0 ∧ wdP q N (skp q N X.2.2.1) 12 then _ else _) = _
  rw [if_neg (fun z => h1 ⟨hX, z⟩), if_neg (fun z => h2 ⟨hX, z⟩), if_neg (fun z => h3 ⟨hX, z⟩), if_neg (fun z => h4 ⟨z.1, hX, z.2⟩), if_neg (fun z => h5 ⟨z.1, hX, z.2⟩), if_neg (fun z => h6 ⟨z.1, hX, z.2⟩)]
/-- two words can't stand at one place -/
theorem wd_1 {h i j : Nat} (k : Nat) (hi : k < wl i) (hj : k < wl j) (hk : wc i k ≠ wc j k) (a : wdP q N h i) (b : wdP q N h j) : False := hk ((a.2.1 k hi).symm.trans (b.2.1 k hj))
theorem wd_6_11 {h : Nat} (a : wdP q N h 6) (b : wdP q N h 11) : False := wd_1 0 (by decide) (by decide) (by decide +kernel) a b
theorem wd_6_12 {h : Nat} (a : wdP q N h 6) (b : wdP q N h 12) : False := wd_1 1 (by decide) (by decide) (by decide +kernel) a b
theorem wd_11_12 {h : Nat} (a : wdP q N h 11) (b : wdP q N h 12) : False := wd_1 0 (by decide) (by decide) (by decide +kernel) a b
theorem vOk0_c {v v' : Nat → Int} (h : ∀ k, k < 108 → v' k = v k) (hv : vOk0 v) : vOk0 v' := by
  refine ⟨by rw [h 0 (by omega)]; exact hv.1, by rw [h 1 (by omega)]; exact hv.2.1, by rw [h 2 (by omega)]; exact hv.2.2.1, wOk_c (h 3 (by omega)) (fun k _ k2 => h k (by omega)) hv.2.2.2.1, bOk_c (h 4 (by omega)) (fun k _ k2 => h k (by omega)) hv.2.2.2.2.1, sOk_c (h 5 (by omega)) (fun k _ k2 => h k (by omega)) hv.2.2.2.2.2⟩
theorem fOk_c2 {v v' : Nat → Int} (h : ∀ k, 108 ≤ k → k < 709 → v' k = v k) (hf : fOk v) : fOk v' := by
  obtain ⟨h1, h2, h3⟩ := hf
  have e : ∀ i : Nat, i < 600 → fi v' i = fi v i := fun i hi => h (109 + i) (by omega) (by omega)
  have e2 : ∀ k : Nat, k ≤ 600 → fd v' k = fd v k := fun k hk => fd_c2 k (fun i hi => e i (by omega))
  rw [show fOk v' = ((0 ≤ v' 108 ∧ v' 108 ≤ 600) ∧ (∀ k : Nat, (k : Int) < v' 108 → (-14 ≤ fi v' k ∧ fi v' k ≤ -11 ∧ 2 ≤ fd v' k) ∨ (-4 ≤ fi v' k ∧ fi v' k ≤ 9999 ∧ fd v' k < 16)) ∧ (0 < v' 108 → 1 ≤ fd v' (v' 108).toNat)) from rfl, h 108 (by omega) (by omega)]
  refine ⟨h1, fun k hk => ?_, fun hk => ?_⟩
  · rw [e k (by omega), e2 k (by omega)]; exact h2 k hk
  · rw [e2 _ (by omega)]; exact h3 hk
/-- one number of the head changed -/
theorem vOk_hd {v v' : Nat → Int} {j : Nat} (hj : j < 3) (h : ∀ k, k ≠ j → k < 709 → v' k = v k) (hz : (j = 0 → 0 ≤ v' 0 ∧ v' 0 ≤ 1000) ∧ (j = 1 → 0 ≤ v' 1 ∧ v' 1 ≤ 240) ∧ (j = 2 → -300 ≤ v' 2 ∧ v' 2 ≤ 300)) (hv : vOk v) : vOk v' := by
  refine ⟨⟨?_, ?_, ?_, wOk_c (h 3 (by omega) (by omega)) (fun k _ k2 => h k (by omega) (by omega)) hv.1.2.2.2.1, bOk_c (h 4 (by omega) (by omega)) (fun k _ k2 => h k (by omega) (by omega)) hv.1.2.2.2.2.1, sOk_c (h 5 (by omega) (by omega)) (fun k _ k2 => h k (by omega) (by omega)) hv.1.2.2.2.2.2⟩, fOk_c2 (fun k _ k2 => h k (by omega) k2) hv.2⟩
  · by_cases e : j = 0
    · exact hz.1 e
    · rw [h 0 (by omega) (by omega)]; exact hv.1.1
  · by_cases e : j = 1
    · exact hz.2.1 e
    · rw [h 1 (by omega) (by omega)]; exact hv.1.2.1
  · by_cases e : j = 2
    · exact hz.2.2 e
    · rw [h 2 (by omega) (by omega)]; exact hv.1.2.2.1
theorem pwX_p {i : Nat} (hi : i < 13) (hN : X.2.2.1 ≤ N) (h : pwT q N i X) : X.2.2.1 < (pwX q N i X).2.2.1 ∧ (pwX q N i X).2.2.1 ≤ N := by
  have hs := skp_b (q := q) hN
  have := (wl_b i hi).1
  rw [pwX_t h]
  exact ⟨by show X.2.2.1 < skp q N X.2.2.1 + wl i; omega, h.2.1⟩
theorem pst_K (hX : X.1 = 0) (hN : X.2.2.1 ≤ N) (hN6 : N ≤ 600) (hK : pK X.2.2.2) (h : (pst q N X).1 = 0) : pK (pst q N X).2.2.2 ∧ X.2.2.1 < (pst q N X).2.2.1 ∧ (pst q N X).2.2.1 ≤ N := by
  obtain ⟨hv, k0, k1, k2, k3, k4⟩ := hK
  have hs := skp_b (q := q) hN
  by_cases c1 : pwT q N 1 X
  · rw [pst_1 c1] at h ⊢
    have hp := pwX_p (by omega) hN c1
    by_cases c : X.2.2.2 3 < 6
    · rw [if_pos c] at h ⊢
      have hr : (pwX q N 1 X).2.2.2 = X.2.2.2 := pwX_r
      obtain ⟨a1, a2, a3, a4, a5⟩ := pwav_K hp.2 (by rw [hr]; exact hv) (by rw [hr]; exact c) h
      rw [hr] at a5
      refine ⟨⟨a1, ?_, ?_, ?_, ?_, ?_⟩, by omega, a3⟩
      · rw [a5 900 (by omega) (by omega)]; exact k0
      · rw [a5 901 (by omega) (by omega)]; exact k1
      · rw [a5 902 (by omega) (by omega)]; exact k2
      · rw [a5 900 (by omega) (by omega), a5 108 (by omega) (by omega)]; exact k3
      · rw [a5 900 (by omega) (by omega), a5 108 (by omega) (by omega)]; exact k4
    · rw [if_neg c] at h; exact absurd h (by show (3 : Nat) ≠ 0; omega)
  · by_cases c2 : pwT q N 2 X
    · rw [pst_2 c1 c2] at h ⊢
      have hp := pwX_p (by omega) hN c2
      by_cases c : X.2.2.2 4 < 6
      · rw [if_pos c] at h ⊢
        have hr : (pwX q N 2 X).2.2.2 = X.2.2.2 := pwX_r
        obtain ⟨a1, a2, a3, a4, a5⟩ := pbar_K hp.2 (by rw [hr]; exact hv) (by rw [hr]; exact c) h
        rw [hr] at a5
        refine ⟨⟨a1, ?_, ?_, ?_, ?_, ?_⟩, by omega, a3⟩
        · rw [a5 900 (by omega) (by omega)]; exact k0
        · rw [a5 901 (by omega) (by omega)]; exact k1
        · rw [a5 902 (by omega) (by omega)]; exact k2
        · rw [a5 900 (by omega) (by omega), a5 108 (by omega) (by omega)]; exact k3
        · rw [a5 900 (by omega) (by omega), a5 108 (by omega) (by omega)]; exact k4
      · rw [if_neg c] at h; exact absurd h (by show (3 : Nat) ≠ 0; omega)
    · by_cases c3 : pwT q N 4 X
      · rw [pst_3 c1 c2 c3] at h ⊢
        have hp := pwX_p (by omega) hN c3
        by_cases c : X.2.2.2 5 < 6
        · rw [if_pos c] at h ⊢
          have hr : (pwX q N 4 X).2.2.2 = X.2.2.2 := pwX_r
          obtain ⟨a1, a2, a3, a4, a5⟩ := pshp_K hp.2 (by rw [hr]; exact hv) (by rw [hr]; exact c) h
          rw [hr] at a5
          refine ⟨⟨a1, ?_, ?_, ?_, ?_, ?_⟩, by omega, a3⟩
          · rw [a5 900 (by omega) (by omega)]; exact k0
          · rw [a5 901 (by omega) (by omega)]; exact k1
          · rw [a5 902 (by omega) (by omega)]; exact k2
          · rw [a5 900 (by omega) (by omega), a5 108 (by omega) (by omega)]; exact k3
          · rw [a5 900 (by omega) (by omega), a5 108 (by omega) (by omega)]; exact k4
        · rw [if_neg c] at h; exact absurd h (by show (3 : Nat) ≠ 0; omega)
      · by_cases c4 : X.2.2.2 900 = 0 ∧ pwT q N 6 X
        · rw [pst_4 c1 c2 c3 c4.1 c4.2] at h ⊢
          have hp := pwX_p (by omega) hN c4.2
          have hr : ∀ k, (pset 900 1 (pwX q N 6 X)).2.2.2 k = if k = 900 then 1 else X.2.2.2 k := fun k => by show (if k = 900 then 1 else (pwX q N 6 X).2.2.2 k) = _; rw [pwX_r]
          obtain ⟨-, a1, a2, n, n', e1, e2, e3, e4, e5, e6, e7⟩ := psm4_q (q := q) (N := N) (X := pset 900 1 (pwX q N 6 X)) (by show (pwX q N 6 X).1 = 0; rw [pwX_0]; exact hX) hp.2 (by rw [hr, if_neg (by omega)]; exact k3 c4.1) h
          have e1' : n = 0 := by rw [hr, if_neg (by omega), k3 c4.1] at e1; omega
          subst e1'
          have a1' : (pwX q N 6 X).2.2.1 ≤ (psm q N (pun q N 4) (pset 900 1 (pwX q N 6 X))).2.2.1 := a1
          have e4' : n' + (pwX q N 6 X).2.2.1 + 0 ≤ 0 + (psm q N (pun q N 4) (pset 900 1 (pwX q N 6 X))).2.2.1 := e4
          have hn6 : n' ≤ 600 := by omega
          have hn0 : n' ≠ 0 := fun z => by
            rw [z] at e6
            exact absurd e6 (by show (0 : Nat) ≠ 0 + 1; omega)
          have ho : ∀ k, k < 108 ∨ (k ≠ 900 ∧ 709 ≤ k) → (psm q N (pun q N 4) (pset 900 1 (pwX q N 6 X))).2.2.2 k = X.2.2.2 k := fun k hk => by
            rw [e5 k (by omega) (by omega), hr, if_neg (by omega)]
          have h9 : (psm q N (pun q N 4) (pset 900 1 (pwX q N 6 X))).2.2.2 900 = 1 := by rw [e5 900 (by omega) (by omega), hr, if_pos rfl]
          refine ⟨⟨⟨vOk0_c (fun k hk => ho k (Or.inl hk)) hv.1, ⟨by rw [e2]; omega, fun k hk => e7 k (Nat.zero_le _) (by rw [e2] at hk; omega), fun _ => by rw [e2, Int.toNat_natCast, e6]; omega⟩⟩, Or.inr h9, ?_, ?_, fun z => by omega, fun _ => by rw [e2]; omega⟩, by omega, a2⟩
          · rw [ho 901 (by omega)]; exact k1
          · rw [ho 902 (by omega)]; exact k2
        · by_cases c5 : X.2.2.2 901 = 0 ∧ pwT q N 11 X
          · rw [pst_5 c1 c2 c3 c4 c5.1 c5.2] at h ⊢
            have hp := pwX_p (by omega) hN c5.2
            obtain ⟨Z, hZ⟩ : ∃ Z, Z = pset 901 1 (pwX q N 11 X) := ⟨_, rfl⟩
            have hZN : Z.2.2.1 ≤ N := by rw [hZ]; exact hp.2
            have hZh : X.2.2.1 < Z.2.2.1 := by rw [hZ]; exact hp.1
            have hZr : ∀ k, Z.2.2.2 k = if k = 901 then 1 else X.2.2.2 k := fun k => by rw [hZ]; show (if k = 901 then 1 else (pwX q N 11 X).2.2.2 k) = _; rw [pwX_r]
            rw [← hZ] at h ⊢
            have h' : (pnX q N 0 240 Z).1 = 0 := h
            have hh := pnX_h hZN h'
            have hw := pnX_v h'
            have hr : ∀ k, (pnum q N 1 0 240 Z).2.2.2 k = if k = 1 then pnV q N Z else if k = 901 then 1 else X.2.2.2 k := fun k => by
              show (if k = 1 then _ else (pnX q N 0 240 Z).2.2.2 k) = _
              rw [pnX_r, hZr]
            refine ⟨⟨vOk_hd (j := 1) (by omega) (fun k hk hk2 => by rw [hr, if_neg hk, if_neg (by omega)]) ⟨fun z => by omega, fun _ => by rw [hr, if_pos rfl]; exact hw, fun z => by omega⟩ hv, ?_, ?_, ?_, ?_, ?_⟩, Nat.lt_trans hZh hh.1, hh.2⟩
            · rw [hr, if_neg (by omega), if_neg (by omega)]; exact k0
            · rw [hr, if_neg (by omega), if_pos rfl]; exact Or.inr rfl
            · rw [hr, if_neg (by omega), if_neg (by omega)]; exact k2
            · rw [hr 900, hr 108, if_neg (by omega), if_neg (by omega), if_neg (by omega), if_neg (by omega)]; exact k3
            · rw [hr 900, hr 108, if_neg (by omega), if_neg (by omega), if_neg (by omega), if_neg (by omega)]; exact k4
          · by_cases c6 : X.2.2.2 902 = 0 ∧ pwT q N 12 X
            · rw [pst_6 c1 c2 c3 c4 c5 c6.1 c6.2] at h ⊢
              have hp := pwX_p (by omega) hN c6.2
              obtain ⟨Z, hZ⟩ : ∃ Z, Z = pset 902 1 (pwX q N 12 X) := ⟨_, rfl⟩
              have hZ0 : Z.1 = 0 := by rw [hZ]; exact pwX_0.trans hX
              have hZN : Z.2.2.1 ≤ N := by rw [hZ]; exact hp.2
              have hZh : X.2.2.1 < Z.2.2.1 := by rw [hZ]; exact hp.1
              have hZr : ∀ k, Z.2.2.2 k = if k = 902 then 1 else X.2.2.2 k := fun k => by rw [hZ]; show (if k = 902 then 1 else (pwX q N 12 X).2.2.2 k) = _; rw [pwX_r]
              rw [← hZ] at h ⊢
              have h' : (pnX q N 0 300 (psX q N 45 Z)).1 = 0 := h
              have hsh : Z.2.2.1 ≤ (psX q N 45 Z).2.2.1 ∧ (psX q N 45 Z).2.2.1 ≤ N := by
                have hsz := skp_b (q := q) hZN
                by_cases d : psT q N 45 Z
                · rw [psX_t d]; exact ⟨by show Z.2.2.1 ≤ skp q N Z.2.2.1 + 1; omega, by have := d.2.1; show skp q N Z.2.2.1 + 1 ≤ N; omega⟩
                · rw [psX_f d, pskip_0 hZ0]; exact ⟨hsz.1, hsz.2.1⟩
              have hh := pnX_h hsh.2 h'
              have hw := pnX_v h'
              have hr : ∀ k, (psrg q N Z).2.2.2 k = if k = 2 then (1 - 2 * zi (psT q N 45 Z)) * pnV q N (psX q N 45 Z) else if k = 902 then 1 else X.2.2.2 k := fun k => by
                show (if k = 2 then _ else (pnX q N 0 300 (psX q N 45 Z)).2.2.2 k) = _
                rw [pnX_r, psX_r, hZr]
              refine ⟨⟨vOk_hd (j := 2) (by omega) (fun k hk hk2 => by rw [hr, if_neg hk, if_neg (by omega)]) ⟨fun z => by omega, fun z => by omega, fun _ => ?_⟩ hv, ?_, ?_, ?_, ?_, ?_⟩, Nat.lt_of_lt_of_le hZh (Nat.le_trans hsh.1 (Nat.le_of_lt hh.1)), hh.2⟩
              · rw [hr, if_pos rfl]
                rcases zi_01 (psT q N 45 Z) with z | z
                · rw [z]; omega
                · rw [z]; omega
              · rw [hr, if_neg (by omega), if_neg (by omega)]; exact k0
              · rw [hr, if_neg (by omega), if_neg (by omega)]; exact k1
              · rw [hr, if_neg (by omega), if_pos rfl]; exact Or.inr rfl
              · rw [hr 900, hr 108, if_neg (by omega), if_neg (by omega), if_neg (by omega), if_neg (by omega)]; exact k3
              · rw [hr 900, hr 108, if_neg (by omega), if_neg (by omega), if_neg (by omega), if_neg (by omega)]; exact k4
            · rw [pst_7 hX c1 c2 c3 c4 c5 c6] at h
              exact absurd h (by show (1 : Nat) ≠ 0; omega)
theorem pnd_h {c : Int} (hN : X.2.2.1 ≤ N) (h : (pnd q N c X).1 = 0) : X.2.2.1 < (pnd q N c X).2.2.1 ∧ (pnd q N c X).2.2.1 ≤ N := by
  have := pnd_c (q := q) (c := c) (Or.inl hN) h
  rw [pnd_r] at this
  omega
theorem pline_K (hX : X.1 = 0) (hN : X.2.2.1 ≤ N) (hN6 : N ≤ 600) (hK : pK X.2.2.2) (h : (pnd q N 59 (pst q N X)).1 = 0) : pK (pnd q N 59 (pst q N X)).2.2.2 ∧ X.2.2.1 < (pnd q N 59 (pst q N X)).2.2.1 ∧ (pnd q N 59 (pst q N X)).2.2.1 ≤ N := by
  have h1 := pst_K (q := q) hX hN hN6 hK (pnd_0 h)
  have h2 := pnd_h h1.2.2 h
  rw [pnd_r]
  exact ⟨h1.1, by omega, h2.2⟩
theorem pln_K (hN6 : N ≤ 600) : ∀ (n : Nat) (X : pX), (X.1 = 0 → X.2.2.1 ≤ N ∧ pK X.2.2.2) → (pln q N n X).1 = 0 → pK (pln q N n X).2.2.2 := by
  intro n
  induction n with
  | zero => intro X hX h; exact (hX h).2
  | succ n ih =>
    intro X hX h
    unfold pln at h ⊢
    by_cases h0 : X.1 = 0
    · rw [if_pos h0] at h ⊢
      by_cases d : skp q N X.2.2.1 < N
      · rw [if_pos d] at h ⊢
        have hs := skp_b (q := q) (hX h0).1
        have k := fun z => pline_K (q := q) (N := N) (X := pskip q N X) (pskip_1.trans h0) (by rw [pskip_0 h0]; exact hs.2.1) hN6 (by rw [pskip_r]; exact (hX h0).2) z
        exact ih _ (fun z => ⟨(k z).2.2, (k z).1⟩) h
      · rw [if_neg d] at h ⊢
        exact (hX h0).2
    · rw [if_neg h0] at h
      exact absurd h h0
theorem pr0_ok : vOk pr0 := by
  refine ⟨⟨by decide, by decide, by decide, ⟨by decide, fun w hw => ?_⟩, ⟨by decide, fun w hw => ?_⟩, ⟨by decide, fun w hw => ?_⟩⟩, ⟨by decide, fun k hk => ?_, fun h => ?_⟩⟩
  · have : (w : Int) < 0 := hw
    omega
  · have : (w : Int) < 0 := hw
    omega
  · have : (w : Int) < 0 := hw
    omega
  · have : (k : Int) < 0 := hk
    omega
  · exact absurd h (by decide)
/-- where the first statement begins -/
noncomputable def pm0 (q : Nat → Int) (N : Nat) : pX := if wdP q N (skp q N 0) 0 then (0, 0, skp q N 0 + wl 0, pr0) else (1, skp q N 0, skp q N 0, pr0)
theorem pmn_e : pmn q N = pnd q N 59 (pnum q N 0 0 1000 (pm0 q N)) := rfl
theorem pmn_K (h : (pmn q N).1 = 0) : (pmn q N).2.2.1 ≤ N ∧ 4 ≤ (pmn q N).2.2.1 ∧ pK (pmn q N).2.2.2 := by
  rw [pmn_e] at h ⊢
  have h1 : (pnX q N 0 1000 (pm0 q N)).1 = 0 := pnd_0 (X := pnum q N 0 0 1000 (pm0 q N)) h
  have h2 := pnX_0 h1
  have hs := skp_b (q := q) (N := N) (h := 0) (Nat.zero_le _)
  by_cases c : wdP q N (skp q N 0) 0
  · have e : pm0 q N = (0, 0, skp q N 0 + wl 0, pr0) := if_pos c
    rw [e] at h h1 ⊢
    have hc := c.1
    have h3 := pnX_h (q := q) (N := N) (lo := 0) (hi := 1000) (X := (0, 0, skp q N 0 + wl 0, pr0)) c.1 h1
    have h3' : skp q N 0 + wl 0 < (pnX q N 0 1000 (0, 0, skp q N 0 + wl 0, pr0)).2.2.1 := h3.1
    have h4 := pnd_h (X := pnum q N 0 0 1000 (0, 0, skp q N 0 + wl 0, pr0)) h3.2 h
    have h4' : (pnX q N 0 1000 (0, 0, skp q N 0 + wl 0, pr0)).2.2.1 < (pnd q N 59 (pnum q N 0 0 1000 (0, 0, skp q N 0 + wl 0, pr0))).2.2.1 := h4.1
    have hw := pnX_v h1
    have hwl := (wl_b 0 (by omega)).1
    have hr : ∀ k, (pnum q N 0 0 1000 (0, 0, skp q N 0 + wl 0, pr0)).2.2.2 k = if k = 0 then pnV q N (0, 0, skp q N 0 + wl 0, pr0) else pr0 k := fun k => by
      show (if k = 0 then _ else (pnX q N 0 1000 (0, 0, skp q N 0 + wl 0, pr0)).2.2.2 k) = _
      rw [pnX_r]
    rw [pnd_r]
    refine ⟨h4.2, by omega, ⟨vOk_hd (j := 0) (by omega) (fun k hk hk2 => by rw [hr, if_neg hk]) ⟨fun _ => by rw [hr, if_pos rfl]; exact hw, fun z => by omega, fun z => by omega⟩ pr0_ok, ?_, ?_, ?_, ?_, ?_⟩⟩
    · rw [hr, if_neg (by omega)]; exact Or.inl rfl
    · rw [hr, if_neg (by omega)]; exact Or.inl rfl
    · rw [hr, if_neg (by omega)]; exact Or.inl rfl
    · rw [hr 900, hr 108, if_neg (by omega), if_neg (by omega)]; exact fun _ => rfl
    · rw [hr 900, hr 108, if_neg (by omega), if_neg (by omega)]; exact fun z => absurd z (by decide)
  · have e : pm0 q N = (1, skp q N 0, skp q N 0, pr0) := if_neg c
    rw [e] at h2
    exact absurd h2 (by show (1 : Nat) ≠ 0; omega)
theorem ptx_K (hN6 : N ≤ 600) (h : (ptx q N).1 = 0) : pK (ptx q N).2.2.2 := pln_K hN6 600 _ (fun z => ⟨(pmn_K z).1, (pmn_K z).2.2⟩) h
end A
end PV
