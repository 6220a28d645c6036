section PC
/-! ===== what the reading of a formula does to the place and to the number of items ===== -/
section A
variable {q : Nat → Int} {N : Nat}
def cP (N cr : Nat) (X X' : pX) : Prop := X'.1 = 0 → X.1 = 0 ∧ X.2.2.1 ≤ X'.2.2.1 ∧ X'.2.2.1 ≤ N ∧ X.2.2.2 108 ≤ X'.2.2.2 108 ∧ X'.2.2.2 108 + X.2.2.1 + cr ≤ X.2.2.2 108 + X'.2.2.1
theorem pset_ne {i k : Nat} {z : Int} {X : pX} (h : k ≠ i) : (pset i z X).2.2.2 k = X.2.2.2 k := if_neg h
theorem pset_eq {i : Nat} {z : Int} {X : pX} : (pset i z X).2.2.2 i = z := if_pos rfl
theorem pcd_8 {c : Int} {X : pX} : (pcd c X).2.2.2 108 = X.2.2.2 108 + 1 := pset_eq
theorem cP.rf {X : pX} (h : X.2.2.1 ≤ N) : cP N 0 X X := fun z => ⟨z, Nat.le_refl _, h, Int.le_refl _, by omega⟩
theorem cP.tr {a b : Nat} {X Y Z : pX} (h1 : cP N a X Y) (h2 : cP N b Y Z) : cP N (a + b) X Z := fun z => by
  obtain ⟨y, p1, p2, p3, p4⟩ := h2 z
  obtain ⟨x, q1, q2, q3, q4⟩ := h1 y
  exact ⟨x, by omega, p2, by omega, by omega⟩
theorem cP.wk {a b : Nat} {X Y : pX} (h : cP N a X Y) (hb : b ≤ a) : cP N b X Y := fun z => by
  obtain ⟨x, p1, p2, p3, p4⟩ := h z
  exact ⟨x, p1, p2, p3, by omega⟩
theorem cP.at {h c : Nat} {X : pX} (h0 : X.1 = 0) (h1 : X.2.2.1 + c ≤ h) (h2 : h ≤ N) : cP N c X (pat h X) := fun _ => ⟨h0, by show X.2.2.1 ≤ h; omega, h2, Int.le_refl _, by show X.2.2.2 108 + _ + _ ≤ _ + ((h : Nat) : Int); omega⟩
theorem cP.cd {a : Nat} {c : Int} {X Y : pX} (h : cP N (a + 1) X Y) : cP N a X (pcd c Y) := fun z => by
  obtain ⟨x, p1, p2, p3, p4⟩ := h z
  refine ⟨x, p1, p2, ?_, ?_⟩
  · rw [pcd_8]; omega
  · rw [pcd_8]; show Y.2.2.2 108 + 1 + _ + _ ≤ _ + (Y.2.2.1 : Int); omega
theorem cP.no {a : Nat} {X Y : pX} (h : Y.1 ≠ 0) : cP N a X Y := fun z => absurd z h
theorem pnX_c {lo hi : Int} {X : pX} (h0 : X.1 = 0) (hN : X.2.2.1 ≤ N) : cP N 1 X (pnX q N lo hi X) := by
  have hs := skp_b (q := q) hN
  by_cases c : skp q N X.2.2.1 < N ∧ isd (q (skp q N X.2.2.1))
  · by_cases d : lo ≤ pnV q N X ∧ pnV q N X ≤ hi
    · rw [pnX_3 h0 c d]
      have := dgs_1 (q := q) (N := N) (a := 0) c.1 c.2 (by omega)
      have hb := dgs_b (q := q) (N := N) (a := 0) hs.2.1 (by omega)
      exact cP.at h0 (by omega) hb.2.1
    · rw [pnX_2 h0 c d]
      exact cP.no (by show (2 : Nat) ≠ 0; omega)
  · rw [pnX_1 h0 c]
    exact cP.no (by show (1 : Nat) ≠ 0; omega)
theorem pu0_c {X : pX} (h0 : X.1 = 0) (hN : X.2.2.1 ≤ N) : cP N 0 X (pu0 q N X) := by
  have hs := skp_b (q := q) hN
  unfold pu0
  split
  · rename_i h; have := (wl_b 7 (by omega)).1; exact cP.cd (cP.at h0 (by omega) h.1)
  · split
    · rename_i h; have := (wl_b 8 (by omega)).1; exact cP.cd (cP.at h0 (by omega) h.1)
    · split
      · rename_i h; have := (wl_b 9 (by omega)).1; exact cP.cd (cP.at h0 (by omega) h.1)
      · split
        · rename_i h; have := (wl_b 10 (by omega)).1; exact cP.cd (cP.at h0 (by omega) h.1)
        · exact cP.cd (pnX_c h0 hN)
theorem plp_c {c1 c2 k1 k2 : Int} {S : pX → pX} (hS : ∀ X, X.1 = 0 → X.2.2.1 ≤ N → cP N 0 X (S X)) : ∀ (n : Nat) (X : pX), X.2.2.1 ≤ N ∨ X.1 ≠ 0 → cP N 0 X (plp q N c1 c2 k1 k2 S n X) := by
  intro n
  induction n with
  | zero =>
    intro X hN z
    rcases hN with hN | hN
    · exact cP.rf hN z
    · exact absurd z hN
  | succ n ih =>
    intro X hN
    unfold plp
    by_cases h0 : X.1 = 0
    · rw [if_pos h0]
      have hN := hN.resolve_right (fun z => z h0)
      have hs := skp_b (q := q) hN
      have key : ∀ k : Int, skp q N X.2.2.1 < N → cP N 0 X (plp q N c1 c2 k1 k2 S n (pcd k (S (pat (skp q N X.2.2.1 + 1) X)))) := by
        intro k hk
        have h1 : cP N 1 X (pat (skp q N X.2.2.1 + 1) X) := cP.at h0 (by omega) (by omega)
        have h2 := h1.tr (hS (pat (skp q N X.2.2.1 + 1) X) h0 (by show skp q N X.2.2.1 + 1 ≤ N; omega))
        have h3 : cP N 0 X (pcd k (S (pat (skp q N X.2.2.1 + 1) X))) := cP.cd (h2.wk (by omega))
        refine (h3.tr (ih _ ?_)).wk (by omega)
        by_cases hz : (pcd k (S (pat (skp q N X.2.2.1 + 1) X))).1 = 0
        · exact Or.inl (h3 hz).2.2.1
        · exact Or.inr hz
      by_cases c : sgP q N (skp q N X.2.2.1) c1
      · rw [if_pos c]; exact key k1 c.1
      · rw [if_neg c]
        by_cases d : sgP q N (skp q N X.2.2.1) c2
        · rw [if_pos d]; exact key k2 d.1
        · rw [if_neg d]; exact cP.at h0 (by omega) hs.2.1
    · rw [if_neg h0]
      exact cP.no h0
theorem cP.inN {a : Nat} {X Y : pX} (h : cP N a X Y) : Y.2.2.1 ≤ N ∨ Y.1 ≠ 0 := by
  by_cases z : Y.1 = 0
  · exact Or.inl (h z).2.2.1
  · exact Or.inr z
theorem ppr_c {U : pX → pX} (hU : ∀ X, X.1 = 0 → X.2.2.1 ≤ N → cP N 0 X (U X)) {X : pX} (h0 : X.1 = 0) (hN : X.2.2.1 ≤ N) : cP N 0 X (ppr q N U X) := (hU X h0 hN).tr (plp_c hU 600 _ (hU X h0 hN).inN)
theorem psm_c {U : pX → pX} (hU : ∀ X, X.1 = 0 → X.2.2.1 ≤ N → cP N 0 X (U X)) {X : pX} (h0 : X.1 = 0) (hN : X.2.2.1 ≤ N) : cP N 0 X (psm q N U X) := (ppr_c hU h0 hN).tr (plp_c (fun _ a b => ppr_c hU a b) 600 _ (ppr_c hU h0 hN).inN)
theorem pnd_c {c : Int} {X : pX} (hN : X.2.2.1 ≤ N ∨ X.1 ≠ 0) : cP N 1 X (pnd q N c X) := by
  unfold pnd
  by_cases h0 : X.1 = 0
  · have hN := hN.resolve_right (fun z => z h0)
    have hs := skp_b (q := q) hN
    rw [if_pos h0]
    by_cases d : sgP q N (skp q N X.2.2.1) c
    · rw [if_pos d]; exact cP.at h0 (by omega) (by have := d.1; omega)
    · rw [if_neg d]; exact cP.no (by show (1 : Nat) ≠ 0; omega)
  · rw [if_neg h0]; exact cP.no h0
theorem pun_c : ∀ (k : Nat) (X : pX), X.1 = 0 → X.2.2.1 ≤ N → cP N 0 X (pun q N k X) := by
  intro k
  induction k with
  | zero =>
    intro X h0 hN
    unfold pun
    split
    · exact cP.no (by show (4 : Nat) ≠ 0; omega)
    · exact pu0_c h0 hN
  | succ k ih =>
    intro X h0 hN
    have hs := skp_b (q := q) hN
    unfold pun
    split
    · rename_i c
      have h1 : cP N 1 X (pat (skp q N X.2.2.1 + 1) X) := cP.at h0 (by omega) (by have := c.1; omega)
      have h2 := psm_c (q := q) ih (X := pat (skp q N X.2.2.1 + 1) X) h0 (by show skp q N X.2.2.1 + 1 ≤ N; have := c.1; omega)
      exact ((h1.tr h2).tr (pnd_c h2.inN)).wk (by omega)
    · exact pu0_c h0 hN
end A
end PC
