section PQ
/-! ===== a formula that is read is one that can be worked ===== -/
def cdO (v : Nat → Int) (k : Nat) : Prop := (-14 ≤ fi v k ∧ fi v k ≤ -11 ∧ 2 ≤ fd v k) ∨ (-4 ≤ fi v k ∧ fi v k ≤ 9999 ∧ fd v k < 16)
def qP (N e cr : Nat) (X X' : pX) : Prop := X'.1 = 0 → X.1 = 0 ∧ X.2.2.1 ≤ X'.2.2.1 ∧ X'.2.2.1 ≤ N ∧ ∃ n n' : Nat, X.2.2.2 108 = (n : Int) ∧ X'.2.2.2 108 = (n' : Int) ∧ n ≤ n' ∧ n' + X.2.2.1 + cr ≤ n + X'.2.2.1 ∧ (∀ k, k ≠ 108 → (k < 109 + n ∨ 109 + n' ≤ k) → X'.2.2.2 k = X.2.2.2 k) ∧ fd X'.2.2.2 n' = fd X.2.2.2 n + e ∧ ∀ k, n ≤ k → k < n' → cdO X'.2.2.2 k
theorem fd_c2 {v v' : Nat → Int} : ∀ k : Nat, (∀ i, i < k → fi v' i = fi v i) → fd v' k = fd v k := by
  intro k
  induction k with
  | zero => intro _; rfl
  | succ k ih =>
    intro h
    show (if fi v' k ≤ -11 then fd v' k - 1 else fd v' k + 1) = (if fi v k ≤ -11 then fd v k - 1 else fd v k + 1)
    rw [h k (by omega), ih (fun i hi => h i (by omega))]
theorem cdO_c {v v' : Nat → Int} {k : Nat} (h : ∀ i, i ≤ k → fi v' i = fi v i) (hc : cdO v k) : cdO v' k := by
  unfold cdO at *
  rw [h k (Nat.le_refl _), fd_c2 k (fun i hi => h i (by omega))]
  exact hc
section A
variable {q : Nat → Int} {N : Nat}
theorem qP.at {h c n : Nat} {X : pX} (h0 : X.1 = 0) (hn : X.2.2.2 108 = (n : Int)) (h1 : X.2.2.1 + c ≤ h) (h2 : h ≤ N) : qP N 0 c X (pat h X) := fun _ => ⟨h0, by show X.2.2.1 ≤ h; omega, h2, n, n, hn, hn, Nat.le_refl _, by show n + X.2.2.1 + c ≤ n + h; omega, fun _ _ _ => rfl, rfl, fun k h3 h4 => by omega⟩
theorem qP.tr {e e' a b : Nat} {X Y Z : pX} (h1 : qP N e a X Y) (h2 : qP N e' b Y Z) : qP N (e + e') (a + b) X Z := fun z => by
  obtain ⟨y, p1, p2, n', n'', p3, p4, p5, p6, p7, p8, p9⟩ := h2 z
  obtain ⟨x, q1, q2, n, n1, q3, q4, q5, q6, q7, q8, q9⟩ := h1 y
  have e1 : n1 = n' := by omega
  subst e1
  refine ⟨x, by omega, p2, n, n'', q3, p4, by omega, by omega, fun k hk hk2 => ?_, by rw [p8, q8]; omega, fun k k1 k2 => ?_⟩
  · rw [p7 k hk (by omega), q7 k hk (by omega)]
  · by_cases c : k < n1
    · exact cdO_c (fun i hi => p7 (109 + i) (by omega) (by omega)) (q9 k k1 c)
    · exact p9 k (by omega) k2
theorem qP.wk {e a b : Nat} {X Y : pX} (h : qP N e a X Y) (hb : b ≤ a) : qP N e b X Y := fun z => by
  obtain ⟨x, q1, q2, n, n1, q3, q4, q5, q6, q7, q8, q9⟩ := h z
  exact ⟨x, q1, q2, n, n1, q3, q4, q5, by omega, q7, q8, q9⟩
theorem qP.no {e a : Nat} {X Y : pX} (h : Y.1 ≠ 0) : qP N e a X Y := fun z => absurd z h
theorem pcd_f {c : Int} {Y : pX} {n : Nat} (hn : Y.2.2.2 108 = (n : Int)) : fi (pcd c Y).2.2.2 n = c ∧ ∀ i, i < n → fi (pcd c Y).2.2.2 i = fi Y.2.2.2 i := by
  constructor
  · exact pcd_i (by rw [hn]; rfl)
  · intro i hi
    exact pcd_o (by omega) (by rw [hn, Int.toNat_natCast]; omega)
theorem qP.cd {e e' a : Nat} {c : Int} {X Y : pX} (h : qP N e (a + 1) X Y) (hc : ∀ n : Nat, Y.1 = 0 → X.2.2.2 108 = (n : Int) → (-14 ≤ c ∧ c ≤ -11 ∧ 2 ≤ fd X.2.2.2 n + e ∧ e' + 1 = e) ∨ (-4 ≤ c ∧ c ≤ 9999 ∧ fd X.2.2.2 n + e < 16 ∧ e' = e + 1)) : qP N e' a X (pcd c Y) := fun z => by
  obtain ⟨x, q1, q2, n, n1, q3, q4, q5, q6, q7, q8, q9⟩ := h z
  have hf := pcd_f (c := c) q4
  have hd : fd (pcd c Y).2.2.2 n1 = fd Y.2.2.2 n1 := fd_c2 n1 hf.2
  refine ⟨x, q1, q2, n, n1 + 1, q3, by rw [pcd_8, q4]; omega, by omega, by show n1 + 1 + X.2.2.1 + a ≤ n + Y.2.2.1; omega, fun k hk hk2 => ?_, ?_, fun k k1 k2 => ?_⟩
  · rw [pcd_o hk (by rw [q4, Int.toNat_natCast]; omega)]
    exact q7 k hk (by omega)
  · show (if fi (pcd c Y).2.2.2 n1 ≤ -11 then fd (pcd c Y).2.2.2 n1 - 1 else fd (pcd c Y).2.2.2 n1 + 1) = _
    rw [hf.1, hd, q8]
    rcases hc n z q3 with ⟨a1, a2, a3, a4⟩ | ⟨a1, a2, a3, a4⟩
    · rw [if_pos a2]; omega
    · rw [if_neg (by omega)]; omega
  · by_cases c9 : k < n1
    · exact cdO_c (fun i hi => hf.2 i (by omega)) (q9 k k1 c9)
    · have : k = n1 := by omega
      subst this
      unfold cdO
      rw [hf.1, hd, q8]
      rcases hc n z q3 with ⟨a1, a2, a3, a4⟩ | ⟨a1, a2, a3, a4⟩
      · exact Or.inl ⟨a1, a2, a3⟩
      · exact Or.inr ⟨a1, a2, a3⟩
/-- a state from which a unit may be read: so deep a stack at most -/
def uS (N B : Nat) (X : pX) : Prop := X.1 = 0 ∧ X.2.2.1 ≤ N ∧ ∃ n : Nat, X.2.2.2 108 = (n : Int) ∧ fd X.2.2.2 n ≤ B
theorem qP.uS {e a B C : Nat} {X Y : pX} (h : qP N e a X Y) (hX : uS N B X) (h0 : Y.1 = 0) (hB : B + e ≤ C) : uS N C Y := by
  obtain ⟨x, q1, q2, n, n1, q3, q4, q5, q6, q7, q8, q9⟩ := h h0
  obtain ⟨-, -, n2, h1, h2⟩ := hX
  have : n2 = n := by omega
  subst this
  exact ⟨h0, q2, n1, q4, by omega⟩
theorem pnX_q {lo hi : Int} {X : pX} {B : Nat} (hX : uS N B X) : qP N 0 1 X (pnX q N lo hi X) := by
  obtain ⟨h0, hN, n, hn, -⟩ := hX
  have hs := skp_b (q := q) hN
  by_cases c : skp q N X.2.2.1 < N ∧ isd (q (skp q N X.2.2.1))
  · by_cases d : lo ≤ pnV q N X ∧ pnV q N X ≤ hi
    · rw [pnX_3 h0 c d]
      have := dgs_1 (q := q) (N := N) (a := 0) c.1 c.2 (by omega)
      have hb := dgs_b (q := q) (N := N) (a := 0) hs.2.1 (by omega)
      exact qP.at h0 hn (by omega) hb.2.1
    · rw [pnX_2 h0 c d]
      exact qP.no (by show (2 : Nat) ≠ 0; omega)
  · rw [pnX_1 h0 c]
    exact qP.no (by show (1 : Nat) ≠ 0; omega)
theorem pnX_v {lo hi : Int} {X : pX} (h : (pnX q N lo hi X).1 = 0) : lo ≤ pnV q N X ∧ pnV q N X ≤ hi := by
  have h0 := pnX_0 h
  by_cases c : skp q N X.2.2.1 < N ∧ isd (q (skp q N X.2.2.1))
  · by_cases d : lo ≤ pnV q N X ∧ pnV q N X ≤ hi
    · exact d
    · rw [pnX_2 h0 c d] at h; exact absurd h (by show (2 : Nat) ≠ 0; omega)
  · rw [pnX_1 h0 c] at h; exact absurd h (by show (1 : Nat) ≠ 0; omega)
theorem pu0_q {X : pX} {B : Nat} (hB : B ≤ 15) (hX : uS N B X) : qP N 1 0 X (pu0 q N X) := by
  obtain ⟨h0, hN, n, hn, hf⟩ := id hX
  have hs := skp_b (q := q) hN
  have key : ∀ (i : Nat) (z : Int), i < 13 → wdP q N (skp q N X.2.2.1) i → -4 ≤ z → z ≤ 9999 → qP N 1 0 X (pcd z (pat (skp q N X.2.2.1 + wl i) X)) := by
    intro i z hi h h1 h2
    have := (wl_b i hi).1
    refine qP.cd (qP.at h0 hn (by omega) h.1) (fun n2 _ e2 => Or.inr ⟨h1, h2, ?_, rfl⟩)
    have : n2 = n := by omega
    subst this
    omega
  unfold pu0
  split
  · rename_i h; exact key 7 (-1) (by omega) h (by omega) (by omega)
  · split
    · rename_i h; exact key 8 (-2) (by omega) h (by omega) (by omega)
    · split
      · rename_i h; exact key 9 (-3) (by omega) h (by omega) (by omega)
      · split
        · rename_i h; exact key 10 (-4) (by omega) h (by omega) (by omega)
        · refine qP.cd (pnX_q hX) (fun n2 z2 e2 => Or.inr ?_)
          have hv := pnX_v z2
          have : n2 = n := by omega
          subst this
          exact ⟨by omega, by omega, by omega, rfl⟩
theorem plp_q {c1 c2 k1 k2 : Int} {S : pX → pX} {B : Nat} {X0 : pX} (h1 : -14 ≤ k1 ∧ k1 ≤ -11) (h2 : -14 ≤ k2 ∧ k2 ≤ -11) (hX0 : uS N B X0) (hS : ∀ X, uS N (B + 1) X → qP N 1 0 X (S X)) : ∀ (n : Nat) (Y : pX), qP N 1 0 X0 Y → qP N 1 0 X0 (plp q N c1 c2 k1 k2 S n Y) := by
  intro n
  induction n with
  | zero => intro Y h; exact h
  | succ n ih =>
    intro Y hY
    unfold plp
    by_cases h0 : Y.1 = 0
    · rw [if_pos h0]
      obtain ⟨-, hN, n1, hn1, hf1⟩ := hY.uS hX0 h0 (C := B + 1) (by omega)
      have hs := skp_b (q := q) hN
      have key : ∀ k : Int, -14 ≤ k ∧ k ≤ -11 → skp q N Y.2.2.1 < N → qP N 1 0 X0 (plp q N c1 c2 k1 k2 S n (pcd k (S (pat (skp q N Y.2.2.1 + 1) Y)))) := by
        intro k hk hlt
        have g1 : qP N 0 1 Y (pat (skp q N Y.2.2.1 + 1) Y) := qP.at h0 hn1 (by omega) (by omega)
        have g2 := hY.tr g1
        have g3 := g2.tr (hS (pat (skp q N Y.2.2.1 + 1) Y) ⟨h0, by show skp q N Y.2.2.1 + 1 ≤ N; omega, n1, hn1, hf1⟩)
        refine ih _ (qP.cd (e := 2) (g3.wk (by omega)) (fun _ _ _ => Or.inl ⟨hk.1, hk.2, by omega, rfl⟩))
      by_cases c : sgP q N (skp q N Y.2.2.1) c1
      · rw [if_pos c]; exact key k1 h1 c.1
      · rw [if_neg c]
        by_cases d : sgP q N (skp q N Y.2.2.1) c2
        · rw [if_pos d]; exact key k2 h2 d.1
        · rw [if_neg d]
          exact (hY.tr (qP.at (c := 0) h0 hn1 (by omega) hs.2.1)).wk (by omega)
    · rw [if_neg h0]
      exact hY
theorem ppr_q {U : pX → pX} {B : Nat} (hU : ∀ X, uS N (B + 1) X → qP N 1 0 X (U X)) {X : pX} (hX : uS N B X) : qP N 1 0 X (ppr q N U X) := plp_q (by omega) (by omega) hX hU 600 _ (hU X ⟨hX.1, hX.2.1, hX.2.2.elim fun n h => ⟨n, h.1, by omega⟩⟩)
theorem psm_q {U : pX → pX} {B : Nat} (hU : ∀ X, uS N (B + 2) X → qP N 1 0 X (U X)) {X : pX} (hX : uS N B X) : qP N 1 0 X (psm q N U X) := plp_q (by omega) (by omega) hX (fun _ h => ppr_q hU h) 600 _ (ppr_q hU ⟨hX.1, hX.2.1, hX.2.2.elim fun n h => ⟨n, h.1, by omega⟩⟩)
theorem pnd_q {e a : Nat} {c : Int} {X Y : pX} (h : qP N e a X Y) : qP N e a X (pnd q N c Y) := by
  intro z
  have h0 := pnd_0 z
  have hy := h h0
  unfold pnd at z ⊢
  rw [if_pos h0] at z ⊢
  have hs := skp_b (q := q) hy.2.2.1
  by_cases d : sgP q N (skp q N Y.2.2.1) c
  · rw [if_pos d] at z ⊢
    obtain ⟨-, -, -, n, n1, q3, q4, -⟩ := id hy
    exact ((h.tr (qP.at (c := 0) (X := Y) h0 q4 (by omega) (by have := d.1; omega))).wk (by omega)) h0
  · rw [if_neg d] at z
    exact absurd z (by show (1 : Nat) ≠ 0; omega)
theorem pun_q : ∀ (k B : Nat) (X : pX), B + 2 * k ≤ 15 → uS N B X → qP N 1 0 X (pun q N k X) := by
  intro k
  induction k with
  | zero =>
    intro B X hB hX
    unfold pun
    split
    · exact qP.no (by show (4 : Nat) ≠ 0; omega)
    · exact pu0_q (by omega) hX
  | succ k ih =>
    intro B X hB hX
    obtain ⟨h0, hN, n, hn, hf⟩ := id hX
    have hs := skp_b (q := q) hN
    unfold pun
    split
    · rename_i c
      have h1 : qP N 0 1 X (pat (skp q N X.2.2.1 + 1) X) := qP.at h0 hn (by omega) (by have := c.1; omega)
      have h2 := psm_q (q := q) (B := B) (fun Y hY => ih (B + 2) Y (by omega) hY) (X := pat (skp q N X.2.2.1 + 1) X) ⟨h0, by show skp q N X.2.2.1 + 1 ≤ N; have := c.1; omega, n, hn, hf⟩
      exact pnd_q ((h1.tr h2).wk (by omega))
    · exact pu0_q (by omega) hX
theorem psm4_q {X : pX} (h0 : X.1 = 0) (hN : X.2.2.1 ≤ N) (h8 : X.2.2.2 108 = 0) : qP N 1 0 X (psm q N (pun q N 4) X) := psm_q (B := 0) (fun Y hY => pun_q 4 2 Y (by omega) hY) ⟨h0, hN, 0, by rw [h8]; rfl, Nat.le_refl _⟩
end A
end PQ
