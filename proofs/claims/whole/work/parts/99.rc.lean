section RCS
/-- the reader of the class beside the pure one: what is read lies in the draft, its rows up to a, b, c -/
def rcO (r : Nat → Int) (a b c : Nat) (m : xM) : Prop := m 80 2 = r 108 ∧ (0 ≤ r 108 ∧ r 108 ≤ 600) ∧ (∀ i : Nat, (i : Int) < r 108 → m 81 i = cv (r (109 + i))) ∧ m 80 6 = r 901 ∧ m 80 7 = r 902 ∧ (∀ j, j < 6 → m 82 j = r j) ∧ (∀ i, i < a → m 83 i = r (6 + i)) ∧ (∀ i, i < b → m 84 i = r (24 + i)) ∧ (∀ i, i < c → m 85 i = r (60 + i)) ∧ ((m 82 10 = 0 ∧ ∀ i : Nat, (i : Int) < r 108 → r (109 + i) ≠ -4) ∨ m 82 10 = 1)
def RC (q : Nat → Int) (N : Nat) (X : pX) (a b c : Nat) (m : xM) : Prop := lC q N X m ∧ (0 ≤ m 80 2 ∧ m 80 2 ≤ 600) ∧ (X.1 = 0 → rcO X.2.2.2 a b c m)
section A
variable {q : Nat → Int} {N a b c : Nat} {X X' : pX} {m m' : xM}
theorem lS.kp {C ja je jf jp B : Nat} {J : List Nat} (hS : lS C ja je jf jp B q N X m) (hc : cg C J m m') (hB : B ≠ C) (h0 : ja ∉ J) (h1 : je ∉ J) (h2 : jf ∉ J) (h3 : jp ∉ J) : lS C ja je jf jp B q N X m' := by
  obtain ⟨⟨p, hp, hpN, hh⟩, -⟩ := id hS
  exact hS.to hc hB h1 h2 h3 rfl (fun _ => rfl) (by rw [hc.2 _ h0]; exact hp) hpN hh
theorem rcO.cg {r : Nat → Int} (h : rcO r a b c m) (hc : cg 80 [3, 5, 9] m m') : rcO r a b c m' := by
  unfold rcO at *
  rw [hc.2 2 (by decide), hc.2 6 (by decide), hc.2 7 (by decide), hc.1 81 (by decide), hc.1 82 (by decide), hc.1 83 (by decide), hc.1 84 (by decide), hc.1 85 (by decide)]
  exact h
theorem RC.leaf (h : RC q N X a b c m) (hS : lC q N X' m') (hc : cg 80 [3, 5, 9] m m') (hr : X'.2.2.2 = X.2.2.2) (h0 : X'.1 = 0 → X.1 = 0) : RC q N X' a b c m' := ⟨hS, by rw [hc.2 2 (by decide)]; exact h.2.1, fun z => by rw [hr]; exact (h.2.2 (h0 z)).cg hc⟩
theorem RC.no (h : RC q N X a b c m) (h0 : X.1 ≠ 0) {a' b' c' : Nat} : RC q N X a' b' c' m := ⟨h.1, h.2.1, fun z => absurd z h0⟩
theorem pwX_r {i : Nat} : (pwX q N i X).2.2.2 = X.2.2.2 := by unfold pwX; split <;> (try split) <;> rfl
theorem pwX_0 {i : Nat} : (pwX q N i X).1 = X.1 := by unfold pwX; split <;> (try split) <;> rfl
theorem psX_r {i : Int} : (psX q N i X).2.2.2 = X.2.2.2 := by unfold psX; split <;> (try split) <;> rfl
theorem psX_0 {i : Int} : (psX q N i X).1 = X.1 := by unfold psX; split <;> (try split) <;> rfl
theorem pnd_r {i : Int} : (pnd q N i X).2.2.2 = X.2.2.2 := by unfold pnd; split <;> (try split) <;> rfl
theorem pnd_0 {i : Int} (h : (pnd q N i X).1 = 0) : X.1 = 0 := by
  by_cases e : X.1 = 0
  · exact e
  · unfold pnd at h; rw [if_neg e] at h; exact absurd h e
theorem pnX_r {lo hi : Int} : (pnX q N lo hi X).2.2.2 = X.2.2.2 := by unfold pnX; split <;> (try split) <;> (try split) <;> rfl
theorem pnX_0 {lo hi : Int} (h : (pnX q N lo hi X).1 = 0) : X.1 = 0 := by
  by_cases e : X.1 = 0
  · exact e
  · rw [pnX_n e] at h; exact absurd h e
theorem pfl_r {k p : Nat} : (pfl k p X).2.2.2 = X.2.2.2 := by unfold pfl; split <;> rfl
theorem pfl_0 {k p : Nat} (h : (pfl k p X).1 = 0) : X.1 = 0 := by
  by_cases e : X.1 = 0
  · exact e
  · unfold pfl at h; rw [if_neg e] at h; exact h
theorem pskip_pskip (hN : X.2.2.1 ≤ N) : pskip q N (pskip q N X) = pskip q N X := by
  by_cases e : X.1 = 0
  · rw [pskip_0 e, pskip_0 (X := pat (skp q N X.2.2.1) X) e]
    show pat (skp q N (skp q N X.2.2.1)) _ = _
    rw [skp_i hN]; rfl
  · rw [pskip_n e, pskip_n e]
theorem skp_pskip (h0 : X.1 = 0) (hN : X.2.2.1 ≤ N) : skp q N (pskip q N X).2.2.1 = skp q N X.2.2.1 := by rw [pskip_0 h0]; exact skp_i hN
theorem psT_s {k : Int} (h0 : X.1 = 0) (hN : X.2.2.1 ≤ N) : psT q N k (pskip q N X) ↔ psT q N k X := by unfold psT; rw [pskip_1, skp_pskip h0 hN]
theorem psX_s {k : Int} (h0 : X.1 = 0) (hN : X.2.2.1 ≤ N) : psX q N k (pskip q N X) = psX q N k X := by
  by_cases e : psT q N k X
  · rw [psX_t e, psX_t ((psT_s h0 hN).mpr e), skp_pskip h0 hN, pskip_0 h0]; rfl
  · rw [psX_f e, psX_f (fun z => e ((psT_s h0 hN).mp z)), pskip_pskip hN]
theorem pwT_s {i : Nat} (h0 : X.1 = 0) (hN : X.2.2.1 ≤ N) : pwT q N i (pskip q N X) ↔ pwT q N i X := by unfold pwT; rw [pskip_1, skp_pskip h0 hN]
theorem pwX_s {i : Nat} (h0 : X.1 = 0) (hN : X.2.2.1 ≤ N) : pwX q N i (pskip q N X) = pwX q N i X := by
  by_cases e : pwT q N i X
  · rw [pwX_t e, pwX_t ((pwT_s h0 hN).mpr e), skp_pskip h0 hN, pskip_0 h0]; rfl
  · rw [pwX_f e, pwX_f (fun z => e ((pwT_s h0 hN).mp z)), pskip_pskip hN]
theorem pnV_s (h0 : X.1 = 0) (hN : X.2.2.1 ≤ N) : pnV q N (pskip q N X) = pnV q N X := by unfold pnV; rw [skp_pskip h0 hN]
theorem pnX_sl {lo hi : Int} (h0 : X.1 = 0) (hN : X.2.2.1 ≤ N) {C ja je jf jp B : Nat} (h : lS C ja je jf jp B q N (pnX q N lo hi (pskip q N X)) m) : lS C ja je jf jp B q N (pnX q N lo hi X) m := by
  have hp : (pskip q N X).1 = 0 := pskip_1.trans h0
  by_cases d : skp q N X.2.2.1 < N ∧ isd (q (skp q N X.2.2.1))
  · by_cases e : lo ≤ pnV q N X ∧ pnV q N X ≤ hi
    · rw [pnX_3 h0 d e]
      rw [pnX_3 hp (by rw [skp_pskip h0 hN]; exact d) (by rw [pnV_s h0 hN]; exact e), skp_pskip h0 hN] at h
      exact h.c (show X.1 = (pskip q N X).1 from pskip_1.symm) (show X.2.1 = (pskip q N X).2.1 from pskip_2.symm) rfl
    · rw [pnX_2 h0 d e]
      rw [pnX_2 hp (by rw [skp_pskip h0 hN]; exact d) (by rw [pnV_s h0 hN]; exact e), skp_pskip h0 hN] at h
      exact h.mk0
  · rw [pnX_1 h0 d]
    rw [pnX_1 hp (by rw [skp_pskip h0 hN]; exact d), skp_pskip h0 hN] at h
    exact h.mk0
theorem pnX_s0 {lo hi : Int} (h0 : X.1 = 0) (hN : X.2.2.1 ≤ N) : (pnX q N lo hi (pskip q N X)).1 = (pnX q N lo hi X).1 := by
  have hp : (pskip q N X).1 = 0 := pskip_1.trans h0
  by_cases d : skp q N X.2.2.1 < N ∧ isd (q (skp q N X.2.2.1))
  · by_cases e : lo ≤ pnV q N X ∧ pnV q N X ≤ hi
    · rw [pnX_3 h0 d e, pnX_3 hp (by rw [skp_pskip h0 hN]; exact d) (by rw [pnV_s h0 hN]; exact e)]
      exact pskip_1
    · rw [pnX_2 h0 d e, pnX_2 hp (by rw [skp_pskip h0 hN]; exact d) (by rw [pnV_s h0 hN]; exact e)]
  · rw [pnX_1 h0 d, pnX_1 hp (by rw [skp_pskip h0 hN]; exact d)]
theorem cv_8 : cv (-11) = -5 ∧ cv (-12) = -6 ∧ cv (-13) = -7 ∧ cv (-14) = -8 ∧ cv (-1) = -1 ∧ cv (-2) = -2 ∧ cv (-3) = -3 ∧ cv (-4) = -4 := by decide
theorem cv_n {z : Int} (h : 0 ≤ z) : cv z = z := if_neg (by omega)
theorem RC.r83 (h : RC q N X a b c m) (ha : a ≤ 18) (hb : b ≤ 36) (hc : c ≤ 48) (hv : a < 18) {z z' : Int} (hz : X.1 = 0 → z' = z) : RC q N (pset (6 + a) z X) (a + 1) b c (xu m 83 a z') := by
  refine ⟨(h.1.mv (S := [83]) (ag.u ag.rf (by decide)) (by decide) (by decide)).c rfl rfl rfl, by rw [xu_ne (by decide)]; exact h.2.1, fun hX => ?_⟩
  obtain ⟨p0, p1, p2, p3, p4, p5, p6, p7, p8, p9⟩ := h.2.2 hX
  refine ⟨by rw [xu_ne (by decide), pset_ne (by omega)]; exact p0, by rw [pset_ne (by omega)]; exact p1, fun i hi => ?_, by rw [xu_ne (by decide), pset_ne (by omega)]; exact p3, by rw [xu_ne (by decide), pset_ne (by omega)]; exact p4, fun j hj => by rw [xu_ne (by decide), pset_ne (by omega)]; exact p5 j hj, fun i hi => by
    by_cases e9 : i = a
    · subst e9; rw [xu_s, pset_eq]; exact hz hX
    · rw [xu_n (Or.inr e9), pset_ne (by omega)]; exact p6 i (by omega), fun i hi => by rw [xu_ne (by decide), pset_ne (by omega)]; exact p7 i hi, fun i hi => by rw [xu_ne (by decide), pset_ne (by omega)]; exact p8 i hi, ?_⟩
  · rw [pset_ne (by omega)] at hi
    rw [xu_ne (by decide), pset_ne (by omega)]; exact p2 i hi
  · rw [xu_ne (by decide), pset_ne (by omega)]
    exact p9.imp (fun z => ⟨z.1, fun i hi => by rw [pset_ne (by omega)]; exact z.2 i hi⟩) id
theorem RC.r84 (h : RC q N X a b c m) (ha : a ≤ 18) (hb : b ≤ 36) (hc : c ≤ 48) (hv : b < 36) {z z' : Int} (hz : X.1 = 0 → z' = z) : RC q N (pset (24 + b) z X) a (b + 1) c (xu m 84 b z') := by
  refine ⟨(h.1.mv (S := [84]) (ag.u ag.rf (by decide)) (by decide) (by decide)).c rfl rfl rfl, by rw [xu_ne (by decide)]; exact h.2.1, fun hX => ?_⟩
  obtain ⟨p0, p1, p2, p3, p4, p5, p6, p7, p8, p9⟩ := h.2.2 hX
  refine ⟨by rw [xu_ne (by decide), pset_ne (by omega)]; exact p0, by rw [pset_ne (by omega)]; exact p1, fun i hi => ?_, by rw [xu_ne (by decide), pset_ne (by omega)]; exact p3, by rw [xu_ne (by decide), pset_ne (by omega)]; exact p4, fun j hj => by rw [xu_ne (by decide), pset_ne (by omega)]; exact p5 j hj, fun i hi => by rw [xu_ne (by decide), pset_ne (by omega)]; exact p6 i hi, fun i hi => by
    by_cases e9 : i = b
    · subst e9; rw [xu_s, pset_eq]; exact hz hX
    · rw [xu_n (Or.inr e9), pset_ne (by omega)]; exact p7 i (by omega), fun i hi => by rw [xu_ne (by decide), pset_ne (by omega)]; exact p8 i hi, ?_⟩
  · rw [pset_ne (by omega)] at hi
    rw [xu_ne (by decide), pset_ne (by omega)]; exact p2 i hi
  · rw [xu_ne (by decide), pset_ne (by omega)]
    exact p9.imp (fun z => ⟨z.1, fun i hi => by rw [pset_ne (by omega)]; exact z.2 i hi⟩) id
theorem RC.r85 (h : RC q N X a b c m) (ha : a ≤ 18) (hb : b ≤ 36) (hc : c ≤ 48) (hv : c < 48) {z z' : Int} (hz : X.1 = 0 → z' = z) : RC q N (pset (60 + c) z X) a b (c + 1) (xu m 85 c z') := by
  refine ⟨(h.1.mv (S := [85]) (ag.u ag.rf (by decide)) (by decide) (by decide)).c rfl rfl rfl, by rw [xu_ne (by decide)]; exact h.2.1, fun hX => ?_⟩
  obtain ⟨p0, p1, p2, p3, p4, p5, p6, p7, p8, p9⟩ := h.2.2 hX
  refine ⟨by rw [xu_ne (by decide), pset_ne (by omega)]; exact p0, by rw [pset_ne (by omega)]; exact p1, fun i hi => ?_, by rw [xu_ne (by decide), pset_ne (by omega)]; exact p3, by rw [xu_ne (by decide), pset_ne (by omega)]; exact p4, fun j hj => by rw [xu_ne (by decide), pset_ne (by omega)]; exact p5 j hj, fun i hi => by rw [xu_ne (by decide), pset_ne (by omega)]; exact p6 i hi, fun i hi => by rw [xu_ne (by decide), pset_ne (by omega)]; exact p7 i hi, fun i hi => by
    by_cases e9 : i = c
    · subst e9; rw [xu_s, pset_eq]; exact hz hX
    · rw [xu_n (Or.inr e9), pset_ne (by omega)]; exact p8 i (by omega), ?_⟩
  · rw [pset_ne (by omega)] at hi
    rw [xu_ne (by decide), pset_ne (by omega)]; exact p2 i hi
  · rw [xu_ne (by decide), pset_ne (by omega)]
    exact p9.imp (fun z => ⟨z.1, fun i hi => by rw [pset_ne (by omega)]; exact z.2 i hi⟩) id
theorem RC.h82 (h : RC q N X a b c m) (ha : a ≤ 18) (hb : b ≤ 36) (hc : c ≤ 48) {j : Nat} (hj : j < 6) {z z' : Int} (hz : X.1 = 0 → z' = z) : RC q N (pset j z X) a b c (xu m 82 j z') := by
  refine ⟨(h.1.mv (S := [82]) (ag.u ag.rf (by decide)) (by decide) (by decide)).c rfl rfl rfl, by rw [xu_ne (by decide)]; exact h.2.1, fun hX => ?_⟩
  obtain ⟨p0, p1, p2, p3, p4, p5, p6, p7, p8, p9⟩ := h.2.2 hX
  refine ⟨by rw [xu_ne (by decide), pset_ne (by omega)]; exact p0, by rw [pset_ne (by omega)]; exact p1, fun i hi => ?_, by rw [xu_ne (by decide), pset_ne (by omega)]; exact p3, by rw [xu_ne (by decide), pset_ne (by omega)]; exact p4, fun i hi => ?_, fun i hi => by rw [xu_ne (by decide), pset_ne (by omega)]; exact p6 i hi, fun i hi => by rw [xu_ne (by decide), pset_ne (by omega)]; exact p7 i hi, fun i hi => by rw [xu_ne (by decide), pset_ne (by omega)]; exact p8 i hi, ?_⟩
  · rw [pset_ne (by omega)] at hi
    rw [xu_ne (by decide), pset_ne (by omega)]; exact p2 i hi
  · by_cases e : i = j
    · subst e; rw [xu_s, pset_eq]; exact hz hX
    · rw [xu_n (Or.inr e), pset_ne e]; exact p5 i hi
  · rw [xu_n (Or.inr (by omega)), pset_ne (by omega)]
    exact p9.imp (fun z => ⟨z.1, fun i hi => by rw [pset_ne (by omega)]; exact z.2 i hi⟩) id
/-- a mark of the row that no cell holds but the reader's own flags -/
theorem RC.tl (h : RC q N X a b c m) (ha : a ≤ 18) (hb : b ≤ 36) (hc : c ≤ 48) {k j : Nat} (hk : (k = 901 ∧ j = 6) ∨ (k = 902 ∧ j = 7)) : RC q N (pset k 1 X) a b c (xu m 80 j 1) := by
  refine ⟨(h.1.kp (J := [6, 7]) (cg.rf.u (by rcases hk with ⟨-, rfl⟩ | ⟨-, rfl⟩ <;> decide)) (by decide) (by decide) (by decide) (by decide) (by decide)).c rfl rfl rfl, by rw [xu_n (Or.inr (by omega))]; exact h.2.1, fun hX => ?_⟩
  obtain ⟨p0, p1, p2, p3, p4, p5, p6, p7, p8, p9⟩ := h.2.2 hX
  refine ⟨by rw [xu_n (Or.inr (by omega)), pset_ne (by omega)]; exact p0, by rw [pset_ne (by omega)]; exact p1, fun i hi => ?_, ?_, ?_, fun i hi => by rw [xu_ne (by decide), pset_ne (by omega)]; exact p5 i hi, fun i hi => by rw [xu_ne (by decide), pset_ne (by omega)]; exact p6 i hi, fun i hi => by rw [xu_ne (by decide), pset_ne (by omega)]; exact p7 i hi, fun i hi => by rw [xu_ne (by decide), pset_ne (by omega)]; exact p8 i hi, ?_⟩
  · rw [pset_ne (by omega)] at hi
    rw [xu_ne (by decide), pset_ne (by omega)]; exact p2 i hi
  · rcases hk with ⟨rfl, rfl⟩ | ⟨rfl, rfl⟩
    · rw [xu_s, pset_eq]
    · rw [xu_n (Or.inr (by decide)), pset_ne (by decide)]; exact p3
  · rcases hk with ⟨rfl, rfl⟩ | ⟨rfl, rfl⟩
    · rw [xu_n (Or.inr (by decide)), pset_ne (by decide)]; exact p4
    · rw [xu_s, pset_eq]
  · rw [xu_ne (by decide), pset_ne (by omega)]
    exact p9.imp (fun z => ⟨z.1, fun i hi => by rw [pset_ne (by omega)]; exact z.2 i hi⟩) id
theorem RC.t0 (h : RC q N X a b c m) (ha : a ≤ 18) (hb : b ≤ 36) (hc : c ≤ 48) {z : Int} : RC q N (pset 900 z X) a b c m := by
  refine ⟨h.1.c rfl rfl rfl, h.2.1, fun hX => ?_⟩
  obtain ⟨p0, p1, p2, p3, p4, p5, p6, p7, p8, p9⟩ := h.2.2 hX
  refine ⟨by rw [pset_ne (by omega)]; exact p0, by rw [pset_ne (by omega)]; exact p1, fun i hi => ?_, by rw [pset_ne (by omega)]; exact p3, by rw [pset_ne (by omega)]; exact p4, fun i hi => by rw [pset_ne (by omega)]; exact p5 i hi, fun i hi => by rw [pset_ne (by omega)]; exact p6 i hi, fun i hi => by rw [pset_ne (by omega)]; exact p7 i hi, fun i hi => by rw [pset_ne (by omega)]; exact p8 i hi, ?_⟩
  · rw [pset_ne (by omega)] at hi
    rw [pset_ne (by omega)]; exact p2 i hi
  · rw [pset_ne (by omega)]
    exact p9.imp (fun z => ⟨z.1, fun i hi => by rw [pset_ne (by omega)]; exact z.2 i hi⟩) id
/-- water is named -/
theorem RC.wt (h : RC q N X a b c m) : RC q N X a b c (xu m 82 10 1) := by
  refine ⟨h.1.mv (S := [82]) (ag.u ag.rf (by decide)) (by decide) (by decide), by rw [xu_ne (by decide)]; exact h.2.1, fun hX => ?_⟩
  obtain ⟨p0, p1, p2, p3, p4, p5, p6, p7, p8, p9⟩ := h.2.2 hX
  exact ⟨by rw [xu_ne (by decide)]; exact p0, p1, fun i hi => by rw [xu_ne (by decide)]; exact p2 i hi, by rw [xu_ne (by decide)]; exact p3, by rw [xu_ne (by decide)]; exact p4, fun i hi => by rw [xu_n (Or.inr (by omega))]; exact p5 i hi, fun i hi => by rw [xu_ne (by decide)]; exact p6 i hi, fun i hi => by rw [xu_ne (by decide)]; exact p7 i hi, fun i hi => by rw [xu_ne (by decide)]; exact p8 i hi, Or.inr xu_s⟩
theorem pcd_o {z : Int} {k : Nat} (h : k ≠ 108) (h2 : k ≠ 109 + (X.2.2.2 108).toNat) : (pcd z X).2.2.2 k = X.2.2.2 k := by unfold pcd; rw [pset_ne h, pset_ne h2]
theorem pcd_i {z : Int} {k : Nat} (h2 : k = 109 + (X.2.2.2 108).toNat) : (pcd z X).2.2.2 k = z := by unfold pcd; rw [pset_ne (by omega), h2, pset_eq]
theorem RC.it (h : RC q N X a b c m) (ha : a ≤ 18) (hb : b ≤ 36) (hc : c ≤ 48) {k : Nat} {z z' : Int} (hk : m 80 2 = (k : Int)) (hz : X.1 = 0 → X.2.2.2 108 < 600 ∧ z' = cv z ∧ (z = -4 → m 82 10 = 1)) (hm : (k < 600 ∧ m' = xu (xu m 81 k z') 80 2 ((k + 1 : Nat) : Int)) ∨ (k = 600 ∧ m' = m)) : RC q N (pcd z X) a b c m' := by
  rcases hm with ⟨hk6, rfl⟩ | ⟨hk6, rfl⟩
  · refine ⟨((h.1.mv (S := [81]) (m' := xu m 81 k z') (ag.u ag.rf (by decide)) (by decide) (by decide)).kp (J := [2]) (cg.rf.u (by decide)) (by decide) (by decide) (by decide) (by decide) (by decide)).c rfl rfl rfl, by rw [xu_s]; omega, fun hX => ?_⟩
    obtain ⟨p0, p1, p2, p3, p4, p5, p6, p7, p8, p9⟩ := h.2.2 hX
    obtain ⟨z1, z2, z3⟩ := hz hX
    have ek : (X.2.2.2 108).toNat = k := by omega
    refine ⟨by rw [xu_s, pcd_8]; omega, by rw [pcd_8]; omega, fun i hi => ?_, by rw [xu_n (Or.inr (by decide)), xu_ne (by decide), pcd_o (by omega) (by omega)]; exact p3, by rw [xu_n (Or.inr (by decide)), xu_ne (by decide), pcd_o (by omega) (by omega)]; exact p4, fun i hi => by rw [xu_ne (by decide), xu_ne (by decide), pcd_o (by omega) (by omega)]; exact p5 i hi, fun i hi => by rw [xu_ne (by decide), xu_ne (by decide), pcd_o (by omega) (by omega)]; exact p6 i hi, fun i hi => by rw [xu_ne (by decide), xu_ne (by decide), pcd_o (by omega) (by omega)]; exact p7 i hi, fun i hi => by rw [xu_ne (by decide), xu_ne (by decide), pcd_o (by omega) (by omega)]; exact p8 i hi, ?_⟩
    · rw [pcd_8] at hi
      rw [xu_ne (by decide)]
      by_cases e : i = k
      · subst e; rw [xu_s, pcd_i (by omega)]; exact z2
      · rw [xu_n (Or.inr e), pcd_o (by omega) (by omega)]; exact p2 i (by omega)
    · rw [xu_ne (by decide), xu_ne (by decide)]
      by_cases e : z = -4
      · exact Or.inr (z3 e)
      · refine p9.imp (fun w => ⟨w.1, fun i hi => ?_⟩) id
        rw [pcd_8] at hi
        by_cases e2 : i = k
        · rw [pcd_i (by omega)]; exact e
        · rw [pcd_o (by omega) (by omega)]; exact w.2 i (by omega)
  · refine ⟨h.1.c rfl rfl rfl, h.2.1, fun hX => ?_⟩
    obtain ⟨p0, -⟩ := h.2.2 hX
    have := (hz hX).1
    omega
section L
variable {c1 c2 k1 k2 : Int} {S : pX → pX} {n : Nat}
theorem plp_1 (h : psT q N c1 X) : plp q N c1 c2 k1 k2 S (n + 1) X = plp q N c1 c2 k1 k2 S n (pcd k1 (S (psX q N c1 X))) := by rw [plp, if_pos h.1, if_pos h.2, psX_t h]
theorem plp_2 (h1 : ¬ psT q N c1 X) (h : psT q N c2 X) : plp q N c1 c2 k1 k2 S (n + 1) X = plp q N c1 c2 k1 k2 S n (pcd k2 (S (psX q N c2 X))) := by rw [plp, if_pos h.1, if_neg (fun z => h1 ⟨h.1, z⟩), if_pos h.2, psX_t h]
theorem plp_3 (h0 : X.1 = 0) (h1 : ¬ psT q N c1 X) (h2 : ¬ psT q N c2 X) : plp q N c1 c2 k1 k2 S (n + 1) X = pskip q N X := by rw [plp, if_pos h0, if_neg (fun z => h1 ⟨h0, z⟩), if_neg (fun z => h2 ⟨h0, z⟩), pskip_0 h0]
theorem plp_n (h0 : X.1 ≠ 0) : plp q N c1 c2 k1 k2 S n X = X := by
  cases n with
  | zero => rfl
  | succ n => rw [plp, if_neg h0]
end L
/-- room for what is still to come -/
def slk (N : Nat) (X : pX) : Prop := X.2.2.1 ≤ N ∧ 0 ≤ X.2.2.2 108 ∧ X.2.2.2 108 + N + 2 ≤ 600 + X.2.2.1
theorem slk.to (h : slk N X) {k : Nat} (hc : cP N k X X') (h0 : X'.1 = 0) : slk N X' ∧ X'.2.2.2 108 + N + 2 + k ≤ 600 + X'.2.2.1 := by
  obtain ⟨x, p1, p2, p3, p4⟩ := hc h0
  obtain ⟨s1, s2, s3⟩ := h
  exact ⟨⟨p2, by omega, by omega⟩, by omega⟩
theorem psX_c {k : Int} (h : psT q N k X) (hN : X.2.2.1 ≤ N) : cP N 1 X (psX q N k X) := by
  have hs := skp_b (q := q) hN
  rw [psX_t h]
  exact cP.at h.1 (by omega) (by have := h.2.1; omega)
end A
end RCS
