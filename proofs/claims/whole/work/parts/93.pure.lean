section PP
/-! ===== the text, read: q its bytes, N how many; a state is (kind of the flaw or 0, its place, where one is, the row); in the row 0 to 708 are as in a view, 900 to 902 say whether squat, gap, surge were told ===== -/
abbrev pX : Type := Nat × Nat × Nat × (Nat → Int)
def skn (q : Nat → Int) (N : Nat) : Nat → Nat → Nat
  | 0, h => h
  | k + 1, h => if h < N ∧ q h = 32 then skn q N k (h + 1) else h
def skp (q : Nat → Int) (N h : Nat) : Nat := skn q N (N - h) h
abbrev isd (z : Int) : Prop := 48 ≤ z ∧ z ≤ 57
abbrev isl (z : Int) : Prop := 97 ≤ z ∧ z ≤ 122
def dgn (q : Nat → Int) (N : Nat) : Nat → Nat → Int → Nat × Int
  | 0, h, a => (h, a)
  | k + 1, h, a => if h < N ∧ isd (q h) then dgn q N k (h + 1) (a * 10 + q h - 48) else (h, a)
def dgs (q : Nat → Int) (N h : Nat) (a : Int) : Nat × Int := dgn q N (N - h) h a
def wl (i : Nat) : Nat := xwl.getD i 0
def wc (i k : Nat) : Int := ((xwb.getD i []).getD k 0).toInt
/-- word i stands at h -/
abbrev wdP (q : Nat → Int) (N h i : Nat) : Prop := h + wl i ≤ N ∧ (∀ k, k < wl i → q (h + k) = wc i k) ∧ ¬ (h + wl i < N ∧ isl (q (h + wl i)))
def pset (i : Nat) (z : Int) (X : pX) : pX := (X.1, X.2.1, X.2.2.1, fun k => if k = i then z else X.2.2.2 k)
def pat (h : Nat) (X : pX) : pX := (X.1, X.2.1, h, X.2.2.2)
def pfl (k p : Nat) (X : pX) : pX := if X.1 = 0 then (k, p, X.2.2) else X
section Q
variable (q : Nat → Int) (N : Nat)
def pskip (X : pX) : pX := if X.1 = 0 then pat (skp q N X.2.2.1) X else X
/-- a word taken, a sign taken, or left: with the blanks ahead of it -/
def pwT (i : Nat) (X : pX) : Prop := X.1 = 0 ∧ wdP q N (skp q N X.2.2.1) i
def pwX (i : Nat) (X : pX) : pX := if X.1 = 0 then (if wdP q N (skp q N X.2.2.1) i then pat (skp q N X.2.2.1 + wl i) X else pat (skp q N X.2.2.1) X) else X
abbrev sgP (h : Nat) (c : Int) : Prop := h < N ∧ q h = c
def psT (c : Int) (X : pX) : Prop := X.1 = 0 ∧ sgP q N (skp q N X.2.2.1) c
def psX (c : Int) (X : pX) : pX := if X.1 = 0 then (if sgP q N (skp q N X.2.2.1) c then pat (skp q N X.2.2.1 + 1) X else pat (skp q N X.2.2.1) X) else X
def pnd (c : Int) (X : pX) : pX := if X.1 = 0 then (if sgP q N (skp q N X.2.2.1) c then pat (skp q N X.2.2.1 + 1) X else (1, skp q N X.2.2.1, X.2.2)) else X
def pnV (X : pX) : Int := (dgs q N (skp q N X.2.2.1) 0).2
def pnX (lo hi : Int) (X : pX) : pX := if X.1 = 0 then
    (if skp q N X.2.2.1 < N ∧ isd (q (skp q N X.2.2.1)) then (if lo ≤ pnV q N X ∧ pnV q N X ≤ hi then pat (dgs q N (skp q N X.2.2.1) 0).1 X else (2, skp q N X.2.2.1, X.2.2)) else (1, skp q N X.2.2.1, X.2.2))
  else X
def pnum (i : Nat) (lo hi : Int) (X : pX) : pX := pset i (pnV q N X) (pnX q N lo hi X)
def pcd (c : Int) (X : pX) : pX := pset 108 (X.2.2.2 108 + 1) (pset (109 + (X.2.2.2 108).toNat) c X)
def plp (c1 c2 k1 k2 : Int) (S : pX → pX) : Nat → pX → pX
  | 0, X => X
  | n + 1, X => if X.1 = 0 then
      (if sgP q N (skp q N X.2.2.1) c1 then plp c1 c2 k1 k2 S n (pcd k1 (S (pat (skp q N X.2.2.1 + 1) X)))
       else if sgP q N (skp q N X.2.2.1) c2 then plp c1 c2 k1 k2 S n (pcd k2 (S (pat (skp q N X.2.2.1 + 1) X)))
       else pat (skp q N X.2.2.1) X) else X
def ppr (U : pX → pX) (X : pX) : pX := plp q N 42 47 (-13) (-14) U 600 (U X)
def psm (U : pX → pX) (X : pX) : pX := plp q N 43 45 (-11) (-12) (ppr q N U) 600 (ppr q N U X)
/-- a unit that is no bracket -/
def pu0 (X : pX) : pX :=
  if wdP q N (skp q N X.2.2.1) 7 then pcd (-1) (pat (skp q N X.2.2.1 + wl 7) X)
  else if wdP q N (skp q N X.2.2.1) 8 then pcd (-2) (pat (skp q N X.2.2.1 + wl 8) X)
  else if wdP q N (skp q N X.2.2.1) 9 then pcd (-3) (pat (skp q N X.2.2.1 + wl 9) X)
  else if wdP q N (skp q N X.2.2.1) 10 then pcd (-4) (pat (skp q N X.2.2.1 + wl 10) X)
  else pcd (pnV q N X) (pnX q N 0 9999 X)
def pun : Nat → pX → pX
  | 0, X => if sgP q N (skp q N X.2.2.1) 40 then (4, skp q N X.2.2.1, X.2.2) else pu0 q N X
  | k + 1, X => if sgP q N (skp q N X.2.2.1) 40 then pnd q N 41 (psm q N (pun k) (pat (skp q N X.2.2.1 + 1) X)) else pu0 q N X
def pns : Nat → List (Int × Int) → pX → pX
  | _, [], X => X
  | b, t :: l, X => pns (b + 1) l (pnum q N b t.1 t.2 X)
noncomputable def ptk (b i : Nat) (X : pX) : pX := pset b (zi (pwT q N i X)) (pwX q N i X)
noncomputable def pwav (X : pX) : pX := pset 3 (X.2.2.2 3 + 1) (pns q N (6 + 3 * (X.2.2.2 3).toNat) [(0, 400), (60, 2000), (0, 2000)] X)
noncomputable def pbar (X : pX) : pX := pset 4 (X.2.2.2 4 + 1) (ptk q N (24 + 6 * (X.2.2.2 4).toNat + 5) 3 (pns q N (24 + 6 * (X.2.2.2 4).toNat) [(0, 200), (100, 3000), (1, 20), (0, 300), (50, 150)] X))
noncomputable def pshp (X : pX) : pX :=
  let b := 60 + 8 * (X.2.2.2 5).toNat
  let Y := pns q N b [(100, 2500), (40, 95), (0, 300), (4, 25)] X
  pset 5 (X.2.2.2 5 + 1) (pset (b + 7) (-1) (pset (b + 6) (-1) (ptk q N (b + 5) 5 (pnum q N (b + 4) (Y.2.2.2 (b + 3)) 25 Y))))
noncomputable def psrg (X : pX) : pX := pset 2 ((1 - 2 * zi (psT q N 45 X)) * pnV q N (psX q N 45 X)) (pnX q N 0 300 (psX q N 45 X))
/-- a statement, without its ; -/
noncomputable def pst (X : pX) : pX :=
  let h := skp q N X.2.2.1
  if wdP q N h 1 then (if X.2.2.2 3 < 6 then pwav q N (pat (h + wl 1) X) else (3, h, X.2.2))
  else if wdP q N h 2 then (if X.2.2.2 4 < 6 then pbar q N (pat (h + wl 2) X) else (3, h, X.2.2))
  else if wdP q N h 4 then (if X.2.2.2 5 < 6 then pshp q N (pat (h + wl 4) X) else (3, h, X.2.2))
  else if X.2.2.2 900 = 0 ∧ wdP q N h 6 then psm q N (pun q N 4) (pset 900 1 (pat (h + wl 6) X))
  else if X.2.2.2 901 = 0 ∧ wdP q N h 11 then pnum q N 1 0 240 (pset 901 1 (pat (h + wl 11) X))
  else if X.2.2.2 902 = 0 ∧ wdP q N h 12 then psrg q N (pset 902 1 (pat (h + wl 12) X))
  else (1, h, X.2.2)
noncomputable def pln : Nat → pX → pX
  | 0, X => X
  | n + 1, X => if X.1 = 0 then (if skp q N X.2.2.1 < N then pln n (pnd q N 59 (pst q N (pskip q N X))) else X) else X
def pr0 : Nat → Int := fun k => if k = 1 then 15 else 0
noncomputable def pmn : pX := pnd q N 59 (pnum q N 0 0 1000 (if wdP q N (skp q N 0) 0 then (0, 0, skp q N 0 + wl 0, pr0) else (1, skp q N 0, skp q N 0, pr0)))
noncomputable def ptx : pX := pln q N 600 (pmn q N)
end Q
section L
variable {q : Nat → Int} {N : Nat}
theorem skp_s {h : Nat} (h1 : h < N) (e : q h = 32) : skp q N h = skp q N (h + 1) := by
  unfold skp
  rw [show N - h = (N - (h + 1)) + 1 by omega, skn, if_pos ⟨h1, e⟩]
theorem skp_e {h : Nat} (e : ¬ (h < N ∧ q h = 32)) : skp q N h = h := by
  unfold skp
  cases hk : N - h with
  | zero => rfl
  | succ k => rw [skn, if_neg e]
theorem skn_b : ∀ (k h : Nat), h ≤ N → N ≤ h + k → h ≤ skn q N k h ∧ skn q N k h ≤ N ∧ ¬ (skn q N k h < N ∧ q (skn q N k h) = 32) := by
  intro k
  induction k with
  | zero => intro h h1 h2; exact ⟨Nat.le_refl _, h1, fun z => by have : h < N := z.1; omega⟩
  | succ k ih =>
    intro h h1 h2
    unfold skn
    by_cases c : h < N ∧ q h = 32
    · rw [if_pos c]
      obtain ⟨a, b, d⟩ := ih (h + 1) (by omega) (by omega)
      exact ⟨by omega, b, d⟩
    · rw [if_neg c]
      exact ⟨Nat.le_refl _, h1, c⟩
theorem skp_b {h : Nat} (h1 : h ≤ N) : h ≤ skp q N h ∧ skp q N h ≤ N ∧ ¬ (skp q N h < N ∧ q (skp q N h) = 32) := skn_b (N - h) h h1 (by omega)
theorem skp_i {h : Nat} (h1 : h ≤ N) : skp q N (skp q N h) = skp q N h := skp_e (skp_b h1).2.2
theorem dgs_s {h : Nat} {a : Int} (h1 : h < N) (e : isd (q h)) : dgs q N h a = dgs q N (h + 1) (a * 10 + q h - 48) := by
  unfold dgs
  rw [show N - h = (N - (h + 1)) + 1 by omega, dgn, if_pos ⟨h1, e⟩]
theorem dgs_e {h : Nat} {a : Int} (e : ¬ (h < N ∧ isd (q h))) : dgs q N h a = (h, a) := by
  unfold dgs
  cases hk : N - h with
  | zero => rfl
  | succ k => rw [dgn, if_neg e]
theorem dgn_b : ∀ (k h : Nat) (a : Int), h ≤ N → 0 ≤ a → h ≤ (dgn q N k h a).1 ∧ (dgn q N k h a).1 ≤ N ∧ 0 ≤ (dgn q N k h a).2 := by
  intro k
  induction k with
  | zero => intro h a h1 h2; exact ⟨Nat.le_refl _, h1, h2⟩
  | succ k ih =>
    intro h a h1 h2
    unfold dgn
    by_cases c : h < N ∧ isd (q h)
    · rw [if_pos c]
      have hd := c.2
      obtain ⟨x, y, z⟩ := ih (h + 1) (a * 10 + q h - 48) (by omega) (by omega)
      exact ⟨by omega, y, z⟩
    · rw [if_neg c]
      exact ⟨Nat.le_refl _, h1, h2⟩
theorem dgs_b {h : Nat} {a : Int} (h1 : h ≤ N) (ha : 0 ≤ a) : h ≤ (dgs q N h a).1 ∧ (dgs q N h a).1 ≤ N ∧ 0 ≤ (dgs q N h a).2 := dgn_b _ _ _ h1 ha
theorem dgs_1 {h : Nat} {a : Int} (h1 : h < N) (e : isd (q h)) (ha : 0 ≤ a) : h + 1 ≤ (dgs q N h a).1 := by
  rw [dgs_s h1 e]
  exact (dgs_b (by omega) (by have := e; omega)).1
theorem wl_b : ∀ i, i < 13 → 3 ≤ wl i ∧ wl i ≤ 7 := by decide
theorem wc_b : ∀ i, i < 13 → ∀ k, k < wl i → 97 ≤ wc i k ∧ wc i k ≤ 122 := by decide +kernel
end L
end PP
