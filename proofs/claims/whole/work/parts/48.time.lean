section TM
/-! ===== truth as a number; times; what is clear, good, close ===== -/
noncomputable def zi (p : Prop) : Int := @ite Int p (Classical.propDecidable p) 1 0
theorem zi_t {p : Prop} (h : p) : zi p = 1 := by unfold zi; exact if_pos h
theorem zi_f {p : Prop} (h : ¬ p) : zi p = 0 := by unfold zi; exact if_neg h
theorem zi_01 (p : Prop) : zi p = 0 ∨ zi p = 1 := by
  rcases Classical.em p with h | h
  · exact Or.inr (zi_t h)
  · exact Or.inl (zi_f h)
theorem zi_0 {p : Prop} : zi p = 0 ↔ ¬ p := by
  rcases Classical.em p with h | h
  · rw [zi_t h]; exact ⟨fun q => by omega, fun q => absurd h q⟩
  · rw [zi_f h]; exact ⟨fun _ => h, fun _ => rfl⟩
theorem zi_1 {p : Prop} : ¬ zi p = 0 ↔ p := by rw [zi_0]; exact Classical.not_not
theorem zi_r (p : Prop) : -2147483648 ≤ zi p ∧ zi p ≤ 2147483647 := by rcases zi_01 p with h | h <;> rw [h] <;> omega
theorem zi_c {p q : Prop} (h : p ↔ q) : zi p = zi q := by rw [propext h]
def sg (v : Nat → Int) (sp : Int) (p : Nat) : Int := tk (br v p 0) sp + tk (br v p 2) sp
/-- what the bars ahead of the k-th take, with the distances ahead of them -/
def Tm (v : Nat → Int) (sp : Int) : Nat → Int
  | 0 => 0
  | k + 1 => Tm v sp k + sg v sp k
/-- how long behind its start a ship comes to a bar -/
def cm (v : Nat → Int) (s : Nat) (sp : Int) (b : Nat) : Int := if sh v s 5 = 1 then Tm v sp (v 4).toNat - Tm v sp (b + 1) else Tm v sp b + tk (br v b 0) sp
def pt (v : Nat → Int) (s : Nat) (sp : Int) : Int := if v 4 = 0 then 0 else if sh v s 5 = 1 then cm v s sp 0 + tk (br v 0 2) sp else cm v s sp ((v 4).toNat - 1) + tk (br v ((v 4).toNat - 1) 2) sp
def lfw (v : Nat → Int) (s : Nat) (dr w sp : Int) : Int := w - dr - sk v s dr w sp
def clr (v : Nat → Int) (s : Nat) (dr w sp : Int) : Prop := sh v s 2 ≤ lfw v s dr w sp
def pas (v : Nat → Int) (s : Nat) (dr : Int) (b : Nat) (t sp : Int) : Prop := ∀ k : Nat, (k : Int) ≤ tk (br v b 2) sp → clr v s dr (wa v b (t + k)) sp
def good (v : Nat → Int) (s : Nat) (dr st sp : Int) : Prop := ∀ b : Nat, (b : Int) < v 4 → pas v s dr b (st + cm v s sp b) sp
def apt (v : Nat → Int) (s : Nat) (st sp : Int) (o b : Nat) : Int := max 0 (max (sh v o 6 + cm v o (sh v o 7) b - (st + cm v s sp b + tk (br v b 2) sp)) (st + cm v s sp b - (sh v o 6 + cm v o (sh v o 7) b + tk (br v b 2) (sh v o 7))))
def near (v : Nat → Int) (s : Nat) (st sp : Int) (o : Nat) : Prop := ∃ b : Nat, (b : Int) < v 4 ∧ (apt v s st sp o b = 0 ∨ apt v s st sp o b < v 1)
theorem sg_b {v : Nat → Int} {sp : Int} {p : Nat} (hv : bOk v) (hp : (p : Int) < v 4) (hs : 4 ≤ sp ∧ sp ≤ 25) : 1 ≤ sg v sp p ∧ sg v sp p ≤ 330 ∧ 0 ≤ tk (br v p 0) sp ∧ tk (br v p 0) sp ≤ 300 ∧ 1 ≤ tk (br v p 2) sp ∧ tk (br v p 2) sp ≤ 30 := by
  obtain ⟨a, -, b, -⟩ := hv.2 p hp
  have h1 := tk_b a hs
  have h2 := tkl_b b hs
  unfold sg
  omega
theorem Tm_b {v : Nat → Int} {sp : Int} (hv : bOk v) (hs : 4 ≤ sp ∧ sp ≤ 25) : ∀ k : Nat, (k : Int) ≤ v 4 → 0 ≤ Tm v sp k ∧ Tm v sp k ≤ 330 * (k : Int) := by
  intro k
  induction k with
  | zero => intro _; exact ⟨Int.le_refl 0, by show (0 : Int) ≤ 330 * 0; omega⟩
  | succ k ih =>
    intro hk
    have h1 := ih (by omega)
    have h2 := sg_b hv (p := k) (by omega) hs
    show 0 ≤ Tm v sp k + sg v sp k ∧ Tm v sp k + sg v sp k ≤ _
    omega
theorem Tm_m {v : Nat → Int} {sp : Int} (hv : bOk v) (hs : 4 ≤ sp ∧ sp ≤ 25) (a : Nat) : ∀ j : Nat, ((a + j : Nat) : Int) ≤ v 4 → Tm v sp a ≤ Tm v sp (a + j) := by
  intro j
  induction j with
  | zero => intro _; exact Int.le_refl _
  | succ j ih =>
    intro h
    have h1 := ih (by omega)
    have h2 := sg_b hv (p := a + j) (by omega) hs
    show _ ≤ Tm v sp (a + j) + sg v sp (a + j)
    omega
theorem cm_b {v : Nat → Int} {s b : Nat} {sp : Int} (hv : bOk v) (hs : 4 ≤ sp ∧ sp ≤ 25) (hb : (b : Int) < v 4) : 0 ≤ cm v s sp b ∧ cm v s sp b ≤ 2000 := by
  have h4 := hv.1
  unfold cm
  split
  · have h1 := Tm_b hv hs (v 4).toNat (by omega)
    have h2 := Tm_b hv hs (b + 1) (by omega)
    have h3 := Tm_m hv hs (b + 1) ((v 4).toNat - (b + 1)) (by omega)
    rw [show b + 1 + ((v 4).toNat - (b + 1)) = (v 4).toNat by omega] at h3
    omega
  · have h1 := Tm_b hv hs b (by omega)
    have h2 := sg_b hv hb hs
    omega
theorem pt_b {v : Nat → Int} {s : Nat} {sp : Int} (hv : bOk v) (hs : 4 ≤ sp ∧ sp ≤ 25) : 0 ≤ pt v s sp ∧ pt v s sp ≤ 2100 := by
  have h4 := hv.1
  unfold pt
  split
  · omega
  · split
    · have h1 := cm_b (s := s) hv hs (b := 0) (by omega)
      have h2 := sg_b hv (p := 0) (by omega) hs
      omega
    · have h1 := cm_b (s := s) hv hs (b := (v 4).toNat - 1) (by omega)
      have h2 := sg_b hv (p := (v 4).toNat - 1) (by omega) hs
      omega
theorem lfw_b {v : Nat → Int} {s : Nat} {dr w sp : Int} (hv : vOk v) (hs : (s : Int) < v 5) (hsp : 4 ≤ sp ∧ sp ≤ 25) (hd : 0 ≤ dr ∧ dr ≤ 3000) (hw : -10000 ≤ w ∧ w ≤ 20000) : -30000 ≤ lfw v s dr w sp ∧ lfw v s dr w sp ≤ 20000 := by
  have := sk_b (dr := dr) (w := w) hv hs hsp
  unfold lfw
  omega
end TM
