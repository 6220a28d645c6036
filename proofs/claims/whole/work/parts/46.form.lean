section FO
/-! ===== the formula ===== -/
def hd (z : Int) : Int := max (-1000000000) (min 1000000000 z)
def fv (c sp bk dr w : Int) : Int := if 0 ≤ c then c else if c = -1 then sp else if c = -2 then bk else if c = -3 then dr else w
def fj (c a b : Int) : Int := if c = -11 then hd (a + b) else if c = -12 then hd (a - b) else if c = -13 then hd (a * b) else if b = 0 then 0 else a.tdiv b
def fi (v : Nat → Int) (k : Nat) : Int := v (109 + k)
def fd (v : Nat → Int) : Nat → Nat
  | 0 => 0
  | k + 1 => if fi v k ≤ -11 then fd v k - 1 else fd v k + 1
def fs (v : Nat → Int) (sp bk dr w : Int) : Nat → Nat → Int
  | 0 => fun _ => 0
  | k + 1 => if fi v k ≤ -11 then fun i => if i = fd v k - 2 then fj (fi v k) (fs v sp bk dr w k (fd v k - 2)) (fs v sp bk dr w k (fd v k - 1)) else fs v sp bk dr w k i
    else fun i => if i = fd v k then fv (fi v k) sp bk dr w else fs v sp bk dr w k i
def fOk (v : Nat → Int) : Prop := (0 ≤ v 108 ∧ v 108 ≤ 600) ∧ (∀ k : Nat, (k : Int) < v 108 → (-14 ≤ fi v k ∧ fi v k ≤ -11 ∧ 2 ≤ fd v k) ∨ (-4 ≤ fi v k ∧ fi v k ≤ 9999 ∧ fd v k < 16)) ∧ (0 < v 108 → 1 ≤ fd v (v 108).toNat)
def vOk (v : Nat → Int) : Prop := vOk0 v ∧ fOk v
/-- SQUAT -/
def sk (v : Nat → Int) (s : Nat) (dr w sp : Int) : Int := if v 108 = 0 then (sh v s 1 * sp * sp).tdiv 100 else max 0 (min 9999 (fs v sp (sh v s 1) dr w (v 108).toNat 0))
theorem hd_b (z : Int) : -1000000000 ≤ hd z ∧ hd z ≤ 1000000000 := by unfold hd; omega
theorem mul_s {a b A B : Int} (h1 : -A ≤ a) (h2 : a ≤ A) (h3 : -B ≤ b) (h4 : b ≤ B) : -(A * B) ≤ a * b ∧ a * b ≤ A * B := by
  rcases Int.le_total 0 a with q | q
  · exact mul_b q h2 h3 h4
  · have := mul_b (a := -a) (b := b) (A := A) (B := B) (by omega) (by omega) h3 h4
    rw [Int.neg_mul] at this
    omega
theorem tdiv_s {a b K : Int} (h1 : -K ≤ a) (h2 : a ≤ K) (hb : b ≠ 0) : -K ≤ a.tdiv b ∧ a.tdiv b ≤ K := by
  rcases Int.lt_or_gt_of_ne hb with q | q
  · have e : a.tdiv b = -(a.tdiv (-b)) := by rw [Int.tdiv_neg, Int.neg_neg]
    have hK : K ≤ K * (-b) := by
      have hk : 0 ≤ K := by omega
      have := Int.mul_le_mul_of_nonneg_left (show 1 ≤ -b by omega) hk
      omega
    have := td_b (a := a) (d := -b) (K := K) (by omega) (by omega) (by omega)
    omega
  · have hK : K ≤ K * b := by
      have hk : 0 ≤ K := by omega
      have := Int.mul_le_mul_of_nonneg_left (show 1 ≤ b by omega) hk
      omega
    exact td_b (a := a) (d := b) (K := K) q (by omega) (by omega)
theorem fj_b {c a b : Int} (h1 : -1000000000 ≤ a) (h2 : a ≤ 1000000000) : -1000000000 ≤ fj c a b ∧ fj c a b ≤ 1000000000 := by
  unfold fj
  split
  · exact hd_b _
  · split
    · exact hd_b _
    · split
      · exact hd_b _
      · split
        · omega
        · exact tdiv_s h1 h2 (by assumption)
theorem fv_b {c sp bk dr w K : Int} (hc : -4 ≤ c ∧ c ≤ 9999) (hK : 9999 ≤ K) (h1 : -K ≤ sp ∧ sp ≤ K) (h2 : -K ≤ bk ∧ bk ≤ K) (h3 : -K ≤ dr ∧ dr ≤ K) (h4 : -K ≤ w ∧ w ≤ K) : -K ≤ fv c sp bk dr w ∧ fv c sp bk dr w ≤ K := by
  unfold fv
  split
  · omega
  · split
    · omega
    · split
      · omega
      · split <;> omega
theorem fs_b {v : Nat → Int} {sp bk dr w : Int} (hv : fOk v) (h1 : -1000000000 ≤ sp ∧ sp ≤ 1000000000) (h2 : -1000000000 ≤ bk ∧ bk ≤ 1000000000) (h3 : -1000000000 ≤ dr ∧ dr ≤ 1000000000) (h4 : -1000000000 ≤ w ∧ w ≤ 1000000000) :
    ∀ k : Nat, (k : Int) ≤ v 108 → ∀ i, -1000000000 ≤ fs v sp bk dr w k i ∧ fs v sp bk dr w k i ≤ 1000000000 := by
  intro k
  induction k with
  | zero => intro _ i; show _ ≤ (0 : Int) ∧ (0 : Int) ≤ _; omega
  | succ k ih =>
    intro hk i
    have hi := ih (by omega)
    unfold fs
    split
    · show _ ≤ (if _ then _ else _ : Int) ∧ (if _ then _ else _ : Int) ≤ _
      split
      · exact fj_b (hi _).1 (hi _).2
      · exact hi i
    · rename_i hc
      show _ ≤ (if _ then _ else _ : Int) ∧ (if _ then _ else _ : Int) ≤ _
      split
      · rcases hv.2.1 k (by omega) with q | q
        · omega
        · exact fv_b (K := 1000000000) ⟨q.1, q.2.1⟩ (by omega) h1 h2 h3 h4
      · exact hi i
theorem fd_b {v : Nat → Int} (hv : fOk v) : ∀ k : Nat, (k : Int) ≤ v 108 → fd v k ≤ 16 := by
  intro k
  induction k with
  | zero => intro _; exact Nat.zero_le _
  | succ k ih =>
    intro hk
    have := ih (by omega)
    rcases hv.2.1 k (by omega) with q | q
    · unfold fd; rw [if_pos q.2.1]; omega
    · unfold fd; rw [if_neg (by omega)]; omega
theorem sk_b {v : Nat → Int} {s : Nat} {dr w sp : Int} (hv : vOk v) (hs : (s : Int) < v 5) (hsp : 4 ≤ sp ∧ sp ≤ 25) : 0 ≤ sk v s dr w sp ∧ sk v s dr w sp ≤ 9999 ∧ 0 ≤ sh v s 1 * sp ∧ sh v s 1 * sp ≤ 2375 ∧ 0 ≤ sh v s 1 * sp * sp ∧ sh v s 1 * sp * sp ≤ 59375 := by
  obtain ⟨-, hb, -⟩ := hv.1.2.2.2.2.2.2 s hs
  have q1 := mul_nn (a := sh v s 1) (b := sp) (A := 95) (B := 25) (by omega) (by omega) (by omega) (by omega)
  have q2 := mul_nn (a := sh v s 1 * sp) (b := sp) (A := 2375) (B := 25) (by omega) (by omega) (by omega) (by omega)
  unfold sk
  split
  · rw [Int.tdiv_eq_ediv_of_nonneg (by omega)]
    omega
  · omega
end FO
