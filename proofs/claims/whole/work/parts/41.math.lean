section MA
/-! ===== what the document says, over a view v of what is told: 0 MEAN, 1 GAP, 2 SURGE, 3 WAVES, 4 BARS, 5 SHIPS, from 6 on the waves by 3, from 24 the bars by 6, from 60 the ships by 8, 108 how many items the formula has, from 109 on its items ===== -/
def wv (v : Nat → Int) (w j : Nat) : Int := v (6 + 3 * w + j)
def br (v : Nat → Int) (b j : Nat) : Int := v (24 + 6 * b + j)
def sh (v : Nat → Int) (s j : Nat) : Int := v (60 + 8 * s + j)
/-- what a distance takes by a speed -/
def tk (d s : Int) : Int := (6 * d + s - 1).tdiv s
/-- the bow of a half wave -/
def bow (h : Int) : Int := (4000 * (h * (1800 - h))).tdiv (4050000 - h * (1800 - h))
def prt (x : Int) : Int := if x < 1800 then bow x else -bow (x - 1800)
def wpt (t p l : Int) : Int := prt ((((t - l) % p) * 3600).tdiv p)
def wsum (v : Nat → Int) (t : Int) : Nat → Int
  | 0 => 0
  | k + 1 => wsum v t k + (wv v k 0 * wpt t (wv v k 1) (wv v k 2)).tdiv 1000
def ht (v : Nat → Int) (t : Int) : Int := v 0 + v 2 + wsum v t (v 3).toNat
def wa (v : Nat → Int) (b : Nat) (t : Int) : Int := br v b 1 + (ht v (t - br v b 3) * br v b 4).tdiv 100
/-- what is told is as the document allows -/
def wOk (v : Nat → Int) : Prop := (0 ≤ v 3 ∧ v 3 ≤ 6) ∧ ∀ w : Nat, (w : Int) < v 3 → (0 ≤ wv v w 0 ∧ wv v w 0 ≤ 400) ∧ (60 ≤ wv v w 1 ∧ wv v w 1 ≤ 2000) ∧ (0 ≤ wv v w 2 ∧ wv v w 2 ≤ 2000)
def bOk (v : Nat → Int) : Prop := (0 ≤ v 4 ∧ v 4 ≤ 6) ∧ ∀ b : Nat, (b : Int) < v 4 → (0 ≤ br v b 0 ∧ br v b 0 ≤ 200) ∧ (100 ≤ br v b 1 ∧ br v b 1 ≤ 3000) ∧ (1 ≤ br v b 2 ∧ br v b 2 ≤ 20) ∧ (0 ≤ br v b 3 ∧ br v b 3 ≤ 300) ∧ (50 ≤ br v b 4 ∧ br v b 4 ≤ 150) ∧ (br v b 5 = 0 ∨ br v b 5 = 1)
def sOk (v : Nat → Int) : Prop := (0 ≤ v 5 ∧ v 5 ≤ 6) ∧ ∀ s : Nat, (s : Int) < v 5 → (100 ≤ sh v s 0 ∧ sh v s 0 ≤ 2500) ∧ (40 ≤ sh v s 1 ∧ sh v s 1 ≤ 95) ∧ (0 ≤ sh v s 2 ∧ sh v s 2 ≤ 300) ∧ (4 ≤ sh v s 3 ∧ sh v s 3 ≤ sh v s 4 ∧ sh v s 4 ≤ 25) ∧ (sh v s 5 = 0 ∨ sh v s 5 = 1) ∧ ((sh v s 6 = -1 ∧ sh v s 7 = -1) ∨ (0 ≤ sh v s 6 ∧ sh v s 6 ≤ 2000 ∧ 4 ≤ sh v s 7 ∧ sh v s 7 ≤ 25))
def vOk0 (v : Nat → Int) : Prop := (0 ≤ v 0 ∧ v 0 ≤ 1000) ∧ (0 ≤ v 1 ∧ v 1 ≤ 240) ∧ (-300 ≤ v 2 ∧ v 2 ≤ 300) ∧ wOk v ∧ bOk v ∧ sOk v
/-! arithmetic -/
theorem td_b {a d K : Int} (hd : 0 < d) (h1 : -(K * d) ≤ a) (h2 : a ≤ K * d) : -K ≤ a.tdiv d ∧ a.tdiv d ≤ K := by
  rcases Int.le_total 0 a with h | h
  · rw [Int.tdiv_eq_ediv_of_nonneg h]
    have k0 : 0 ≤ K := by
      rcases Int.le_total 0 K with q | q
      · exact q
      · have : K * d ≤ 0 := Int.mul_nonpos_of_nonpos_of_nonneg q (Int.le_of_lt hd)
        have ha : a = 0 := by omega
        rcases Int.lt_or_eq_of_le q with q1 | q1
        · have : K * d < 0 := Int.mul_neg_of_neg_of_pos q1 hd
          omega
        · omega
    have e1 : 0 ≤ a / d := Int.ediv_nonneg h (Int.le_of_lt hd)
    have e2 : a / d ≤ K := Int.ediv_le_of_le_mul hd h2
    omega
  · have h9 : 0 ≤ -a := by omega
    have e0 : a.tdiv d = -((-a) / d) := by
      rw [← Int.tdiv_eq_ediv_of_nonneg h9, Int.neg_tdiv, Int.neg_neg]
    have k0 : 0 ≤ K := by
      rcases Int.le_total 0 K with q | q
      · exact q
      · rcases Int.lt_or_eq_of_le q with q1 | q1
        · have : K * d < 0 := Int.mul_neg_of_neg_of_pos q1 hd
          omega
        · omega
    have e1 : 0 ≤ (-a) / d := Int.ediv_nonneg h9 (Int.le_of_lt hd)
    have e2 : (-a) / d ≤ K := Int.ediv_le_of_le_mul hd (by omega)
    omega
theorem mul_b {a b A B : Int} (h1 : 0 ≤ a) (h2 : a ≤ A) (h3 : -B ≤ b) (h4 : b ≤ B) : -(A * B) ≤ a * b ∧ a * b ≤ A * B := by
  have hB : 0 ≤ B := by omega
  have e1 : a * b ≤ a * B := Int.mul_le_mul_of_nonneg_left h4 h1
  have e2 : a * B ≤ A * B := Int.mul_le_mul_of_nonneg_right h2 hB
  have e3 : a * (-B) ≤ a * b := Int.mul_le_mul_of_nonneg_left h3 h1
  rw [Int.mul_neg] at e3
  omega
theorem mul_nn {a b A B : Int} (h1 : 0 ≤ a) (h2 : a ≤ A) (h3 : 0 ≤ b) (h4 : b ≤ B) : 0 ≤ a * b ∧ a * b ≤ A * B := by
  have e1 : a * b ≤ a * B := Int.mul_le_mul_of_nonneg_left h4 h1
  have e2 : a * B ≤ A * B := Int.mul_le_mul_of_nonneg_right h2 (by omega)
  exact ⟨Int.mul_nonneg h1 h3, by omega⟩
theorem bow_in {h : Int} (h0 : 0 ≤ h) (h1 : h ≤ 1800) : 0 ≤ h * (1800 - h) ∧ h * (1800 - h) ≤ 810000 := by
  refine ⟨Int.mul_nonneg h0 (by omega), ?_⟩
  have q : 0 ≤ (h - 900) * (h - 900) := by
    rcases Int.le_total 0 (h - 900) with z | z
    · exact Int.mul_nonneg z z
    · exact Int.mul_nonneg_of_nonpos_of_nonpos z z
  simp only [Int.sub_mul, Int.mul_sub] at q ⊢
  omega
theorem bow_b {h : Int} (h0 : 0 ≤ h) (h1 : h ≤ 1800) : 0 ≤ bow h ∧ bow h ≤ 1000 := by
  obtain ⟨a, b⟩ := bow_in h0 h1
  unfold bow
  generalize h * (1800 - h) = y at a b ⊢
  rw [Int.tdiv_eq_ediv_of_nonneg (by omega)]
  exact ⟨Int.ediv_nonneg (by omega) (by omega), Int.ediv_le_of_le_mul (by omega) (by omega)⟩
theorem prt_b {x : Int} (h0 : 0 ≤ x) (h1 : x < 3600) : -1000 ≤ prt x ∧ prt x ≤ 1000 := by
  unfold prt
  split
  · have := bow_b (h := x) h0 (by omega); omega
  · have := bow_b (h := x - 1800) (by omega) (by omega); omega
theorem wx_b {a p : Int} (hp : 60 ≤ p ∧ p ≤ 2000) : 0 ≤ a % p ∧ a % p < p ∧ 0 ≤ ((a % p) * 3600).tdiv p ∧ ((a % p) * 3600).tdiv p < 3600 := by
  have h1 := Int.emod_nonneg a (show p ≠ 0 by omega)
  have h2 := Int.emod_lt_of_pos a (show 0 < p by omega)
  refine ⟨h1, h2, ?_⟩
  rw [Int.tdiv_eq_ediv_of_nonneg (by omega)]
  refine ⟨Int.ediv_nonneg (by omega) (by omega), Int.ediv_lt_of_lt_mul (by omega) ?_⟩
  have : (a % p) * 3600 < p * 3600 := Int.mul_lt_mul_of_pos_right h2 (by omega)
  omega
theorem wpt_b {t p l : Int} (hp : 60 ≤ p ∧ p ≤ 2000) : -1000 ≤ wpt t p l ∧ wpt t p l ≤ 1000 := by
  obtain ⟨_, _, h3, h4⟩ := wx_b (a := t - l) hp
  exact prt_b h3 h4
theorem wterm_b {v : Nat → Int} {t : Int} {k : Nat} (hv : wOk v) (hk : (k : Int) < v 3) : -400000 ≤ wv v k 0 * wpt t (wv v k 1) (wv v k 2) ∧ wv v k 0 * wpt t (wv v k 1) (wv v k 2) ≤ 400000 ∧ -400 ≤ (wv v k 0 * wpt t (wv v k 1) (wv v k 2)).tdiv 1000 ∧ (wv v k 0 * wpt t (wv v k 1) (wv v k 2)).tdiv 1000 ≤ 400 := by
  obtain ⟨a, b, -⟩ := hv.2 k hk
  have w := wpt_b (t := t) (l := wv v k 2) b
  have q := mul_b (A := 400) (B := 1000) a.1 a.2 w.1 w.2
  have r := td_b (d := 1000) (K := 400) (by omega) (a := wv v k 0 * wpt t (wv v k 1) (wv v k 2)) (by omega) (by omega)
  omega
theorem wsum_b {v : Nat → Int} {t : Int} (hv : wOk v) : ∀ k : Nat, (k : Int) ≤ v 3 → -400 * (k : Int) ≤ wsum v t k ∧ wsum v t k ≤ 400 * (k : Int) := by
  intro k
  induction k with
  | zero => intro _; exact ⟨by show (-400 : Int) * 0 ≤ 0; omega, by show (0 : Int) ≤ 400 * 0; omega⟩
  | succ k ih =>
    intro hk
    have h1 := ih (by omega)
    have h2 := wterm_b (t := t) hv (k := k) (by omega)
    show _ ≤ wsum v t k + _ ∧ wsum v t k + _ ≤ _
    omega
theorem ht_b {v : Nat → Int} {t : Int} (hv : vOk0 v) : -2700 ≤ ht v t ∧ ht v t ≤ 3700 := by
  obtain ⟨h0, -, h2, h3, -⟩ := hv
  have h31 := h3.1
  have := wsum_b (t := t) h3 (v 3).toNat (by omega)
  unfold ht
  omega
theorem wa_b {v : Nat → Int} {b : Nat} {t : Int} (hv : vOk0 v) (hb : (b : Int) < v 4) : -4000 ≤ wa v b t ∧ wa v b t ≤ 9000 ∧ -555000 ≤ ht v (t - br v b 3) * br v b 4 ∧ ht v (t - br v b 3) * br v b 4 ≤ 555000 := by
  have h1 := ht_b (t := t - br v b 3) hv
  obtain ⟨-, -, -, -, h4, -⟩ := hv
  obtain ⟨-, d, -, -, f, -⟩ := h4.2 b hb
  have q := mul_b (a := br v b 4) (b := ht v (t - br v b 3)) (A := 150) (B := 3700) (by omega) (by omega) (by omega) (by omega)
  rw [Int.mul_comm (br v b 4) (ht v (t - br v b 3))] at q
  have r := td_b (d := 100) (K := 5550) (by omega) (a := ht v (t - br v b 3) * br v b 4) (by omega) (by omega)
  unfold wa
  have r2 : -4050 ≤ (ht v (t - br v b 3) * br v b 4).tdiv 100 := by
    have q2 := mul_b (a := br v b 4) (b := ht v (t - br v b 3)) (A := 150) (B := 3700) (by omega) (by omega) (by omega) (by omega)
    have q3 : br v b 4 * (-2700) ≤ br v b 4 * ht v (t - br v b 3) := Int.mul_le_mul_of_nonneg_left h1.1 (by omega)
    rw [Int.mul_comm (br v b 4) (ht v (t - br v b 3))] at q3
    have r3 := td_b (d := 100) (K := 4050) (by omega) (a := min (ht v (t - br v b 3) * br v b 4) 0) (by omega) (by omega)
    rcases Int.le_total 0 (ht v (t - br v b 3) * br v b 4) with z | z
    · have := Int.tdiv_nonneg z (show (0:Int) ≤ 100 by omega); omega
    · rw [Int.min_eq_left z] at r3; omega
  omega
theorem tk_b {d s : Int} (hd : 0 ≤ d ∧ d ≤ 200) (hs : 4 ≤ s ∧ s ≤ 25) : 0 ≤ tk d s ∧ tk d s ≤ 300 := by
  unfold tk
  rw [Int.tdiv_eq_ediv_of_nonneg (by omega)]
  refine ⟨Int.ediv_nonneg (by omega) (by omega), ?_⟩
  have h : (6 * d + s - 1) / s < 301 := Int.ediv_lt_of_lt_mul (by omega) (by
    have : 301 * 4 ≤ 301 * s := by omega
    omega)
  omega
theorem tkl_b {d s : Int} (hd : 1 ≤ d ∧ d ≤ 20) (hs : 4 ≤ s ∧ s ≤ 25) : 1 ≤ tk d s ∧ tk d s ≤ 30 := by
  unfold tk
  rw [Int.tdiv_eq_ediv_of_nonneg (by omega)]
  refine ⟨Int.le_ediv_of_mul_le (by omega) (by omega), ?_⟩
  have h : (6 * d + s - 1) / s < 31 := Int.ediv_lt_of_lt_mul (by omega) (by
    have : 31 * 4 ≤ 31 * s := by omega
    omega)
  omega
end MA
