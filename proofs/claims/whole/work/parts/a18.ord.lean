section OD
/-! all lines of a set in the order of the alphabet, and the step from one to the next -/
def pl : Nat → Nat → List (List Nat)
  | 0, a => if a = 0 then [[]] else []
  | k + 1, a => if a = 0 then [[]] else (asL a).flatMap (fun u => (pl k (ac a u)).map (u :: ·))
def lg (l : List Nat) (j : Nat) : Nat := l.getD j 0
def fp (g : Nat → Nat) : Nat → Nat
  | 0 => 0
  | k + 1 => if g (k + 1) < g k then fp g k else k + 1
def fq (g : Nat → Nat) (i : Nat) : Nat → Nat
  | 0 => 0
  | k + 1 => if g i ≤ g (k + 1) then k + 1 else fq g i k
def swp (g : Nat → Nat) (i j : Nat) : Nat → Nat := fun q => if q = j then g i else if q = i then g j else g q
def rvs : Nat → (Nat → Nat) → Nat → Nat → (Nat → Nat)
  | 0, g, _, _ => g
  | k + 1, g, a, b => if a < b then rvs k (swp g a b) (a + 1) (b - 1) else g
def nxt (g : Nat → Nat) (N : Nat) : Nat → Nat := rvs 6 (swp g (fp g (N - 1) - 1) (fq g (fp g (N - 1) - 1) (N - 1))) (fp g (N - 1)) (N - 1)
def nxl (l : List Nat) : Option (List Nat) := if fp (lg l) (l.length - 1) = 0 then none else some ((List.range l.length).map (nxt (lg l) l.length))
def lxb : List Nat → List Nat → Bool
  | [], _ => true
  | _ :: _, [] => false
  | x :: xs, y :: ys => decide (x < y) || (decide (x = y) && lxb xs ys)
theorem lxb_l : ∀ l l' : List Nat, lxb l l' = true → lxl l l'
  | [], _, _ => trivial
  | _ :: _, [], h => by cases h
  | x :: xs, y :: ys, h => by
    simp only [lxb, Bool.or_eq_true, Bool.and_eq_true, decide_eq_true_eq] at h
    rcases h with h | ⟨h1, h2⟩
    · exact Or.inl h
    · exact Or.inr ⟨h1, lxb_l xs ys h2⟩
theorem lxl_rf : ∀ l : List Nat, lxl l l
  | [] => trivial
  | _ :: xs => Or.inr ⟨rfl, lxl_rf xs⟩
theorem lxl_tr : ∀ a b c : List Nat, lxl a b → lxl b c → lxl a c
  | [], _, _, _, _ => trivial
  | _ :: _, [], _, h, _ => by cases h
  | _ :: _, _ :: _, [], _, h => by cases h
  | x :: xs, y :: ys, z :: zs, h1, h2 => by
    rcases h1 with h1 | ⟨h1, h1'⟩ <;> rcases h2 with h2 | ⟨h2, h2'⟩
    · exact Or.inl (Nat.lt_trans h1 h2)
    · exact Or.inl (h2 ▸ h1)
    · exact Or.inl (h1 ▸ h2)
    · exact Or.inr ⟨h1.trans h2, lxl_tr xs ys zs h1' h2'⟩
def chn (a : Nat) : List (List Nat) → Bool
  | [] => true
  | [l] => (l.length == pcn a && l.all (fun u => decide (u < 6) && tb a u == 1)) && nxl l == none
  | l :: l' :: t => (l.length == pcn a && l.all (fun u => decide (u < 6) && tb a u == 1)) && nxl l == some l' && lxb l l' && chn a (l' :: t)
theorem chn_all : ∀ a : Nat, a < 64 → (chn a (pl 6 a) && (pl 6 a).head? == some (asL a)) = true := by decide +kernel
theorem chn_ap {a : Nat} {L : List (List Nat)} : ∀ pre, chn a (pre ++ L) = true → chn a L = true
  | [], h => h
  | [x], h => by
    cases L with
    | nil => rfl
    | cons l t =>
      simp only [List.cons_append, List.nil_append, chn, Bool.and_eq_true] at h
      exact h.2
  | x :: y :: pre, h => by
    simp only [List.cons_append, chn, Bool.and_eq_true] at h
    exact chn_ap (y :: pre) h.2
theorem chn_in {a : Nat} {l : List Nat} {t : List (List Nat)} (h : chn a (l :: t) = true) : inS a l := by
  have h1 : (l.length == pcn a && l.all (fun u => decide (u < 6) && tb a u == 1)) = true := by
    cases t with
    | nil => simp only [chn, Bool.and_eq_true] at h ⊢; exact h.1
    | cons l' t => simp only [chn, Bool.and_eq_true] at h ⊢; exact h.1.1.1
  simp only [Bool.and_eq_true, beq_iff_eq, List.all_eq_true, decide_eq_true_eq] at h1
  refine ⟨h1.1, fun q hq => ?_⟩
  rw [List.getD_eq_getElem?_getD, List.getElem?_eq_getElem hq]
  exact h1.2 _ (List.getElem_mem hq)
theorem chn_n {a : Nat} {l : List Nat} (h : chn a [l] = true) : nxl l = none := by
  simp only [chn, Bool.and_eq_true, beq_iff_eq] at h; exact h.2
theorem chn_s {a : Nat} {l l' : List Nat} {t : List (List Nat)} (h : chn a (l :: l' :: t) = true) : nxl l = some l' := by
  simp only [chn, Bool.and_eq_true, beq_iff_eq] at h; exact h.1.1.2
theorem chn_p {a : Nat} : ∀ L, chn a L = true → L.Pairwise lxl
  | [], _ => List.Pairwise.nil
  | [l], _ => List.pairwise_singleton _ _
  | l :: l' :: t, h => by
    simp only [chn, Bool.and_eq_true] at h
    have ih := chn_p (l' :: t) h.2
    refine List.Pairwise.cons (fun x hx => ?_) ih
    have h1 := lxb_l _ _ h.1.2
    rcases List.mem_cons.mp hx with e | e
    · exact e ▸ h1
    · exact lxl_tr _ _ _ h1 ((List.pairwise_cons.mp ih).1 x e)
theorem asL_m : ∀ a : Nat, a < 64 → ∀ u : Nat, u < 6 → tb a u = 1 → u ∈ asL a := by decide +kernel
theorem asL_n {a u : Nat} (h : u ∈ asL a) : u < 6 ∧ tb a u = 1 := by
  unfold asL at h
  simp at h
  omega
theorem pl_m : ∀ (k a : Nat) (l : List Nat), a < 64 → pcn a ≤ k → (l ∈ pl k a ↔ pmR a l) := by
  intro k
  induction k with
  | zero =>
    intro a l ha hk
    have h0 := (pcn_0 a ha).mp (by omega)
    subst h0
    simp only [pl, if_true, List.mem_singleton]
    cases l with
    | nil => simp [pmR]
    | cons u l =>
      simp only [pmR]
      constructor
      · intro h; cases h
      · rintro ⟨-, h, -⟩; rw [show tb 0 u = 0 by unfold tb; simp] at h; omega
  | succ k ih =>
    intro a l ha hk
    by_cases c : a = 0
    · subst c
      simp only [pl, if_true, List.mem_singleton]
      cases l with
      | nil => simp [pmR]
      | cons u l =>
        simp only [pmR]
        constructor
        · intro h; cases h
        · rintro ⟨-, h, -⟩; rw [show tb 0 u = 0 by unfold tb; simp] at h; omega
    · simp only [pl, if_neg c, List.mem_flatMap, List.mem_map]
      constructor
      · rintro ⟨u, hu, l', hl', rfl⟩
        obtain ⟨h1, h2⟩ := asL_n hu
        have := pcn_ac a ha u h1 h2
        exact ⟨h1, h2, (ih (ac a u) l' (ac_lt a ha u h1) (by omega)).mp hl'⟩
      · intro h
        cases l with
        | nil => exact absurd h c
        | cons u l' =>
          obtain ⟨h1, h2, h3⟩ := h
          have := pcn_ac a ha u h1 h2
          exact ⟨u, asL_m a ha u h1 h2, l', (ih (ac a u) l' (ac_lt a ha u h1) (by omega)).mpr h3, rfl⟩
theorem lnA_G {G : Nat → Nat → Prop} {gp : Nat} : ∀ (l : List Nat) (t : Nat), lnA G gp l t ↔ lnG G gp t l := by
  intro l
  induction l with
  | nil => intro t; exact ⟨fun _ => trivial, fun _ q hq => absurd hq (Nat.not_lt_zero q)⟩
  | cons u l ih =>
    intro t
    constructor
    · intro h
      refine ⟨by have := h 0 (by simp); simpa using this, (ih (t + gp)).mp (fun q hq => ?_)⟩
      have := h (q + 1) (by simp; omega)
      rw [show t + (q + 1) * gp = t + gp + q * gp by rw [Nat.add_mul]; omega] at this
      simpa using this
    · rintro ⟨h1, h2⟩ q hq
      cases q with
      | zero => simpa using h1
      | succ q =>
        have := (ih (t + gp)).mpr h2 q (by simp at hq; omega)
        rw [show t + (q + 1) * gp = t + gp + q * gp by rw [Nat.add_mul]; omega]
        simpa using this
/-- the best of the lines so far -/
def bsR (G : Nat → Nat → Prop) (gp N : Nat) (pre : List (List Nat)) (b : Int) (q : Nat → Int) : Prop :=
  (b = -1 ∧ ∀ l ∈ pre, ∀ t, t < 1440 → ¬ lnA G gp l t) ∨
  (∃ (i : Nat) (l0 : List Nat), b = (i : Int) ∧ i < 1440 ∧ l0 ∈ pre ∧ lnA G gp l0 i ∧ (∀ l ∈ pre, ∀ u, u < i → ¬ lnA G gp l u) ∧ (∀ l ∈ pre, lnA G gp l i → lxl l0 l) ∧ ∀ j, j < N → q j = (l0.getD j 0 : Int))
theorem bsR_b {G : Nat → Nat → Prop} {gp N : Nat} {pre : List (List Nat)} {b : Int} {q : Nat → Int} (h : bsR G gp N pre b q) : -1 ≤ b ∧ b < 1440 := by
  rcases h with ⟨h, -⟩ | ⟨i, l0, h1, h2, -⟩ <;> omega
theorem bsR_o {G : Nat → Nat → Prop} {gp a : Nat} {b : Int} {q : Nat → Int} (ha : a < 64) (h : bsR G gp (pcn a) (pl 6 a) b q) : ordR G gp a b q := by
  have hm : ∀ l, l ∈ pl 6 a ↔ pmR a l := fun l => pl_m 6 a l ha (pcn_6 a ha)
  rcases h with ⟨h1, h2⟩ | ⟨i, l0, h1, h2, h3, h4, h5, h6, h7⟩
  · exact Or.inr ⟨h1, fun u hu l' hl => h2 l' ((hm l').mpr hl.1) u hu ((lnA_G l' u).mpr hl.2)⟩
  · exact Or.inl ⟨i, l0, h2, h1, ⟨⟨(hm l0).mp h3, (lnA_G l0 i).mp h4⟩, fun l' hl => h6 l' ((hm l').mpr hl.1) ((lnA_G l' i).mpr hl.2)⟩, fun u hu l' hl => h5 l' ((hm l').mpr hl.1) u hu ((lnA_G l' u).mpr hl.2), h7⟩
/-- a line that is not better -/
theorem bsR_n {G : Nat → Nat → Prop} {gp N : Nat} {pre : List (List Nat)} {l : List Nat} {b r : Int} {q : Nat → Int} (h : bsR G gp N pre b q) (hp : ∀ l' ∈ pre, lxl l' l) (hr : dayR (lnA G gp l) r) (hn : r = -1 ∨ (b ≠ -1 ∧ b ≤ r)) : bsR G gp N (pre ++ [l]) b q := by
  have hno : ∀ u : Nat, (r = -1 ∨ (u : Int) < r) → u < 1440 → ¬ lnA G gp l u := by
    intro u hu h14
    rcases hr with ⟨t, g1, g2, g3, g4⟩ | ⟨g1, g2⟩
    · exact g3 u (by omega)
    · exact g1 u h14
  rcases h with ⟨h1, h2⟩ | ⟨i, l0, h1, h2, h3, h4, h5, h6, h7⟩
  · refine Or.inl ⟨h1, fun l' hl' t ht => ?_⟩
    rcases List.mem_append.mp hl' with e | e
    · exact h2 l' e t ht
    · rw [List.mem_singleton.mp e]; exact hno t (by omega) ht
  · refine Or.inr ⟨i, l0, h1, h2, List.mem_append_left _ h3, h4, fun l' hl' u hu => ?_, fun l' hl' hi => ?_, h7⟩
    · rcases List.mem_append.mp hl' with e | e
      · exact h5 l' e u hu
      · rw [List.mem_singleton.mp e]; exact hno u (by omega) (by omega)
    · rcases List.mem_append.mp hl' with e | e
      · exact h6 l' e hi
      · rw [List.mem_singleton.mp e]; exact hp l0 h3
/-- a line that is better -/
theorem bsR_y {G : Nat → Nat → Prop} {gp N : Nat} {pre : List (List Nat)} {l : List Nat} {b r : Int} {q q' : Nat → Int} (h : bsR G gp N pre b q) (hr : dayR (lnA G gp l) r) (h1 : r ≠ -1) (hn : b = -1 ∨ r < b) (hq : ∀ j, j < N → q' j = (l.getD j 0 : Int)) : bsR G gp N (pre ++ [l]) r q' := by
  rcases hr with ⟨t, g1, g2, g3, g4⟩ | ⟨g1, g2⟩
  · have hpre : ∀ l' ∈ pre, ∀ u, u ≤ t → ¬ lnA G gp l' u := by
      intro l' hl' u hu
      rcases h with ⟨e1, e2⟩ | ⟨i, l0, e1, e2, e3, e4, e5, e6, e7⟩
      · exact e2 l' hl' u (by omega)
      · exact e5 l' hl' u (by omega)
    refine Or.inr ⟨t, l, g4, g1, List.mem_append_right _ (List.mem_singleton.mpr rfl), g2, fun l' hl' u hu => ?_, fun l' hl' hi => ?_, hq⟩
    · rcases List.mem_append.mp hl' with e | e
      · exact hpre l' e u (by omega)
      · rw [List.mem_singleton.mp e]; exact g3 u hu
    · rcases List.mem_append.mp hl' with e | e
      · exact absurd hi (hpre l' e t (Nat.le_refl t))
      · rw [List.mem_singleton.mp e]; exact lxl_rf l
  · exact absurd g2 h1
end OD
