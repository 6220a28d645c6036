section TP
/-! the class and the model side by side -/
def tI (v : Nat → Int) (h : List (Nat → Int)) (f : Nat → Nat) (D : Nat → Nat × Nat) (n : Nat) (m : xM) : Prop :=
  cI v h f D n m ∧ mN v m ∧ mH h m ∧ (∃ p : Nat, p ≤ 600 ∧ m 40 6 = (p : Int) ∧ m 96 8 = (p : Int)) ∧ (m 79 = m 101 ∧ ∀ k, -128 ≤ m 101 k ∧ m 101 k ≤ 127) ∧ m 40 8 = m 96 13 ∧ ∀ q, q < 3 → m 40 (9 + q) = m 97 q
/-- what the model's refusals leave, what its answers leave -/
def mk0 (m m' : xM) : Prop := (∀ c, c < 96 ∨ 112 ≤ c ∨ c = 97 ∨ c = 98 ∨ c = 100 ∨ c = 101 ∨ c = 111 → m' c = m c) ∧ ∀ j, j = 0 ∨ j = 5 ∨ j = 8 ∨ j = 13 → m' 96 j = m 96 j
def mk2 (m m' : xM) : Prop := (∀ c, c < 96 ∨ 112 ≤ c ∨ c = 97 ∨ c = 101 ∨ c = 111 → m' c = m c) ∧ ∀ j, j = 0 ∨ j = 8 ∨ j = 13 → m' 96 j = m 96 j
theorem mk0.ag {S : List Nat} {m m' : xM} (h : ag S m m') (hS : ∀ c ∈ S, 98 < c ∧ c ≠ 100 ∧ c ≠ 101 ∧ c < 111) : mk0 m m' :=
  ⟨fun c hc => h c (fun z => by have := hS c z; omega), fun j _ => by rw [h 96 (fun z => by have := hS 96 z; omega)]⟩
theorem mk0.rf {m : xM} : mk0 m m := ⟨fun _ _ => rfl, fun _ _ => rfl⟩
def mR (rf : Int → Nat → Prop) (ok : Prop) (R : Int → Prop) (v : Nat → Int) (h : List (Nat → Int)) (m m' : xM) (r : Int) : Prop :=
  (∃ k q m1, rf k q ∧ mk0 (xu m 96 0 0) m1 ∧ m' = mrf m1 k q) ∨ (ok ∧ R r ∧ mk2 (xu m 96 0 0) m' ∧ mN v m' ∧ mH h m')
section A
variable {rf : Int → Nat → Prop} {ok : Prop} {R : Int → Prop} {S : List Nat} {m m' m1 m2 : xM} {r : Int} {v v' : Nat → Int} {h h' : List (Nat → Int)}
theorem mk0.two (a : mk0 m m') : mk2 m m' := ⟨fun c hc => a.1 c (by omega), fun j hj => a.2 j (by omega)⟩
theorem mk0.N (a : mk0 (xu m 96 0 0) m') (hN : mN v m) : mN v m' := fun k hk => by rw [a.1 98 (by omega), xu_ne (by omega)]; exact hN k hk
theorem mk0.H (a : mk0 (xu m 96 0 0) m') (hH : mH h m) : mH h m' := hH.ag (by rw [a.2 5 (by omega), xu_if, if_neg (by omega)]) (by rw [a.1 100 (by omega), xu_ne (by omega)])
theorem moR.mr (ho : moR rf ok R S m m' r) (hS : ∀ c ∈ S, 98 < c ∧ c ≠ 100 ∧ c ≠ 101 ∧ c < 111) (hN : mN v m) (hH : mH h m) : mR rf ok R v h m m' r := by
  rcases ho with ⟨k, q, h1, h2⟩ | ⟨h1, h2, h3⟩
  · exact Or.inl ⟨k, q, _, h1, mk0.rf, h2⟩
  · have := mk0.ag h3 hS
    exact Or.inr ⟨h1, h2, this.two, this.N hN, this.H hH⟩
theorem moR2.mr (ho : moR2 rf ok R S m m' r) (hS : ∀ c ∈ S, 98 < c ∧ c ≠ 100 ∧ c ≠ 101 ∧ c < 111) (hN : mN v m) (hH : mH h m) : mR rf ok R v h m m' r := by
  rcases ho with ⟨k, q, m1, h1, h2, h3⟩ | ⟨h1, h2, h3⟩
  · exact Or.inl ⟨k, q, m1, h1, mk0.ag h2 hS, h3⟩
  · have := mk0.ag h3 hS
    exact Or.inr ⟨h1, h2, this.two, this.N hN, this.H hH⟩
theorem moR3.mr (ho : moR3 rf ok R S m m' r) (hS : ∀ c ∈ S, 96 ≤ c ∧ c ≠ 97 ∧ c ≠ 98 ∧ c ≠ 100 ∧ c ≠ 101 ∧ c < 111) (hN : mN v m) (hH : mH h m) : mR rf ok R v h m m' r := by
  rcases ho with ⟨k, q, h1, h2⟩ | ⟨h1, h2, h3, h4⟩
  · exact Or.inl ⟨k, q, _, h1, mk0.rf, h2⟩
  · have : mk0 (xu m 96 0 0) m' := ⟨fun c hc => h3 c (fun z => by have := hS c z; omega), fun j hj => h4 j (by omega) (by omega)⟩
    exact Or.inr ⟨h1, h2, this.two, this.N hN, this.H hH⟩
theorem moA.mr (ho : moA rf ok R v' h' m m' r) : mR rf ok R v' h' m m' r := by
  rcases ho with ⟨k, q, m1, h1, h2, h3⟩ | ⟨h1, h2, h3, h4, h5, h6⟩
  · exact Or.inl ⟨k, q, m1, h1, mk0.ag h2 (by decide), h3⟩
  · exact Or.inr ⟨h1, h2, ⟨fun c hc => h3 c (by simp; omega), fun j hj => h4 j (by omega)⟩, h5, h6⟩
def uq (rf : Int → Nat → Prop) (ok : Prop) (R : Int → Prop) : Prop :=
  (∀ k q k' q', rf k q → rf k' q' → k = k' ∧ q = q') ∧ (∀ k q r, rf k q → ok → R r → False) ∧ (∀ r r', ok → R r → R r' → r = r') ∧ ∀ k q, rf k q → (1 ≤ k ∧ k ≤ 3) ∧ q < 3
end A
section B
variable {v v' : Nat → Int} {h h' : List (Nat → Int)} {f f' : Nat → Nat} {D D' : Nat → Nat × Nat} {n n' : Nat} {m m1 m2 : xM}
theorem cI.hi (hI : cI v h f D n m) (ho : ∀ c, c < 96 ∨ 112 ≤ c → m1 c = m c) : cI v h f D n m1 := by
  obtain ⟨i1, i2, i3, i5, i6, p, q1, q2, q3, q4, q5⟩ := hI
  obtain ⟨j0, j1, j2⟩ := i1
  have h41 : hA 41 v v f D m := ⟨j0, hC_41.mpr ⟨j1.1, j2⟩, j1.2.1.2, j1.2.2.1.1, i3.1⟩
  have hmv : ∀ c w, c < 90 → hA c w v f D m → hA c w v f D m1 := fun c w hc hh => hh.mv rfl rfl (ho _ (by omega)) (ho _ (by omega)) (ho _ (by omega)) (ho _ (by omega)) (fun y => ho _ (by omega)) (by rw [ho 40 (by omega)]; exact Int.le_refl _) (fun _ _ _ _ => rfl)
  obtain ⟨a1, a2, a3, a4, a5⟩ := hmv 41 v (by omega) h41
  obtain ⟨b1, b2⟩ := hC_41.mp a2
  refine ⟨⟨j0, ⟨b1, ⟨?_, a3⟩, by rw [ho 41 (by omega)]; exact j1.2.2.1, by rw [ho 86 (by omega)]; exact j1.2.2.2⟩, b2⟩, by rw [ho 40 (by omega)]; exact i2, by rw [ho 40 (by omega), ho 41 (by omega)]; exact i3, i5, i6, p, by rw [ho 45 (by omega)]; exact q1, q2, by rw [ho 45 (by omega)]; exact q3, q4, fun i hi => hmv _ _ (by omega) (q5 i hi)⟩
  rw [ho 86 (by omega), ho 87 (by omega)]; exact j1.2.1.1
theorem tI.N (hI : tI v h f D n m) {L : List Nat} (hk : kq L m m1) : mN v m1 := fun k hkk => by rw [hk.1 98 (by omega) (by omega)]; exact hI.2.1 k hkk
theorem tI.H (hI : tI v h f D n m) {L : List Nat} (hk : kq L m m1) : mH h m1 := hI.2.2.1.ag (by rw [hk.1 96 (by omega) (by omega)]) (by rw [hk.1 100 (by omega) (by omega)])
theorem tI_ref {k : Int} {q : Nat} (hI : tI v h f D n m) (hc : cI v h f' D' n' m1) (hk : kq [9 + q] m m1) (hu : m1 40 (9 + q) = m 40 (9 + q) + 1) (hq : q < 3) (h0 : mk0 (xu m1 96 0 0) m2) : tI v h f' D' n' (mrf m2 k q) ∧ mrf m2 k q 96 0 = k ∧ mrf m2 k q 40 = m1 40 := by
  obtain ⟨t1, t2, t3, ⟨p, t4, t5, t6⟩, t7, t8, t9⟩ := id hI
  have e : ∀ c, c ≠ 96 → c ≠ 97 → mrf m2 k q c = m2 c := fun c h1 h2 => by unfold mrf; rw [xu_ne h2, xu_ne h1]
  have e96 : ∀ j, j ≠ 0 → mrf m2 k q 96 j = m2 96 j := fun j hj => by unfold mrf; rw [xu_ne (by omega), xu_if, if_neg hj]
  have e1 : ∀ c, c < 96 ∨ 112 ≤ c ∨ c = 98 ∨ c = 100 ∨ c = 101 ∨ c = 111 → mrf m2 k q c = m1 c := fun c hc => by rw [e c (by omega) (by omega), h0.1 c (by omega), xu_ne (by omega)]
  have e2 : ∀ j, j = 5 ∨ j = 8 ∨ j = 13 → mrf m2 k q 96 j = m 96 j := fun j hj => by rw [e96 j (by omega), h0.2 j (by omega), xu_if, if_neg (by omega), hk.1 96 (by omega) (by omega)]
  refine ⟨⟨hc.hi (fun c hcc => e1 c (by omega)), fun j hj => by rw [e1 98 (by omega), hk.1 98 (by omega) (by omega)]; exact t2 j hj, t3.ag (e2 5 (by omega)) (by rw [e1 100 (by omega), hk.1 100 (by omega) (by omega)]), ⟨p, t4, by rw [e1 40 (by omega), hk.2.2 6 (by simp; omega)]; exact t5, by rw [e2 8 (by omega)]; exact t6⟩, ?_, ?_, fun q' hq' => ?_⟩, ?_, e1 40 (by omega)⟩
  · rw [e1 79 (by omega), e1 101 (by omega), hk.2.1, hk.1 101 (by omega) (by omega)]; exact t7
  · rw [e1 40 (by omega), e2 13 (by omega), hk.2.2 8 (by simp; omega)]; exact t8
  · have e97 : m2 97 = m 97 := by rw [h0.1 97 (by omega), xu_ne (by omega), hk.1 97 (by omega) (by omega)]
    rw [e1 40 (by omega)]
    unfold mrf
    rw [xu_if]
    by_cases c : q' = q
    · rw [if_pos c, c, hu, e97, t9 q hq]
    · rw [if_neg c, xu_ne (by omega), e97, hk.2.2 (9 + q') (by simp; omega)]; exact t9 q' hq'
  · unfold mrf; rw [xu_ne (by omega), xu_if, if_pos rfl]
theorem tI_ans (hI : tI v h f D n m) (hc : cI v' h' f' D' n' m1) (hk : kq [] m m1) (h0 : mk2 (xu m1 96 0 0) m2) (hN : mN v' m2) (hH : mH h' m2) : tI v' h' f' D' n' m2 ∧ m2 96 0 = 0 ∧ m2 111 = m1 111 ∧ m2 40 = m1 40 := by
  obtain ⟨t1, t2, t3, ⟨p, t4, t5, t6⟩, t7, t8, t9⟩ := id hI
  have e1 : ∀ c, c < 96 ∨ 112 ≤ c ∨ c = 97 ∨ c = 101 ∨ c = 111 → m2 c = m1 c := fun c hc => by rw [h0.1 c (by omega), xu_ne (by omega)]
  have e2 : ∀ j, j = 8 ∨ j = 13 → m2 96 j = m 96 j := fun j hj => by rw [h0.2 j (by omega), xu_if, if_neg (by omega), hk.1 96 (by omega) (by omega)]
  refine ⟨⟨hc.hi (fun c hcc => e1 c (by omega)), hN, hH, ⟨p, t4, by rw [e1 40 (by omega), hk.2.2 6 (by simp)]; exact t5, by rw [e2 8 (by omega)]; exact t6⟩, ?_, ?_, fun q' hq' => ?_⟩, ?_, e1 111 (by omega), e1 40 (by omega)⟩
  · rw [e1 79 (by omega), e1 101 (by omega), hk.2.1, hk.1 101 (by omega) (by omega)]; exact t7
  · rw [e1 40 (by omega), e2 13 (by omega), hk.2.2 8 (by simp)]; exact t8
  · rw [e1 40 (by omega), e1 97 (by omega), hk.2.2 (9 + q') (by simp), hk.1 97 (by omega) (by omega)]; exact t9 q' hq'
  · rw [h0.2 0 (by omega), xu_if, if_pos rfl]
/-- refused on both sides, or answered alike -/
theorem tw_ref {rf : Int → Nat → Prop} {ok : Prop} {R : Int → Prop} {k : Int} {q : Nat} {r : Int} (hu9 : uq rf ok R) (hr : rf k q) (hI : tI v h f D n m) (hc : cI v h f' D' n' m1) (hk : kq [9 + q] m m1) (hu : m1 40 (9 + q) = m 40 (9 + q) + 1) (ho : mR rf ok R v' h' m1 m2 r) : tI v h f' D' n' m2 ∧ m2 96 0 = k ∧ m2 40 = m1 40 := by
  rcases ho with ⟨k', q', m3, g1, g2, g3⟩ | ⟨g1, g2, -⟩
  · obtain ⟨rfl, rfl⟩ := hu9.1 _ _ _ _ hr g1
    rw [g3]
    exact tI_ref hI hc hk hu (hu9.2.2.2 _ _ hr).2 g2
  · exact (hu9.2.1 _ _ _ hr g1 g2).elim
theorem tw_ans {rf : Int → Nat → Prop} {ok : Prop} {R : Int → Prop} {r r' : Int} (hu9 : uq rf ok R) (hok : ok) (hR : R r) (hI : tI v h f D n m) (hc : cI v' h' f' D' n' m1) (hk : kq [] m m1) (ho : mR rf ok R v' h' m1 m2 r') : (tI v' h' f' D' n' m2 ∧ m2 96 0 = 0 ∧ m2 111 = m1 111 ∧ m2 40 = m1 40) ∧ r' = r := by
  rcases ho with ⟨k', q', m3, g1, g2, g3⟩ | ⟨g1, g2, g3, g4, g5⟩
  · exact (hu9.2.1 _ _ _ g1 hok hR).elim
  · exact ⟨tI_ans hI hc hk g3 g4 g5, hu9.2.2.1 _ _ hok g2 hR⟩
end B
section U
variable {p1 p2 p3 : Prop} {a b : Nat} {R : Int → Prop}
theorem uq1 (ha : a < 3) (hR : ∀ r r', p1 → R r → R r' → r = r') : uq (rf1 p1 a) p1 R := by
  refine ⟨?_, ?_, hR, ?_⟩
  · rintro k q k' q' ⟨-, rfl, rfl⟩ ⟨-, rfl, rfl⟩; exact ⟨rfl, rfl⟩
  · rintro k q r ⟨h, -⟩ h1 -; exact h h1
  · rintro k q ⟨-, rfl, rfl⟩; exact ⟨by omega, ha⟩
theorem uq2 (ha : a < 3) (hb : b < 3) (hR : ∀ r r', p1 ∧ p2 → R r → R r' → r = r') : uq (rf2 p1 p2 a b) (p1 ∧ p2) R := by
  refine ⟨?_, ?_, hR, ?_⟩
  · rintro k q k' q' (⟨h1, rfl, rfl⟩ | ⟨h1, h2, rfl, rfl⟩) (⟨h3, rfl, rfl⟩ | ⟨h3, h4, rfl, rfl⟩)
    · exact ⟨rfl, rfl⟩
    · exact absurd h3 h1
    · exact absurd h1 h3
    · exact ⟨rfl, rfl⟩
  · rintro k q r (⟨h1, -⟩ | ⟨-, h2, -⟩) h3 -
    · exact h1 h3.1
    · exact h2 h3.2
  · rintro k q (⟨-, rfl, rfl⟩ | ⟨-, -, rfl, rfl⟩)
    · exact ⟨by omega, ha⟩
    · exact ⟨by omega, hb⟩
theorem uq3 (hR : ∀ r r', p1 ∧ p2 ∧ p3 → R r → R r' → r = r') : uq (rf3 p1 p2 p3) (p1 ∧ p2 ∧ p3) R := by
  refine ⟨?_, ?_, hR, ?_⟩
  · rintro k q k' q' (⟨h1, rfl, rfl⟩ | ⟨h1, h2, rfl, rfl⟩ | ⟨h1, h2, h5, rfl, rfl⟩) (⟨h3, rfl, rfl⟩ | ⟨h3, h4, rfl, rfl⟩ | ⟨h3, h4, h6, rfl, rfl⟩) <;> first | exact ⟨rfl, rfl⟩ | contradiction
  · rintro k q r (⟨h1, -⟩ | ⟨-, h2, -⟩ | ⟨-, -, h2, -⟩) h3 -
    · exact h1 h3.1
    · exact h2 h3.2.1
    · exact h2 h3.2.2
  · rintro k q (⟨-, rfl, rfl⟩ | ⟨-, -, rfl, rfl⟩ | ⟨-, -, -, rfl, rfl⟩) <;> omega
theorem uqw {S : Nat → Prop} {M k w : Int} : uq (wrf p1 p2 S k w) (p1 ∧ p2) (wiR S M k w) := by
  refine ⟨?_, ?_, ?_, ?_⟩
  · rintro k1 q1 k' q' ((⟨h1, rfl, rfl⟩ | ⟨h1, h2, rfl, rfl⟩) | ⟨h1, h2, rfl, rfl⟩) ((⟨h3, rfl, rfl⟩ | ⟨h3, h4, rfl, rfl⟩) | ⟨h3, h4, rfl, rfl⟩) <;> first | exact ⟨rfl, rfl⟩ | contradiction | (exact absurd h3.1 h1) | (exact absurd h1.1 h3) | (exact absurd h3.2 h2) | (exact absurd h1.2 h4)
  · rintro k1 q1 r ((⟨h1, -⟩ | ⟨-, h2, -⟩) | ⟨-, h2, -⟩) h3 ⟨q, g1, g2, -⟩
    · exact h1 h3.1
    · exact h2 h3.2
    · exact g2 (wR_u g1 h2)
  · rintro r r' - ⟨q, g1, -, g3⟩ ⟨q', g4, -, g6⟩
    rw [g3, g6, wR_u g1 g4]
  · rintro k1 q1 ((⟨-, rfl, rfl⟩ | ⟨-, -, rfl, rfl⟩) | ⟨-, -, rfl, rfl⟩) <;> omega
end U
end TP
