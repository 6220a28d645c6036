section PS
/-- the i-th bar on the way; what it takes to it; one bar on by a speed; where a ship can be behind i bars -/
def bo (v : Nat → Int) (s i : Nat) : Nat := if sh v s 5 = 1 then (v 4).toNat - 1 - i else i
def fr (v : Nat → Int) (s i : Nat) (sp : Int) : Int := if sh v s 5 = 1 then (if i = 0 then 0 else tk (br v ((v 4).toNat - i) 0) sp) else tk (br v i 0) sp
def stp (v : Nat → Int) (s : Nat) (st : Int) (b : Nat) (sp tr : Int) (R : Nat → Prop) (t : Nat) : Prop :=
  t ≤ 1000 ∧ ∃ u w : Nat, (u : Int) + tk (br v b 2) sp = t ∧ pas v s (sh v s 0) b (st + u) sp ∧ R w ∧ ((w : Int) + tr = u ∨ (br v b 5 = 1 ∧ (w : Int) + tr ≤ u))
def cn (v : Nat → Int) (s : Nat) (st : Int) : Nat → Nat → Prop
  | 0, t => t = 0
  | i + 1, t => ∃ sp : Int, sh v s 3 ≤ sp ∧ sp ≤ sh v s 4 ∧ stp v s st (bo v s i) sp (fr v s i sp) (cn v s st i) t
/-- the first of these up to 1000; none -/
def fsR (R : Nat → Prop) (r : Int) : Prop := (∃ t : Nat, t ≤ 1000 ∧ R t ∧ (∀ u, u < t → ¬ R u) ∧ r = (t : Int)) ∨ ((∀ t, t ≤ 1000 → ¬ R t) ∧ r = -1)
theorem fsR_u {R : Nat → Prop} {a b : Int} (ha : fsR R a) (hb : fsR R b) : a = b := by
  rcases ha with ⟨t, a1, a2, a3, a4⟩ | ⟨a1, a2⟩
  · rcases hb with ⟨u, b1, b2, b3, b4⟩ | ⟨b1, b2⟩
    · rcases (by omega : t < u ∨ t = u ∨ u < t) with q | q | q
      · exact absurd a2 (b3 t q)
      · omega
      · exact absurd b2 (a3 u q)
    · exact absurd a2 (b1 t a1)
  · rcases hb with ⟨u, b1, b2, b3, b4⟩ | ⟨b1, b2⟩
    · exact absurd b2 (a1 u b1)
    · omega
theorem fsR_b {R : Nat → Prop} {a : Int} (ha : fsR R a) : -1 ≤ a ∧ a ≤ 1000 := by
  rcases ha with ⟨t, a1, a2, a3, a4⟩ | ⟨a1, a2⟩ <;> omega
theorem cn_no {v : Nat → Int} {s : Nat} {st : Int} {i : Nat} (h : ∀ t, ¬ cn v s st i t) : ∀ j t, ¬ cn v s st (i + j) t := by
  intro j
  induction j with
  | zero => exact h
  | succ j ih =>
    rintro t ⟨sp, -, -, -, u, w, -, -, z, -⟩
    exact ih w z
theorem cn_1000 {v : Nat → Int} {s : Nat} {st : Int} {i t : Nat} (h : cn v s st i t) : t ≤ 1000 := by
  cases i with
  | zero => have : t = 0 := h; omega
  | succ i => obtain ⟨sp, -, -, q, -⟩ := h; exact q
theorem bo_b {v : Nat → Int} {s i : Nat} (h : 0 ≤ v 4) (hi : (i : Int) < v 4) : ((bo v s i : Nat) : Int) < v 4 := by unfold bo; split <;> omega
theorem fr_b {v : Nat → Int} {s i : Nat} {sp : Int} (hv : bOk v) (hs : 4 ≤ sp ∧ sp ≤ 25) (hi : (i : Int) < v 4) : 0 ≤ fr v s i sp ∧ fr v s i sp ≤ 300 := by
  have h4 := hv.1
  unfold fr
  split
  · split
    · omega
    · have := sg_b hv (p := (v 4).toNat - i) (by omega) hs; omega
  · have := sg_b hv hi hs; omega
set_option maxRecDepth 20000 in
theorem s_firstReached {E : xE} {f : Nat → Nat} {D : Nat → Nat × Nat} {n : Nat} {m : xM} {P : xPo} {PX : xPx} {R : Nat → Prop} (hR : ∀ i, i ≤ 1000 → m 93 i = zi (R i)) (hP : ∀ r, fsR R r → P (some (vi r)) (gS f D n) m) : xC E (yX2_firstReached, cX2_firstReached, 2, some .int) 0 0 0 [vr E 88] (gS f D n) m P PX := by
  refine x_enter (by decide) rfl rfl (Nat.le_of_ble_eq_true rfl) ?_
  have loop : ∀ (j i : Nat), 1001 < i + j → i ≤ 1001 → (∀ u, u < i → ¬ R u) → xX E (("firstReached", some .int, []), (0, 0, 0), P, PX) RX2 cX2_firstReached 2 0 0 2 [(0, vr E 88), (1, vi (i : Int))] [] (gS f D n) m := by
    intro j
    induction j with
    | zero => intro i h1 h2; omega
    | succ j ih =>
      intro i h1 h2 hn
      refine x_iload_n dX2_firstReached_2 rfl ?_
      refine x_aload_n dX2_firstReached_3 rfl ?_
      refine x_getR (r := 93) fX2_25 dX2_firstReached_4 rfl rfl ?_
      refine x_alen (t := 7) (N := 1001) dX2_firstReached_7 rfl (by decide) rfl ?_
      refine x_icmp_ge (tgt := 28) dX2_firstReached_8 (by decide) (by omega) (fun h8 => ?_) (fun h8 => ?_)
      · refine x_iconst dX2_firstReached_28 ?_
        exact x_iret dX2_firstReached_29  (hP (-1) (Or.inr ⟨fun t ht => hn t (by omega), rfl⟩))
      · refine x_aload_n dX2_firstReached_11 rfl ?_
        refine x_getR (r := 93) fX2_25 dX2_firstReached_12 rfl rfl ?_
        refine x_iload_n dX2_firstReached_15 rfl ?_
        refine x_bald (j := i) dX2_firstReached_16 rfl (by omega) (show _ < 1001 by omega) (by omega) ?_
        refine x_top (hR i (by omega)) ?_
        refine x_if_eq (tgt := 22) dX2_firstReached_17 (by decide) (zi_r _) (fun h17 => ?_) (fun h17 => ?_)
        · have hx := zi_0.mp h17
          refine x_iinc dX2_firstReached_22 rfl ?_
          refine x_goto (tgt := 2) dX2_firstReached_25 (by decide) ?_
          exact x_loc (lv' := [(0, vr E 88), (1, vi ((i + 1 : Nat) : Int))]) ⟨rfl, xl_i rfl (by omega), trivial⟩ (ih (i + 1) (by omega) (by omega) (fun u hu => by rcases (by omega : u < i ∨ u = i) with z | z; exact hn u z; exact z ▸ hx))
        · have hx := zi_1.mp h17
          refine x_iload_n dX2_firstReached_20 rfl ?_
          exact x_iret dX2_firstReached_21  (hP i (Or.inl ⟨i, by omega, hx, hn, rfl⟩))
  refine x_iconst dX2_firstReached_0 ?_
  refine x_istore_n dX2_firstReached_1 ?_
  exact x_loc (lv' := [(0, vr E 88), (1, vi ((0 : Nat) : Int))]) ⟨rfl, rfl, trivial⟩ (loop 1002 0 (by omega) (by omega) (fun u hu => absurd hu (Nat.not_lt_zero u)))

def stq (v : Nat → Int) (s : Nat) (st : Int) (b : Nat) (sp : Int) (tr : Nat) (R : Nat → Prop) (u : Nat) : Prop := pas v s (sh v s 0) b (st + u) sp ∧ (br v b 5 = 1 ∨ R (u - tr))
theorem stq_all {v : Nat → Int} {s : Nat} {st : Int} {b : Nat} {sp : Int} {tr e i : Nat} {R : Nat → Prop} {t : Nat} (he : R e) (hm : ∀ u, u < e → ¬ R u) (ht : t ≤ 1000) (hi : 1000 < (i : Int) + tk (br v b 2) sp) :
    (∃ u : Nat, e + tr ≤ u ∧ u < i ∧ (u : Int) + tk (br v b 2) sp = t ∧ stq v s st b sp tr R u) ↔ stp v s st b sp (tr : Int) R t := by
  constructor
  · rintro ⟨u, h1, h2, h3, h4, h5⟩
    refine ⟨ht, ?_⟩
    rcases h5 with q | q
    · exact ⟨u, e, h3, h4, he, Or.inr ⟨q, by omega⟩⟩
    · exact ⟨u, u - tr, h3, h4, q, Or.inl (by omega)⟩
  · rintro ⟨-, u, w, h1, h2, h3, h4⟩
    have hw : e ≤ w := by
      rcases (by omega : w < e ∨ e ≤ w) with z | z
      · exact absurd h3 (hm w z)
      · exact z
    refine ⟨u, ?_, ?_, h1, h2, ?_⟩
    · rcases h4 with z | z <;> omega
    · omega
    · rcases h4 with z | z
      · exact Or.inr (by rw [show u - tr = w by omega]; exact h3)
      · exact Or.inl z.1
theorem st_no {m1 : xM} {v : Nat → Int} {s : Nat} {st : Int} {b : Nat} {sp : Int} {tr e i : Nat} {R N : Nat → Prop} (hn : ∀ t, t ≤ 1000 → m1 94 t = zi (N t ∨ ∃ u : Nat, e + tr ≤ u ∧ u < i ∧ (u : Int) + tk (br v b 2) sp = t ∧ stq v s st b sp tr R u)) (h : ¬ stq v s st b sp tr R i) : ∀ t, t ≤ 1000 → m1 94 t = zi (N t ∨ ∃ u : Nat, e + tr ≤ u ∧ u < i + 1 ∧ (u : Int) + tk (br v b 2) sp = t ∧ stq v s st b sp tr R u) := by
  intro t ht
  rw [hn t ht]
  refine zi_c (or_congr Iff.rfl ⟨fun ⟨u, h1, h2, h3, h4⟩ => ⟨u, h1, by omega, h3, h4⟩, fun ⟨u, h1, h2, h3, h4⟩ => ⟨u, h1, ?_, h3, h4⟩⟩)
  rcases (by omega : u < i ∨ u = i) with z | z
  · exact z
  · exact absurd (z ▸ h4) h
theorem st_yes {m1 m2 : xM} {v : Nat → Int} {s : Nat} {st : Int} {b : Nat} {sp : Int} {tr e i j : Nat} {R N : Nat → Prop} (hn : ∀ t, t ≤ 1000 → m1 94 t = zi (N t ∨ ∃ u : Nat, e + tr ≤ u ∧ u < i ∧ (u : Int) + tk (br v b 2) sp = t ∧ stq v s st b sp tr R u)) (hj : (i : Int) + tk (br v b 2) sp = (j : Int)) (hei : e + tr ≤ i) (h : stq v s st b sp tr R i) (h2 : ∀ t, m2 94 t = if t = j then 1 else m1 94 t) : ∀ t, t ≤ 1000 → m2 94 t = zi (N t ∨ ∃ u : Nat, e + tr ≤ u ∧ u < i + 1 ∧ (u : Int) + tk (br v b 2) sp = t ∧ stq v s st b sp tr R u) := by
  intro t ht
  rw [h2 t]
  by_cases c : t = j
  · rw [if_pos c]
    exact (zi_t (Or.inr ⟨i, hei, by omega, by omega, h⟩)).symm
  · rw [if_neg c, hn t ht]
    refine zi_c (or_congr Iff.rfl ⟨fun ⟨u, h1, h2, h3, h4⟩ => ⟨u, h1, by omega, h3, h4⟩, fun ⟨u, h1, h2, h3, h4⟩ => ⟨u, h1, ?_, h3, h4⟩⟩)
    rcases (by omega : u < i ∨ u = i) with z | z
    · exact z
    · subst z; omega
set_option maxRecDepth 20000 in
theorem s_reachBehind {E : xE} {f : Nat → Nat} {D : Nat → Nat × Nat} {n : Nat} {m : xM} {P : xPo} {PX : xPx} {v : Nat → Int} {s b tr e : Nat} {st sp : Int} {R N : Nat → Prop} (hE : eOk E) (hV : cV v f D m) (hs : (s : Int) < v 5) (hb : (b : Int) < v 4) (hsp : 4 ≤ sp ∧ sp ≤ 25) (hst : 0 ≤ st ∧ st ≤ 10000) (htr : tr ≤ 300) (he : R e) (hm : ∀ u, u < e → ¬ R u) (he9 : e ≤ 1000)
    (hq : ∀ i : Nat, i < 1001 → m 90 i = wa v b (st + i)) (hR : ∀ i, i ≤ 1000 → m 93 i = zi (R i)) (hN : ∀ i, i ≤ 1000 → m 94 i = zi (N i)) (hP : ∀ m', ag [89, 91, 94] m m' → (∀ t, t ≤ 1000 → m' 94 t = zi (N t ∨ stp v s st b sp (tr : Int) R t)) → P none (gS f D n) m') : xC E (yX2_reachBehind, cX2_reachBehind, 10, none) 4 0 0 [vr E 88, vi (s : Int), vi (b : Int), vi sp, vi (tr : Int), vi (e : Int)] (gS f D n) m P PX := by
  refine x_enter (by decide) rfl rfl (Nat.le_of_ble_eq_true rfl) ?_
  have hv5 := hV.1.1.2.2.2.2.2.1
  have hv4 := hV.1.1.2.2.2.2.1.1
  have hsg := sg_b hV.1.1.2.2.2.2.1 hb hsp
  obtain ⟨L, hL9⟩ : ∃ L : Nat, tk (br v b 2) sp = (L : Int) := ⟨(tk (br v b 2) sp).toNat, by omega⟩
  have hli9 := (hV.1.1.2.2.2.2.1.2 b hb).2.2.2.2.2
  have loop : ∀ (j i : Nat) (m1 : xM), 1300 < i + j → i ≤ 1300 → e + tr ≤ i → ag [89, 91, 94] m m1 → rnR v s sp (m 90) (e + tr) 1001 (m1 91) → (∀ t, t ≤ 1000 → m1 94 t = zi (N t ∨ ∃ u : Nat, e + tr ≤ u ∧ u < i ∧ (u : Int) + tk (br v b 2) sp = t ∧ stq v s st b sp tr R u)) → xX E (("reachBehind", none, []), (4, 0, 0), P, PX) RX2 cX2_reachBehind 10 0 0 53 [(0, vr E 88), (1, vi (s : Int)), (2, vi (b : Int)), (3, vi sp), (4, vi (tr : Int)), (5, vi (e : Int)), (6, vi (tk (br v b 2) sp)), (7, vi (zi (br v b 5 = 1))), (8, vi ((e + tr : Nat) : Int)), (9, vi (i : Int))] [] (gS f D n) m1 := by
    intro j
    induction j with
    | zero => intro i m1 h1 h2; omega
    | succ j ih =>
      intro i m1 h1 h2 h0 ha1 hrn hn
      refine x_iload dX2_reachBehind_53 rfl ?_
      refine x_iload dX2_reachBehind_55 rfl ?_
      refine x_iadd dX2_reachBehind_57 ?_
      refine x_sipush dX2_reachBehind_58 (h := ?_)
      refine x_icmp_gt (tgt := 111) dX2_reachBehind_61 (by decide) (by omega) (fun h61 => ?_) (fun h61 => ?_)
      · exact x_vret dX2_reachBehind_111 (hP m1 ha1 (fun t ht => by
        rw [hn t ht]
        exact zi_c (or_congr Iff.rfl (stq_all he hm ht (by omega)))))
      · have hri := hrn i (by omega) (by omega)
        have hpas : (tk (br v b 2) sp) < m1 91 i ↔ pas v s (sh v s 0) b (st + i) sp := by
          rw [hL9, hri.2 L]
          refine ⟨fun z k hk => ?_, fun z => ⟨by omega, fun k hk => ?_⟩⟩
          · have := z.2 k (by omega)
            rw [hq (i + k) (by omega)] at this
            rw [show st + (i : Int) + (k : Int) = st + ((i + k : Nat) : Int) by omega]
            exact this
          · rw [hq (i + k) (by omega), show st + ((i + k : Nat) : Int) = st + (i : Int) + (k : Int) by omega]
            exact z k (by omega)
        refine x_aload_n dX2_reachBehind_64 rfl ?_
        refine x_getR (r := 91) fX2_19 dX2_reachBehind_65 rfl rfl ?_
        refine x_iload dX2_reachBehind_68 rfl ?_
        refine x_iald (j := i) dX2_reachBehind_70 rfl (by omega) (show _ < 2670 by omega) (by omega) ?_
        refine x_iload dX2_reachBehind_71 rfl ?_
        refine x_icmp_le (tgt := 105) dX2_reachBehind_73 (by decide) (by have := hri.1; omega) (fun h73 => ?_) (fun h73 => ?_)
        · refine x_iinc dX2_reachBehind_105 rfl ?_
          refine x_goto (tgt := 53) dX2_reachBehind_108 (by decide) ?_
          refine x_loc (lv' := [(0, vr E 88), (1, vi (s : Int)), (2, vi (b : Int)), (3, vi sp), (4, vi (tr : Int)), (5, vi (e : Int)), (6, vi (tk (br v b 2) sp)), (7, vi (zi (br v b 5 = 1))), (8, vi ((e + tr : Nat) : Int)), (9, vi ((i + 1 : Nat) : Int))]) ⟨rfl, rfl, rfl, rfl, rfl, rfl, rfl, rfl, rfl, xl_i rfl (by omega), trivial⟩ (ih (i + 1) m1 (by omega) (by omega) (by omega) ha1 hrn (st_no hn (fun z => absurd (hpas.mpr z.1) (by omega))))
        · refine x_iload dX2_reachBehind_76 rfl ?_
          refine x_if_ne (tgt := 94) dX2_reachBehind_78 (by decide) (zi_r _) (fun h78 => ?_) (fun h78 => ?_)
          · have hli := zi_1.mp h78
            refine x_aload_n dX2_reachBehind_94 rfl ?_
            refine x_getR (r := 94) fX2_29 dX2_reachBehind_95 rfl rfl ?_
            refine x_iload dX2_reachBehind_98 rfl ?_
            refine x_iload dX2_reachBehind_100 rfl ?_
            refine x_iadd dX2_reachBehind_102 ?_
            refine x_iconst dX2_reachBehind_103 ?_
            refine x_bast (j := i + L) dX2_reachBehind_104 rfl (by decide) (by omega) (show _ < 1001 by omega) (by omega) (by omega) ?_
            refine x_iinc dX2_reachBehind_105 rfl ?_
            refine x_goto (tgt := 53) dX2_reachBehind_108 (by decide) ?_
            refine x_loc (lv' := [(0, vr E 88), (1, vi (s : Int)), (2, vi (b : Int)), (3, vi sp), (4, vi (tr : Int)), (5, vi (e : Int)), (6, vi (tk (br v b 2) sp)), (7, vi (zi (br v b 5 = 1))), (8, vi ((e + tr : Nat) : Int)), (9, vi ((i + 1 : Nat) : Int))]) ⟨rfl, rfl, rfl, rfl, rfl, rfl, rfl, rfl, rfl, xl_i rfl (by omega), trivial⟩ (ih (i + 1) _ (by omega) (by omega) (by omega) (ha1.u (by decide)) (by rw [xu_ne (by decide)]; exact hrn) (st_yes (j := i + L) hn (by omega) (by omega) ⟨hpas.mp (by omega), Or.inl hli⟩ (fun t => by rw [xu_if])))
          · have hnl := zi_0.mp h78
            refine x_aload_n dX2_reachBehind_81 rfl ?_
            refine x_getR (r := 93) fX2_25 dX2_reachBehind_82 rfl rfl ?_
            refine x_iload dX2_reachBehind_85 rfl ?_
            refine x_iload dX2_reachBehind_87 rfl ?_
            refine x_isub dX2_reachBehind_89 ?_
            refine x_bald (j := i - tr) dX2_reachBehind_90 rfl (by omega) (show _ < 1001 by omega) (by omega) ?_
            refine x_top (show m1 93 (i - tr) = zi (R (i - tr)) by rw [ha1 93 (by decide)]; exact hR (i - tr) (by omega)) ?_
            refine x_if_eq (tgt := 105) dX2_reachBehind_91 (by decide) (zi_r _) (fun h91 => ?_) (fun h91 => ?_)
            · have hx := zi_0.mp h91
              refine x_iinc dX2_reachBehind_105 rfl ?_
              refine x_goto (tgt := 53) dX2_reachBehind_108 (by decide) ?_
              refine x_loc (lv' := [(0, vr E 88), (1, vi (s : Int)), (2, vi (b : Int)), (3, vi sp), (4, vi (tr : Int)), (5, vi (e : Int)), (6, vi (tk (br v b 2) sp)), (7, vi (zi (br v b 5 = 1))), (8, vi ((e + tr : Nat) : Int)), (9, vi ((i + 1 : Nat) : Int))]) ⟨rfl, rfl, rfl, rfl, rfl, rfl, rfl, rfl, rfl, xl_i rfl (by omega), trivial⟩ (ih (i + 1) m1 (by omega) (by omega) (by omega) ha1 hrn (st_no hn (fun z => z.2.elim hnl hx)))
            · have hx := zi_1.mp h91
              refine x_aload_n dX2_reachBehind_94 rfl ?_
              refine x_getR (r := 94) fX2_29 dX2_reachBehind_95 rfl rfl ?_
              refine x_iload dX2_reachBehind_98 rfl ?_
              refine x_iload dX2_reachBehind_100 rfl ?_
              refine x_iadd dX2_reachBehind_102 ?_
              refine x_iconst dX2_reachBehind_103 ?_
              refine x_bast (j := i + L) dX2_reachBehind_104 rfl (by decide) (by omega) (show _ < 1001 by omega) (by omega) (by omega) ?_
              refine x_iinc dX2_reachBehind_105 rfl ?_
              refine x_goto (tgt := 53) dX2_reachBehind_108 (by decide) ?_
              refine x_loc (lv' := [(0, vr E 88), (1, vi (s : Int)), (2, vi (b : Int)), (3, vi sp), (4, vi (tr : Int)), (5, vi (e : Int)), (6, vi (tk (br v b 2) sp)), (7, vi (zi (br v b 5 = 1))), (8, vi ((e + tr : Nat) : Int)), (9, vi ((i + 1 : Nat) : Int))]) ⟨rfl, rfl, rfl, rfl, rfl, rfl, rfl, rfl, rfl, xl_i rfl (by omega), trivial⟩ (ih (i + 1) _ (by omega) (by omega) (by omega) (ha1.u (by decide)) (by rw [xu_ne (by decide)]; exact hrn) (st_yes (j := i + L) hn (by omega) (by omega) ⟨hpas.mp (by omega), Or.inr hx⟩ (fun t => by rw [xu_if])))
  refine x_aload_n dX2_reachBehind_0 rfl ?_
  refine x_getR (r := 41) fX2_35 dX2_reachBehind_1 rfl rfl ?_
  refine x_iload_n dX2_reachBehind_4 rfl ?_
  refine x_iload_n dX2_reachBehind_5 rfl ?_
  refine x_V2 mX2_103 dX2_reachBehind_6 rfl (s_lengthTime hV.1.1.2.2.2.2.1 hV.2.1.1.2.2.1 hb hsp ?_)
  refine x_istore dX2_reachBehind_9 ?_
  refine x_aload_n dX2_reachBehind_11 rfl ?_
  refine x_getR (r := 41) fX2_35 dX2_reachBehind_12 rfl rfl ?_
  refine x_iload_n dX2_reachBehind_15 rfl ?_
  refine x_iconst dX2_reachBehind_16 ?_
  refine x_V2 mX2_166 dX2_reachBehind_17 rfl (s_barOf (6 * b + 5) (by omega) (by omega) ?_)
  refine x_top (hV.2.1.1.2.2.1.b hb (by omega)) ?_
  refine x_iconst dX2_reachBehind_20 ?_
  refine x_icmp_ne (tgt := 28) dX2_reachBehind_21 (by decide) (by omega) (fun h21 => ?_) (fun h21 => ?_)
  · refine x_iconst dX2_reachBehind_28 ?_
    refine x_top ((zi_f h21).symm) ?_
    refine x_istore dX2_reachBehind_29 ?_
    refine x_iload dX2_reachBehind_31 rfl ?_
    refine x_iload dX2_reachBehind_33 rfl ?_
    refine x_iadd dX2_reachBehind_35 ?_
    refine x_top (show (e : Int) + (tr : Int) = ((e + tr : Nat) : Int) by omega) ?_
    refine x_istore dX2_reachBehind_36 ?_
    refine x_aload_n dX2_reachBehind_38 rfl ?_
    refine x_iload_n dX2_reachBehind_39 rfl ?_
    refine x_iload_n dX2_reachBehind_40 rfl ?_
    refine x_iload dX2_reachBehind_41 rfl ?_
    refine x_sipush dX2_reachBehind_43 (h := ?_)
    refine x_top (show (1001 : Int) = ((1001 : Nat) : Int) by omega) ?_
    refine x_V4 mX2_136 dX2_reachBehind_46 rfl (s_fillRuns hE hV hs hsp (by omega) (by omega) (fun i hi => by rw [hq i hi]; have := wa_b (t := st + i) hV.1.1 hb; omega) (fun m1 ha1 hrn => ?_))
    refine x_iload dX2_reachBehind_49 rfl ?_
    refine x_istore dX2_reachBehind_51 ?_
    refine x_loc (lv' := [(0, vr E 88), (1, vi (s : Int)), (2, vi (b : Int)), (3, vi sp), (4, vi (tr : Int)), (5, vi (e : Int)), (6, vi (tk (br v b 2) sp)), (7, vi (zi (br v b 5 = 1))), (8, vi ((e + tr : Nat) : Int)), (9, vi ((e + tr : Nat) : Int))]) ⟨rfl, rfl, rfl, rfl, rfl, rfl, rfl, rfl, rfl, rfl, trivial⟩ (loop 2000 (e + tr) m1 (by omega) (by omega) (by omega) (ha1.wk (by decide)) hrn (fun t ht => ?_))
    rw [ha1 94 (by decide), hN t ht]
    exact zi_c ⟨Or.inl, fun z => z.elim id (fun ⟨u, h1, h2, _⟩ => by omega)⟩
  · refine x_iconst dX2_reachBehind_24 ?_
    refine x_goto (tgt := 29) dX2_reachBehind_25 (by decide) ?_
    refine x_top ((zi_t (by omega)).symm) ?_
    refine x_istore dX2_reachBehind_29 ?_
    refine x_iload dX2_reachBehind_31 rfl ?_
    refine x_iload dX2_reachBehind_33 rfl ?_
    refine x_iadd dX2_reachBehind_35 ?_
    refine x_top (show (e : Int) + (tr : Int) = ((e + tr : Nat) : Int) by omega) ?_
    refine x_istore dX2_reachBehind_36 ?_
    refine x_aload_n dX2_reachBehind_38 rfl ?_
    refine x_iload_n dX2_reachBehind_39 rfl ?_
    refine x_iload_n dX2_reachBehind_40 rfl ?_
    refine x_iload dX2_reachBehind_41 rfl ?_
    refine x_sipush dX2_reachBehind_43 (h := ?_)
    refine x_top (show (1001 : Int) = ((1001 : Nat) : Int) by omega) ?_
    refine x_V4 mX2_136 dX2_reachBehind_46 rfl (s_fillRuns hE hV hs hsp (by omega) (by omega) (fun i hi => by rw [hq i hi]; have := wa_b (t := st + i) hV.1.1 hb; omega) (fun m1 ha1 hrn => ?_))
    refine x_iload dX2_reachBehind_49 rfl ?_
    refine x_istore dX2_reachBehind_51 ?_
    refine x_loc (lv' := [(0, vr E 88), (1, vi (s : Int)), (2, vi (b : Int)), (3, vi sp), (4, vi (tr : Int)), (5, vi (e : Int)), (6, vi (tk (br v b 2) sp)), (7, vi (zi (br v b 5 = 1))), (8, vi ((e + tr : Nat) : Int)), (9, vi ((e + tr : Nat) : Int))]) ⟨rfl, rfl, rfl, rfl, rfl, rfl, rfl, rfl, rfl, rfl, trivial⟩ (loop 2000 (e + tr) m1 (by omega) (by omega) (by omega) (ha1.wk (by decide)) hrn (fun t ht => ?_))
    rw [ha1 94 (by decide), hN t ht]
    exact zi_c ⟨Or.inl, fun z => z.elim id (fun ⟨u, h1, h2, _⟩ => by omega)⟩

set_option maxRecDepth 20000 in
theorem soon_in {E : xE} {f : Nat → Nat} {D : Nat → Nat × Nat} {n : Nat} {m : xM} {P : xPo} {PX : xPx} {v : Nat → Int} {s i e : Nat} {st : Int} (hE : eOk E) (hV : cV v f D m) (hs : (s : Int) < v 5) (hi : (i : Int) < v 4) (hst : 0 ≤ st ∧ st ≤ 10000) (he : cn v s st i e) (hm : ∀ u, u < e → ¬ cn v s st i u) (he9 : e ≤ 1000)
    (hK : ∀ m2, ag [86, 87, 89, 90, 91, 93, 94] m m2 → cT v m2 → (∀ t, t ≤ 1000 → m2 93 t = zi (cn v s st i t)) → (∀ t, t ≤ 1000 → m2 94 t = zi (cn v s st (i + 1) t)) → xX E (("soonestEnd", some .int, []), (5, 0, 0), P, PX) RX2 cX2_soonestEnd 9 0 0 186 [(0, vr E 88), (1, vi (s : Int)), (2, vi st), (3, vi (zi (sh v s 5 = 1))), (4, vi (e : Int)), (5, vi (i : Int)), (6, vi ((bo v s i : Nat) : Int))] [] (gS f D n) m2) :
    ∀ (j : Nat) (sp : Int) (m2 : xM), sh v s 4 + 1 < sp + j → sp ≤ sh v s 4 + 1 → sh v s 3 ≤ sp → ag [86, 87, 89, 90, 91, 93, 94] m m2 → cT v m2 → (∀ k : Nat, k < 1001 → m2 90 k = wa v (bo v s i) (st + k)) → (∀ t, t ≤ 1000 → m2 93 t = zi (cn v s st i t)) → (∀ t, t ≤ 1000 → m2 94 t = zi (∃ q : Int, sh v s 3 ≤ q ∧ q < sp ∧ stp v s st (bo v s i) q (fr v s i q) (cn v s st i) t)) → xX E (("soonestEnd", some .int, []), (5, 0, 0), P, PX) RX2 cX2_soonestEnd 9 0 0 111 [(0, vr E 88), (1, vi (s : Int)), (2, vi st), (3, vi (zi (sh v s 5 = 1))), (4, vi (e : Int)), (5, vi (i : Int)), (6, vi ((bo v s i : Nat) : Int)), (7, vi sp)] [] (gS f D n) m2 := by
  have hv5 := hV.1.1.2.2.2.2.2.1
  have hv4 := hV.1.1.2.2.2.2.1.1
  obtain ⟨-, -, -, hls, -⟩ := hV.1.1.2.2.2.2.2.2 s hs
  have hbo := bo_b (s := s) hv4.1 hi
  intro j
  induction j with
  | zero => intro sp m2 h1 h2; omega
  | succ j ih =>
    intro sp m2 h1 h2 h0 ha2 hT2 hq2 hr2 hn2
    refine x_iload dX2_soonestEnd_111 rfl ?_
    refine x_aload_n dX2_soonestEnd_113 rfl ?_
    refine x_getR (r := 41) fX2_35 dX2_soonestEnd_114 rfl rfl ?_
    refine x_iload_n dX2_soonestEnd_117 rfl ?_
    refine x_iconst dX2_soonestEnd_118 ?_
    refine x_V2 mX2_43 dX2_soonestEnd_119 rfl (s_shipOf (8 * s + 4) (by omega) (by omega) ?_)
    refine x_top (hT2.1.2.2.2.s hs (by omega)) ?_
    refine x_icmp_gt (tgt := 186) dX2_soonestEnd_122 (by decide) (by omega) (fun h122 => ?_) (fun h122 => ?_)
    · refine x_loc (lv' := [(0, vr E 88), (1, vi (s : Int)), (2, vi st), (3, vi (zi (sh v s 5 = 1))), (4, vi (e : Int)), (5, vi (i : Int)), (6, vi ((bo v s i : Nat) : Int))]) ⟨rfl, rfl, rfl, rfl, rfl, rfl, rfl, trivial⟩ (hK m2 ha2 hT2 hr2 (fun t ht => ?_))
      rw [hn2 t ht]
      exact zi_c ⟨fun ⟨q, h1, h2, h3⟩ => ⟨q, h1, by omega, h3⟩, fun ⟨q, h1, h2, h3⟩ => ⟨q, h1, by omega, h3⟩⟩
    · have hsp : 4 ≤ sp ∧ sp ≤ 25 := by omega
      have hfb := fr_b (s := s) hV.1.1.2.2.2.2.1 hsp hi
      obtain ⟨tr, htr⟩ : ∃ tr : Nat, fr v s i sp = (tr : Int) := ⟨(fr v s i sp).toNat, by omega⟩
      refine x_iload_n dX2_soonestEnd_125 rfl ?_
      refine x_if_ne (tgt := 143) dX2_soonestEnd_126 (by decide) (zi_r _) (fun h126 => ?_) (fun h126 => ?_)
      · have hyes := zi_1.mp h126
        refine x_iload dX2_soonestEnd_143 rfl ?_
        refine x_if_ne (tgt := 152) dX2_soonestEnd_145 (by decide) (by omega) (fun h145 => ?_) (fun h145 => ?_)
        · refine x_aload_n dX2_soonestEnd_152 rfl ?_
          refine x_getR (r := 41) fX2_35 dX2_soonestEnd_153 rfl rfl ?_
          refine x_iload dX2_soonestEnd_156 rfl ?_
          refine x_iconst dX2_soonestEnd_158 ?_
          refine x_iadd dX2_soonestEnd_159 ?_
          refine x_top (show ((bo v s i : Nat) : Int) + 1 = (((v 4).toNat - i : Nat) : Int) by unfold bo; rw [if_pos hyes]; omega) ?_
          refine x_iload dX2_soonestEnd_160 rfl ?_
          refine x_V2 mX2_150 dX2_soonestEnd_162 rfl (s_farTime (b := (v 4).toNat - i) hV.1.1.2.2.2.2.1 hT2.1.2.2.1 (by omega) hsp ?_)
          refine x_top (show tk (br v ((v 4).toNat - i) 0) sp = (tr : Int) by rw [← htr]; unfold fr; rw [if_pos hyes, if_neg (by omega)]) ?_
          refine x_istore dX2_soonestEnd_165 ?_
          refine x_aload_n dX2_soonestEnd_167 rfl ?_
          refine x_iload_n dX2_soonestEnd_168 rfl ?_
          refine x_iload dX2_soonestEnd_169 rfl ?_
          refine x_iload dX2_soonestEnd_171 rfl ?_
          refine x_iload dX2_soonestEnd_173 rfl ?_
          refine x_iload dX2_soonestEnd_175 rfl ?_
          refine x_V5 mX2_153 dX2_soonestEnd_177 rfl (s_reachBehind (R := cn v s st i) (N := fun t => ∃ q : Int, sh v s 3 ≤ q ∧ q < sp ∧ stp v s st (bo v s i) q (fr v s i q) (cn v s st i) t) hE (hV.t ha2 hT2 (by decide) (by decide)) hs hbo hsp hst (by omega) he hm he9 hq2 hr2 hn2 (fun m3 ha3 hn3 => ?_))
          refine x_iinc dX2_soonestEnd_180 rfl ?_
          refine x_goto (tgt := 111) dX2_soonestEnd_183 (by decide) ?_
          refine x_loc (lv' := [(0, vr E 88), (1, vi (s : Int)), (2, vi st), (3, vi (zi (sh v s 5 = 1))), (4, vi (e : Int)), (5, vi (i : Int)), (6, vi ((bo v s i : Nat) : Int)), (7, vi (sp + 1))]) ⟨rfl, rfl, rfl, rfl, rfl, rfl, rfl, xl_i rfl (by omega), trivial⟩ (ih (sp + 1) m3 (by omega) (by omega) (by omega) (ha2.tr ha3 (by decide) (by decide)) (hT2.ag ha3 (by decide) (by decide) (by decide) (by decide) (by decide) (by decide)) (fun k hk => by rw [ha3 90 (by decide)]; exact hq2 k hk) (fun k hk => by rw [ha3 93 (by decide)]; exact hr2 k hk) (fun t ht => ?_))
          rw [hn3 t ht]
          refine zi_c ⟨fun z => z.elim (fun ⟨q, h1, h2, h3⟩ => ⟨q, h1, by omega, h3⟩) (fun z => ⟨sp, by omega, by omega, by rw [htr]; exact z⟩), fun ⟨q, h1, h2, h3⟩ => ?_⟩
          rcases (by omega : q < sp ∨ q = sp) with z | z
          · exact Or.inl ⟨q, h1, z, h3⟩
          · subst z
            exact Or.inr (by rw [← htr]; exact h3)
        · refine x_iconst dX2_soonestEnd_148 ?_
          refine x_goto (tgt := 165) dX2_soonestEnd_149 (by decide) ?_
          refine x_top (show (0 : Int) = (tr : Int) by rw [← htr]; unfold fr; rw [if_pos hyes, if_pos (by omega)]) ?_
          refine x_istore dX2_soonestEnd_165 ?_
          refine x_aload_n dX2_soonestEnd_167 rfl ?_
          refine x_iload_n dX2_soonestEnd_168 rfl ?_
          refine x_iload dX2_soonestEnd_169 rfl ?_
          refine x_iload dX2_soonestEnd_171 rfl ?_
          refine x_iload dX2_soonestEnd_173 rfl ?_
          refine x_iload dX2_soonestEnd_175 rfl ?_
          refine x_V5 mX2_153 dX2_soonestEnd_177 rfl (s_reachBehind (R := cn v s st i) (N := fun t => ∃ q : Int, sh v s 3 ≤ q ∧ q < sp ∧ stp v s st (bo v s i) q (fr v s i q) (cn v s st i) t) hE (hV.t ha2 hT2 (by decide) (by decide)) hs hbo hsp hst (by omega) he hm he9 hq2 hr2 hn2 (fun m3 ha3 hn3 => ?_))
          refine x_iinc dX2_soonestEnd_180 rfl ?_
          refine x_goto (tgt := 111) dX2_soonestEnd_183 (by decide) ?_
          refine x_loc (lv' := [(0, vr E 88), (1, vi (s : Int)), (2, vi st), (3, vi (zi (sh v s 5 = 1))), (4, vi (e : Int)), (5, vi (i : Int)), (6, vi ((bo v s i : Nat) : Int)), (7, vi (sp + 1))]) ⟨rfl, rfl, rfl, rfl, rfl, rfl, rfl, xl_i rfl (by omega), trivial⟩ (ih (sp + 1) m3 (by omega) (by omega) (by omega) (ha2.tr ha3 (by decide) (by decide)) (hT2.ag ha3 (by decide) (by decide) (by decide) (by decide) (by decide) (by decide)) (fun k hk => by rw [ha3 90 (by decide)]; exact hq2 k hk) (fun k hk => by rw [ha3 93 (by decide)]; exact hr2 k hk) (fun t ht => ?_))
          rw [hn3 t ht]
          refine zi_c ⟨fun z => z.elim (fun ⟨q, h1, h2, h3⟩ => ⟨q, h1, by omega, h3⟩) (fun z => ⟨sp, by omega, by omega, by rw [htr]; exact z⟩), fun ⟨q, h1, h2, h3⟩ => ?_⟩
          rcases (by omega : q < sp ∨ q = sp) with z | z
          · exact Or.inl ⟨q, h1, z, h3⟩
          · subst z
            exact Or.inr (by rw [← htr]; exact h3)
      · have hno := zi_0.mp h126
        refine x_aload_n dX2_soonestEnd_129 rfl ?_
        refine x_getR (r := 41) fX2_35 dX2_soonestEnd_130 rfl rfl ?_
        refine x_iload dX2_soonestEnd_133 rfl ?_
        refine x_iload dX2_soonestEnd_135 rfl ?_
        refine x_V2 mX2_150 dX2_soonestEnd_137 rfl (s_farTime hV.1.1.2.2.2.2.1 hT2.1.2.2.1 hbo hsp ?_)
        refine x_goto (tgt := 165) dX2_soonestEnd_140 (by decide) ?_
        refine x_top (show tk (br v (bo v s i) 0) sp = (tr : Int) by rw [← htr]; unfold fr bo; rw [if_neg hno, if_neg hno]) ?_
        refine x_istore dX2_soonestEnd_165 ?_
        refine x_aload_n dX2_soonestEnd_167 rfl ?_
        refine x_iload_n dX2_soonestEnd_168 rfl ?_
        refine x_iload dX2_soonestEnd_169 rfl ?_
        refine x_iload dX2_soonestEnd_171 rfl ?_
        refine x_iload dX2_soonestEnd_173 rfl ?_
        refine x_iload dX2_soonestEnd_175 rfl ?_
        refine x_V5 mX2_153 dX2_soonestEnd_177 rfl (s_reachBehind (R := cn v s st i) (N := fun t => ∃ q : Int, sh v s 3 ≤ q ∧ q < sp ∧ stp v s st (bo v s i) q (fr v s i q) (cn v s st i) t) hE (hV.t ha2 hT2 (by decide) (by decide)) hs hbo hsp hst (by omega) he hm he9 hq2 hr2 hn2 (fun m3 ha3 hn3 => ?_))
        refine x_iinc dX2_soonestEnd_180 rfl ?_
        refine x_goto (tgt := 111) dX2_soonestEnd_183 (by decide) ?_
        refine x_loc (lv' := [(0, vr E 88), (1, vi (s : Int)), (2, vi st), (3, vi (zi (sh v s 5 = 1))), (4, vi (e : Int)), (5, vi (i : Int)), (6, vi ((bo v s i : Nat) : Int)), (7, vi (sp + 1))]) ⟨rfl, rfl, rfl, rfl, rfl, rfl, rfl, xl_i rfl (by omega), trivial⟩ (ih (sp + 1) m3 (by omega) (by omega) (by omega) (ha2.tr ha3 (by decide) (by decide)) (hT2.ag ha3 (by decide) (by decide) (by decide) (by decide) (by decide) (by decide)) (fun k hk => by rw [ha3 90 (by decide)]; exact hq2 k hk) (fun k hk => by rw [ha3 93 (by decide)]; exact hr2 k hk) (fun t ht => ?_))
        rw [hn3 t ht]
        refine zi_c ⟨fun z => z.elim (fun ⟨q, h1, h2, h3⟩ => ⟨q, h1, by omega, h3⟩) (fun z => ⟨sp, by omega, by omega, by rw [htr]; exact z⟩), fun ⟨q, h1, h2, h3⟩ => ?_⟩
        rcases (by omega : q < sp ∨ q = sp) with z | z
        · exact Or.inl ⟨q, h1, z, h3⟩
        · subst z
          exact Or.inr (by rw [← htr]; exact h3)

end PS
