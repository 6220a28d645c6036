section MW
/-- what a window call of the model gives -/
def woR (S : Nat → Prop) (M k what : Int) (m m' : xM) (r : Int) : Prop :=
  (∃ q, wR S k what q ∧ q ≠ -1000000 ∧ m' = m ∧ r = if k = -1 then q else M + q) ∨ (wR S k what (-1000000) ∧ r = 0 ∧ m' = mrf m 1 0)
def moR2 (rf : Int → Nat → Prop) (ok : Prop) (R : Int → Prop) (S : List Nat) (m m' : xM) (r : Int) : Prop :=
  (∃ k q m1, rf k q ∧ ag S (xu m 96 0 0) m1 ∧ m' = mrf m1 k q) ∨ (ok ∧ R r ∧ ag S (xu m 96 0 0) m')
theorem moR.two {rf : Int → Nat → Prop} {ok : Prop} {R : Int → Prop} {S : List Nat} {m m' : xM} {r : Int} (h : moR rf ok R S m m' r) : moR2 rf ok R S m m' r := by
  rcases h with ⟨k, q, h1, h2⟩ | h
  · exact Or.inl ⟨k, q, _, h1, ag.rf, h2⟩
  · exact Or.inr h
set_option maxRecDepth 20000 in
theorem row_in {E : xE} {f : Nat → Nat} {D : Nat → Nat × Nat} {n : Nat} {m : xM} {P : xPo} {PX : xPx} {S : Nat → Prop} {M k what : Int} {i : Nat} (hS : ∀ i : Nat, i < 1440 → m 104 i = zi (S i)) (hK : ∀ e : Nat, wnd S i e → xX E (("rowOf", some .int, []), (1, 0, 0), P, PX) RX6 cX6_rowOf 7 0 0 82 [(0, vr E 96), (1, vi M), (2, vi k), (3, vi what), (5, vi (i : Int)), (6, vi (e : Int))] [] (gS f D n) m) :
    ∀ (j e : Nat), 1439 < e + j → e ≤ 1439 → i ≤ e → (∀ q, i < q → q ≤ e → S q) → xX E (("rowOf", some .int, []), (1, 0, 0), P, PX) RX6 cX6_rowOf 7 0 0 54 [(0, vr E 96), (1, vi M), (2, vi k), (3, vi what), (5, vi (i : Int)), (6, vi (e : Int))] [] (gS f D n) m := by
  intro j
  induction j with
  | zero => intro e h1 h2; omega
  | succ j ih =>
    intro e h1 h2 h3 hr
    refine x_iload dX6_rowOf_54 rfl ?_
    refine x_iconst dX6_rowOf_56 ?_
    refine x_iadd dX6_rowOf_57 ?_
    refine x_sipush dX6_rowOf_58 (h := ?_)
    refine x_icmp_ge (tgt := 82) dX6_rowOf_61 (by decide) (by omega) (fun h61 => ?_) (fun h61 => ?_)
    · exact x_loc (lv' := [(0, vr E 96), (1, vi M), (2, vi k), (3, vi what), (5, vi (i : Int)), (6, vi (e : Int))]) ⟨rfl, rfl, rfl, rfl, rfl, rfl, trivial⟩ (hK e ⟨by omega, by omega, hr, Or.inl (by omega)⟩)
    · refine x_aload_n dX6_rowOf_64 rfl ?_
      refine x_getR (r := 104) fX6_40 dX6_rowOf_65 rfl rfl ?_
      refine x_iload dX6_rowOf_68 rfl ?_
      refine x_iconst dX6_rowOf_70 ?_
      refine x_iadd dX6_rowOf_71 ?_
      refine x_zald (j := e + 1) dX6_rowOf_72 rfl (by omega) (show _ < 1440 by omega) (by omega) ?_
      refine x_top (hS (e + 1) (by omega)) ?_
      refine x_if_eq (tgt := 82) dX6_rowOf_73 (by decide) (zi_r _) (fun h73 => ?_) (fun h73 => ?_)
      · have hx := zi_0.mp h73
        exact x_loc (lv' := [(0, vr E 96), (1, vi M), (2, vi k), (3, vi what), (5, vi (i : Int)), (6, vi (e : Int))]) ⟨rfl, rfl, rfl, rfl, rfl, rfl, trivial⟩ (hK e ⟨by omega, by omega, hr, Or.inr hx⟩)
      · have hx := zi_1.mp h73
        refine x_iinc dX6_rowOf_76 rfl ?_
        refine x_goto (tgt := 54) dX6_rowOf_79 (by decide) ?_
        exact x_loc (lv' := [(0, vr E 96), (1, vi M), (2, vi k), (3, vi what), (5, vi (i : Int)), (6, vi ((e + 1 : Nat) : Int))]) ⟨rfl, rfl, rfl, rfl, rfl, xl_i rfl (by omega), trivial⟩ (ih (e + 1) (by omega) (by omega) (by omega) (fun q h3 h4 => by rcases (by omega : q ≤ e ∨ q = e + 1) with y | y; exact hr q h3 y; exact y ▸ hx))

set_option maxRecDepth 20000 in
theorem s_rowOf {E : xE} {f : Nat → Nat} {D : Nat → Nat × Nat} {n : Nat} {m : xM} {P : xPo} {PX : xPx} {S : Nat → Prop} {M k what : Int} (hS : ∀ i : Nat, i < 1440 → m 104 i = zi (S i)) (h0 : m 96 0 = 0) (hk : -2147483648 ≤ k ∧ k ≤ 2147483647) (hwh : -2147483648 ≤ what ∧ what ≤ 2147483647) (hP : ∀ m' r, woR S M k what m m' r → P (some (vi r)) (gS f D n) m') : xC E (yX6_rowOf, cX6_rowOf, 7, some .int) 1 0 0 [vr E 96, vi M, vi k, vi what] (gS f D n) m P PX := by
  refine x_enter (by decide) rfl rfl (Nat.le_of_ble_eq_true rfl) ?_
  have loop : ∀ (j i : Nat), 1440 < i + j → i ≤ 1440 → (∀ q, q < i → wst S q → wn S q ≠ k) → xX E (("rowOf", some .int, []), (1, 0, 0), P, PX) RX6 cX6_rowOf 7 0 0 6 [(0, vr E 96), (1, vi M), (2, vi k), (3, vi what), (4, vi (wn S i)), (5, vi (i : Int))] [] (gS f D n) m := by
    intro j
    induction j with
    | zero => intro i h1 h2; omega
    | succ j ih =>
      intro i h1 h2 hn
      have hb := wn_b S i
      refine x_iload dX6_rowOf_6 rfl ?_
      refine x_sipush dX6_rowOf_8 (h := ?_)
      refine x_icmp_ge (tgt := 105) dX6_rowOf_11 (by decide) (by omega) (fun h11 => ?_) (fun h11 => ?_)
      · have hi : i = 1440 := by omega
        refine x_iload_n dX6_rowOf_105 rfl ?_
        refine x_iconst dX6_rowOf_106 ?_
        refine x_icmp_ne (tgt := 115) dX6_rowOf_107 (by decide) (by omega) (fun h107 => ?_) (fun h107 => ?_)
        · refine x_aload_n dX6_rowOf_115 rfl ?_
          refine x_iconst dX6_rowOf_116 ?_
          refine x_top ((zi_f (fun h : False => h)).symm) ?_
          refine x_iconst dX6_rowOf_117 ?_
          refine x_iconst dX6_rowOf_118 ?_
          refine x_V3 mX6_196 dX6_rowOf_119 rfl (s_isFine (p := False) (c := 1) (k := 0) h0 (by omega) (by omega) (fun m1 r1 hf1 => ?_))
          rcases hf1 with ⟨q1, -⟩ | ⟨-, rfl, rfl⟩
          · exact q1.elim
          refine x_if_eq (tgt := 129) dX6_rowOf_122 (by decide) (by omega) (fun h122 => ?_) (fun h122 => absurd rfl h122)
          refine x_iconst dX6_rowOf_129 ?_
          exact x_iret dX6_rowOf_130  (hP _ 0 (Or.inr ⟨Or.inr ⟨fun q hl hq => hn q (by omega) hq, Or.inr ⟨by omega, rfl⟩⟩, rfl, rfl⟩))
        · refine x_iload dX6_rowOf_110 rfl ?_
          refine x_goto (tgt := 130) dX6_rowOf_112 (by decide) ?_
          exact x_iret dX6_rowOf_130  (hP m _ (Or.inl ⟨wn S i, Or.inr ⟨fun q hl hq => hn q (by omega) hq, Or.inl ⟨by omega, hi ▸ rfl⟩⟩, by omega, rfl, by rw [if_pos (by omega)]⟩))
      · refine x_aload_n dX6_rowOf_14 rfl ?_
        refine x_getR (r := 104) fX6_40 dX6_rowOf_15 rfl rfl ?_
        refine x_iload dX6_rowOf_18 rfl ?_
        refine x_zald (j := i) dX6_rowOf_20 rfl (by omega) (show _ < 1440 by omega) (by omega) ?_
        refine x_top (hS i (by omega)) ?_
        refine x_if_eq (tgt := 99) dX6_rowOf_21 (by decide) (zi_r _) (fun h21 => ?_) (fun h21 => ?_)
        · have hx := zi_0.mp h21
          refine x_iinc dX6_rowOf_99 rfl ?_
          refine x_goto (tgt := 6) dX6_rowOf_102 (by decide) ?_
          have hw : ¬ wst S i := fun zz => hx zz.1
          have hc := wn_f hw
          exact x_loc (lv' := [(0, vr E 96), (1, vi M), (2, vi k), (3, vi what), (4, vi (wn S (i + 1))), (5, vi ((i + 1 : Nat) : Int))]) ⟨rfl, rfl, rfl, rfl, xl_i rfl (by omega), xl_i rfl (by omega), trivial⟩ (ih (i + 1) (by omega) (by omega) (fun q hl hq => by rcases (by omega : q < i ∨ q = i) with y | y; exact hn q y hq; exact absurd (y ▸ hq) hw))
        · have hx := zi_1.mp h21
          refine x_iload dX6_rowOf_24 rfl ?_
          refine x_if_le (tgt := 44) dX6_rowOf_26 (by decide) (by omega) (fun h26 => ?_) (fun h26 => ?_)
          · refine x_iload dX6_rowOf_44 rfl ?_
            refine x_iload_n dX6_rowOf_46 rfl ?_
            refine x_icmp_ne (tgt := 96) dX6_rowOf_47 (by decide) (by omega) (fun h47 => ?_) (fun h47 => ?_)
            · refine x_iinc dX6_rowOf_96 rfl ?_
              refine x_iinc dX6_rowOf_99 rfl ?_
              refine x_goto (tgt := 6) dX6_rowOf_102 (by decide) ?_
              have hw : wst S i := ⟨hx, Or.inl (by omega)⟩
              have hc := wn_t hw
              exact x_loc (lv' := [(0, vr E 96), (1, vi M), (2, vi k), (3, vi what), (4, vi (wn S (i + 1))), (5, vi ((i + 1 : Nat) : Int))]) ⟨rfl, rfl, rfl, rfl, xl_i rfl (by omega), xl_i rfl (by omega), trivial⟩ (ih (i + 1) (by omega) (by omega) (fun q hl hq => by rcases (by omega : q < i ∨ q = i) with y | y; exact hn q y hq; subst y; omega))
            · refine x_iload dX6_rowOf_50 rfl ?_
              refine x_istore dX6_rowOf_52 ?_
              have hw : wst S i := ⟨hx, Or.inl (by omega)⟩
              have hkp : k ≠ -1 := by omega
              refine x_loc (lv' := [(0, vr E 96), (1, vi M), (2, vi k), (3, vi what), (5, vi (i : Int)), (6, vi (i : Int))]) ⟨rfl, rfl, rfl, rfl, rfl, rfl, trivial⟩ (row_in hS (fun e he => ?_) 1440 i (by omega) (by omega) (by omega) (fun q h3 h4 => by omega))
              refine x_iload_n dX6_rowOf_82 rfl ?_
              refine x_iload_n dX6_rowOf_83 rfl ?_
              refine x_if_ne (tgt := 92) dX6_rowOf_84 (by decide) (by omega) (fun h84 => ?_) (fun h84 => ?_)
              · refine x_iload dX6_rowOf_92 rfl ?_
                refine x_iadd dX6_rowOf_94 ?_
                exact x_iret dX6_rowOf_95  (hP m _ (Or.inl ⟨(e : Int), Or.inl ⟨i, by omega, hw, by omega, Or.inr ⟨by omega, e, he, rfl⟩⟩, by omega, rfl, by rw [if_neg hkp]⟩))
              · refine x_iload dX6_rowOf_87 rfl ?_
                refine x_goto (tgt := 94) dX6_rowOf_89 (by decide) ?_
                refine x_iadd dX6_rowOf_94 ?_
                exact x_iret dX6_rowOf_95  (hP m _ (Or.inl ⟨(i : Int), Or.inl ⟨i, by omega, hw, by omega, Or.inl ⟨by omega, rfl⟩⟩, by omega, rfl, by rw [if_neg hkp]⟩))
          · refine x_aload_n dX6_rowOf_29 rfl ?_
            refine x_getR (r := 104) fX6_40 dX6_rowOf_30 rfl rfl ?_
            refine x_iload dX6_rowOf_33 rfl ?_
            refine x_iconst dX6_rowOf_35 ?_
            refine x_isub dX6_rowOf_36 ?_
            refine x_zald (j := i - 1) dX6_rowOf_37 rfl (by omega) (show _ < 1440 by omega) (by omega) ?_
            refine x_top (hS (i - 1) (by omega)) ?_
            refine x_if_eq (tgt := 44) dX6_rowOf_38 (by decide) (zi_r _) (fun h38 => ?_) (fun h38 => ?_)
            · have hy := zi_0.mp h38
              refine x_iload dX6_rowOf_44 rfl ?_
              refine x_iload_n dX6_rowOf_46 rfl ?_
              refine x_icmp_ne (tgt := 96) dX6_rowOf_47 (by decide) (by omega) (fun h47 => ?_) (fun h47 => ?_)
              · refine x_iinc dX6_rowOf_96 rfl ?_
                refine x_iinc dX6_rowOf_99 rfl ?_
                refine x_goto (tgt := 6) dX6_rowOf_102 (by decide) ?_
                have hw : wst S i := ⟨hx, Or.inr hy⟩
                have hc := wn_t hw
                exact x_loc (lv' := [(0, vr E 96), (1, vi M), (2, vi k), (3, vi what), (4, vi (wn S (i + 1))), (5, vi ((i + 1 : Nat) : Int))]) ⟨rfl, rfl, rfl, rfl, xl_i rfl (by omega), xl_i rfl (by omega), trivial⟩ (ih (i + 1) (by omega) (by omega) (fun q hl hq => by rcases (by omega : q < i ∨ q = i) with y | y; exact hn q y hq; subst y; omega))
              · refine x_iload dX6_rowOf_50 rfl ?_
                refine x_istore dX6_rowOf_52 ?_
                have hw : wst S i := ⟨hx, Or.inr hy⟩
                have hkp : k ≠ -1 := by omega
                refine x_loc (lv' := [(0, vr E 96), (1, vi M), (2, vi k), (3, vi what), (5, vi (i : Int)), (6, vi (i : Int))]) ⟨rfl, rfl, rfl, rfl, rfl, rfl, trivial⟩ (row_in hS (fun e he => ?_) 1440 i (by omega) (by omega) (by omega) (fun q h3 h4 => by omega))
                refine x_iload_n dX6_rowOf_82 rfl ?_
                refine x_iload_n dX6_rowOf_83 rfl ?_
                refine x_if_ne (tgt := 92) dX6_rowOf_84 (by decide) (by omega) (fun h84 => ?_) (fun h84 => ?_)
                · refine x_iload dX6_rowOf_92 rfl ?_
                  refine x_iadd dX6_rowOf_94 ?_
                  exact x_iret dX6_rowOf_95  (hP m _ (Or.inl ⟨(e : Int), Or.inl ⟨i, by omega, hw, by omega, Or.inr ⟨by omega, e, he, rfl⟩⟩, by omega, rfl, by rw [if_neg hkp]⟩))
                · refine x_iload dX6_rowOf_87 rfl ?_
                  refine x_goto (tgt := 94) dX6_rowOf_89 (by decide) ?_
                  refine x_iadd dX6_rowOf_94 ?_
                  exact x_iret dX6_rowOf_95  (hP m _ (Or.inl ⟨(i : Int), Or.inl ⟨i, by omega, hw, by omega, Or.inl ⟨by omega, rfl⟩⟩, by omega, rfl, by rw [if_neg hkp]⟩))
            · have hy := zi_1.mp h38
              refine x_goto (tgt := 99) dX6_rowOf_41 (by decide) ?_
              refine x_iinc dX6_rowOf_99 rfl ?_
              refine x_goto (tgt := 6) dX6_rowOf_102 (by decide) ?_
              have hw : ¬ wst S i := fun zz => zz.2.elim (fun q => by omega) (fun q => q hy)
              have hc := wn_f hw
              exact x_loc (lv' := [(0, vr E 96), (1, vi M), (2, vi k), (3, vi what), (4, vi (wn S (i + 1))), (5, vi ((i + 1 : Nat) : Int))]) ⟨rfl, rfl, rfl, rfl, xl_i rfl (by omega), xl_i rfl (by omega), trivial⟩ (ih (i + 1) (by omega) (by omega) (fun q hl hq => by rcases (by omega : q < i ∨ q = i) with y | y; exact hn q y hq; exact absurd (y ▸ hq) hw))
  refine x_iconst dX6_rowOf_0 ?_
  refine x_istore dX6_rowOf_1 ?_
  refine x_iconst dX6_rowOf_3 ?_
  refine x_istore dX6_rowOf_4 ?_
  exact x_loc (lv' := [(0, vr E 96), (1, vi M), (2, vi k), (3, vi what), (4, vi (wn S 0)), (5, vi ((0 : Nat) : Int))]) ⟨rfl, rfl, rfl, rfl, rfl, rfl, trivial⟩ (loop 1441 0 (by omega) (by omega) (fun q hl => absurd hl (Nat.not_lt_zero q)))

end MW
