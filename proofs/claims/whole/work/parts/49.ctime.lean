section CT
set_option maxRecDepth 20000 in
theorem s_farTime {E : xE} {f : Nat → Nat} {D : Nat → Nat × Nat} {n : Nat} {m : xM} {P : xPo} {PX : xPx} {v : Nat → Int} {b : Nat} {sp : Int} (hv : bOk v) (hc : cB v m) (hb : (b : Int) < v 4) (hsp : 4 ≤ sp ∧ sp ≤ 25) (hP : P (some (vi (tk (br v b 0) sp))) (gS f D n) m) : xC E (yX0_farTime, cX0_farTime, 3, some .int) 1 0 0 [vr E 41, vi (b : Int), vi sp] (gS f D n) m P PX := by
  refine x_enter (by decide) rfl rfl (Nat.le_of_ble_eq_true rfl) ?_
  have hv4 := hv.1
  obtain ⟨ha, -, hl, -⟩ := hv.2 b hb
  refine x_aload_n dX0_farTime_0 rfl ?_
  refine x_iload_n dX0_farTime_1 rfl ?_
  refine x_iconst dX0_farTime_2 ?_
  refine x_V2 mX0_63 dX0_farTime_3 rfl (s_barOf (6 * b + 0) (by omega) (by omega) ?_)
  refine x_top (hc.b hb (by omega)) ?_
  refine x_iload_n dX0_farTime_6 rfl ?_
  refine x_S2 mX0_66 dX0_farTime_7 (s_timeFor (by omega) (by omega) ?_)
  exact x_iret dX0_farTime_10  (hP)

set_option maxRecDepth 20000 in
theorem s_lengthTime {E : xE} {f : Nat → Nat} {D : Nat → Nat × Nat} {n : Nat} {m : xM} {P : xPo} {PX : xPx} {v : Nat → Int} {b : Nat} {sp : Int} (hv : bOk v) (hc : cB v m) (hb : (b : Int) < v 4) (hsp : 4 ≤ sp ∧ sp ≤ 25) (hP : P (some (vi (tk (br v b 2) sp))) (gS f D n) m) : xC E (yX0_lengthTime, cX0_lengthTime, 3, some .int) 1 0 0 [vr E 41, vi (b : Int), vi sp] (gS f D n) m P PX := by
  refine x_enter (by decide) rfl rfl (Nat.le_of_ble_eq_true rfl) ?_
  have hv4 := hv.1
  obtain ⟨ha, -, hl, -⟩ := hv.2 b hb
  refine x_aload_n dX0_lengthTime_0 rfl ?_
  refine x_iload_n dX0_lengthTime_1 rfl ?_
  refine x_iconst dX0_lengthTime_2 ?_
  refine x_V2 mX0_63 dX0_lengthTime_3 rfl (s_barOf (6 * b + 2) (by omega) (by omega) ?_)
  refine x_top (hc.b hb (by omega)) ?_
  refine x_iload_n dX0_lengthTime_6 rfl ?_
  refine x_S2 mX0_66 dX0_lengthTime_7 (s_timeFor (by omega) (by omega) ?_)
  exact x_iret dX0_lengthTime_10  (hP)

set_option maxRecDepth 20000 in
theorem s_comesAfter {E : xE} {f : Nat → Nat} {D : Nat → Nat × Nat} {n : Nat} {m : xM} {P : xPo} {PX : xPx} {v : Nat → Int} {s b : Nat} {sp : Int} (hv : vOk0 v) (hC : cC v m) (hs : (s : Int) < v 5) (hb : (b : Int) < v 4) (hsp : 4 ≤ sp ∧ sp ≤ 25) (hP : P (some (vi (cm v s sp b))) (gS f D n) m) : xC E (yX0_comesAfter, cX0_comesAfter, 6, some .int) 2 0 0 [vr E 41, vi (s : Int), vi sp, vi (b : Int)] (gS f D n) m P PX := by
  refine x_enter (by decide) rfl rfl (Nat.le_of_ble_eq_true rfl) ?_
  have hv4 := hv.2.2.2.2.1.1
  have hv5 := hv.2.2.2.2.2.1
  obtain ⟨-, -, -, -, ho, -⟩ := hv.2.2.2.2.2.2 s hs
  refine x_iconst dX0_comesAfter_0 ?_
  refine x_istore dX0_comesAfter_1 ?_
  refine x_aload_n dX0_comesAfter_3 rfl ?_
  refine x_iload_n dX0_comesAfter_4 rfl ?_
  refine x_iconst dX0_comesAfter_5 ?_
  refine x_V2 mX0_59 dX0_comesAfter_6 rfl (s_shipOf (8 * s + 5) (by omega) (by omega) ?_)
  refine x_top (hC.2.2.2.s hs (by omega)) ?_
  refine x_iconst dX0_comesAfter_9 ?_
  refine x_icmp_ne (tgt := 56) dX0_comesAfter_10 (by decide) (by omega) (fun h10 => ?_) (fun h10 => ?_)
  · have loop : ∀ (j p : Nat), b < p + j → p ≤ b → xX E (("comesAfter", some .int, []), (2, 0, 0), P, PX) RX0 cX0_comesAfter 6 0 0 59 [(0, vr E 41), (1, vi (s : Int)), (2, vi sp), (3, vi (b : Int)), (4, vi (Tm v sp p)), (5, vi (p : Int))] [] (gS f D n) m := by
      intro j
      induction j with
      | zero => intro p h1 h2; omega
      | succ j ih =>
        intro p h1 h2
        refine x_iload dX0_comesAfter_59 rfl ?_
        refine x_iload_n dX0_comesAfter_61 rfl ?_
        refine x_icmp_ge (tgt := 91) dX0_comesAfter_62 (by decide) (by omega) (fun h62 => ?_) (fun h62 => ?_)
        · have hpb : p = b := by omega
          subst hpb
          refine x_iload dX0_comesAfter_91 rfl ?_
          refine x_aload_n dX0_comesAfter_93 rfl ?_
          refine x_iload_n dX0_comesAfter_94 rfl ?_
          refine x_iload_n dX0_comesAfter_95 rfl ?_
          refine x_V2 mX0_72 dX0_comesAfter_96 rfl (s_farTime hv.2.2.2.2.1 hC.2.2.1 hb hsp ?_)
          refine x_iadd dX0_comesAfter_99 ?_
          exact x_iret dX0_comesAfter_100  ((by unfold cm at hP; rw [if_neg h10] at hP; exact hP))
        · refine x_iload dX0_comesAfter_65 rfl ?_
          refine x_aload_n dX0_comesAfter_67 rfl ?_
          refine x_iload dX0_comesAfter_68 rfl ?_
          refine x_iload_n dX0_comesAfter_70 rfl ?_
          refine x_V2 mX0_72 dX0_comesAfter_71 rfl (s_farTime hv.2.2.2.2.1 hC.2.2.1 (b := p) (by omega) hsp ?_)
          refine x_aload_n dX0_comesAfter_74 rfl ?_
          refine x_iload dX0_comesAfter_75 rfl ?_
          refine x_iload_n dX0_comesAfter_77 rfl ?_
          refine x_V2 mX0_69 dX0_comesAfter_78 rfl (s_lengthTime hv.2.2.2.2.1 hC.2.2.1 (b := p) (by omega) hsp ?_)
          refine x_iadd dX0_comesAfter_81 ?_
          refine x_iadd dX0_comesAfter_82 ?_
          refine x_istore dX0_comesAfter_83 ?_
          refine x_iinc dX0_comesAfter_85 rfl ?_
          refine x_goto (tgt := 59) dX0_comesAfter_88 (by decide) ?_
          exact x_loc (lv' := [(0, vr E 41), (1, vi (s : Int)), (2, vi sp), (3, vi (b : Int)), (4, vi (Tm v sp (p + 1))), (5, vi ((p + 1 : Nat) : Int))]) ⟨rfl, rfl, rfl, rfl, rfl, xl_i rfl (by omega), trivial⟩ (ih (p + 1) (by omega) (by omega))
    refine x_iconst dX0_comesAfter_56 ?_
    refine x_istore dX0_comesAfter_57 ?_
    exact x_loc (lv' := [(0, vr E 41), (1, vi (s : Int)), (2, vi sp), (3, vi (b : Int)), (4, vi (Tm v sp 0)), (5, vi ((0 : Nat) : Int))]) ⟨rfl, rfl, rfl, rfl, rfl, rfl, trivial⟩ (loop (b + 1) 0 (by omega) (by omega))
  · have loop : ∀ (j p : Nat), p < b + j → b ≤ p → (p : Int) < v 4 → xX E (("comesAfter", some .int, []), (2, 0, 0), P, PX) RX0 cX0_comesAfter 6 0 0 21 [(0, vr E 41), (1, vi (s : Int)), (2, vi sp), (3, vi (b : Int)), (4, vi (Tm v sp (v 4).toNat - Tm v sp (p + 1))), (5, vi (p : Int))] [] (gS f D n) m := by
      intro j
      induction j with
      | zero => intro p h1 h2; omega
      | succ j ih =>
        intro p h1 h2 h3
        refine x_iload dX0_comesAfter_21 rfl ?_
        refine x_iload_n dX0_comesAfter_23 rfl ?_
        refine x_icmp_le (tgt := 53) dX0_comesAfter_24 (by decide) (by omega) (fun h24 => ?_) (fun h24 => ?_)
        · have hpb : p = b := by omega
          subst hpb
          refine x_iload dX0_comesAfter_53 rfl ?_
          exact x_iret dX0_comesAfter_55  ((by unfold cm at hP; rw [if_pos h10] at hP; exact hP))
        · have hTp : Tm v sp (p + 1) = Tm v sp p + (tk (br v p 0) sp + tk (br v p 2) sp) := rfl
          refine x_iload dX0_comesAfter_27 rfl ?_
          refine x_aload_n dX0_comesAfter_29 rfl ?_
          refine x_iload dX0_comesAfter_30 rfl ?_
          refine x_iload_n dX0_comesAfter_32 rfl ?_
          refine x_V2 mX0_69 dX0_comesAfter_33 rfl (s_lengthTime hv.2.2.2.2.1 hC.2.2.1 (b := p) (by omega) hsp ?_)
          refine x_aload_n dX0_comesAfter_36 rfl ?_
          refine x_iload dX0_comesAfter_37 rfl ?_
          refine x_iload_n dX0_comesAfter_39 rfl ?_
          refine x_V2 mX0_72 dX0_comesAfter_40 rfl (s_farTime hv.2.2.2.2.1 hC.2.2.1 (b := p) (by omega) hsp ?_)
          refine x_iadd dX0_comesAfter_43 ?_
          refine x_iadd dX0_comesAfter_44 ?_
          refine x_istore dX0_comesAfter_45 ?_
          refine x_iinc dX0_comesAfter_47 rfl ?_
          refine x_goto (tgt := 21) dX0_comesAfter_50 (by decide) ?_
          exact x_loc (lv' := [(0, vr E 41), (1, vi (s : Int)), (2, vi sp), (3, vi (b : Int)), (4, vi (Tm v sp (v 4).toNat - Tm v sp (p - 1 + 1))), (5, vi ((p - 1 : Nat) : Int))]) ⟨rfl, rfl, rfl, rfl, xl_i rfl (by rw [show p - 1 + 1 = p by omega]; omega), xl_i rfl (by omega), trivial⟩ (ih (p - 1) (by omega) (by omega) (by omega))
    refine x_aload_n dX0_comesAfter_13 rfl ?_
    refine x_getI fX0_40 dX0_comesAfter_14 rfl ?_
    refine x_top (hC.2.2.1.1) ?_
    refine x_iconst dX0_comesAfter_17 ?_
    refine x_isub dX0_comesAfter_18 ?_
    refine x_istore dX0_comesAfter_19 ?_
    exact x_loc (lv' := [(0, vr E 41), (1, vi (s : Int)), (2, vi sp), (3, vi (b : Int)), (4, vi (Tm v sp (v 4).toNat - Tm v sp ((v 4).toNat - 1 + 1))), (5, vi (((v 4).toNat - 1 : Nat) : Int))]) ⟨rfl, rfl, rfl, rfl, xl_i rfl (by rw [show (v 4).toNat - 1 + 1 = (v 4).toNat by omega]; omega), xl_i rfl (by omega), trivial⟩ (loop (v 4).toNat ((v 4).toNat - 1) (by omega) (by omega) (by omega))

set_option maxRecDepth 20000 in
theorem s_passageTime {E : xE} {f : Nat → Nat} {D : Nat → Nat × Nat} {n : Nat} {m : xM} {P : xPo} {PX : xPx} {v : Nat → Int} {s : Nat} {sp : Int} (hv : vOk0 v) (hC : cC v m) (hs : (s : Int) < v 5) (hsp : 4 ≤ sp ∧ sp ≤ 25) (hP : P (some (vi (pt v s sp))) (gS f D n) m) : xC E (yX0_passageTime, cX0_passageTime, 4, some .int) 3 0 0 [vr E 41, vi (s : Int), vi sp] (gS f D n) m P PX := by
  refine x_enter (by decide) rfl rfl (Nat.le_of_ble_eq_true rfl) ?_
  have hv4 := hv.2.2.2.2.1.1
  have hv5 := hv.2.2.2.2.2.1
  obtain ⟨-, -, -, -, ho, -⟩ := hv.2.2.2.2.2.2 s hs
  unfold pt at hP
  refine x_aload_n dX0_passageTime_0 rfl ?_
  refine x_getI fX0_40 dX0_passageTime_1 rfl ?_
  refine x_top (hC.2.2.1.1) ?_
  refine x_if_ne (tgt := 9) dX0_passageTime_4 (by decide) (by omega) (fun h4 => ?_) (fun h4 => ?_)
  · rw [if_neg h4] at hP
    refine x_aload_n dX0_passageTime_9 rfl ?_
    refine x_iload_n dX0_passageTime_10 rfl ?_
    refine x_iconst dX0_passageTime_11 ?_
    refine x_V2 mX0_59 dX0_passageTime_12 rfl (s_shipOf (8 * s + 5) (by omega) (by omega) ?_)
    refine x_top (hC.2.2.2.s hs (by omega)) ?_
    refine x_iconst dX0_passageTime_15 ?_
    refine x_icmp_ne (tgt := 23) dX0_passageTime_16 (by decide) (by omega) (fun h16 => ?_) (fun h16 => ?_)
    · rw [if_neg h16] at hP
      refine x_aload_n dX0_passageTime_23 rfl ?_
      refine x_getI fX0_40 dX0_passageTime_24 rfl ?_
      refine x_top (hC.2.2.1.1) ?_
      refine x_iconst dX0_passageTime_27 ?_
      refine x_isub dX0_passageTime_28 ?_
      refine x_top (show v 4 - 1 = (((v 4).toNat - 1 : Nat) : Int) by omega) ?_
      refine x_istore_n dX0_passageTime_29 ?_
      refine x_aload_n dX0_passageTime_30 rfl ?_
      refine x_iload_n dX0_passageTime_31 rfl ?_
      refine x_iload_n dX0_passageTime_32 rfl ?_
      refine x_iload_n dX0_passageTime_33 rfl ?_
      refine x_V3 mX0_75 dX0_passageTime_34 rfl (s_comesAfter (b := (v 4).toNat - 1) hv hC hs (by omega) hsp ?_)
      refine x_aload_n dX0_passageTime_37 rfl ?_
      refine x_iload_n dX0_passageTime_38 rfl ?_
      refine x_iload_n dX0_passageTime_39 rfl ?_
      refine x_V2 mX0_69 dX0_passageTime_40 rfl (s_lengthTime (b := (v 4).toNat - 1) hv.2.2.2.2.1 hC.2.2.1 (by omega) hsp ?_)
      refine x_iadd dX0_passageTime_43 ?_
      exact x_iret dX0_passageTime_44  (hP)
    · rw [if_pos h16] at hP
      refine x_iconst dX0_passageTime_19 ?_
      refine x_top (show (0 : Int) = ((0 : Nat) : Int) by rfl) ?_
      refine x_goto (tgt := 29) dX0_passageTime_20 (by decide) ?_
      refine x_istore_n dX0_passageTime_29 ?_
      refine x_aload_n dX0_passageTime_30 rfl ?_
      refine x_iload_n dX0_passageTime_31 rfl ?_
      refine x_iload_n dX0_passageTime_32 rfl ?_
      refine x_iload_n dX0_passageTime_33 rfl ?_
      refine x_V3 mX0_75 dX0_passageTime_34 rfl (s_comesAfter (b := 0) hv hC hs (by omega) hsp ?_)
      refine x_aload_n dX0_passageTime_37 rfl ?_
      refine x_iload_n dX0_passageTime_38 rfl ?_
      refine x_iload_n dX0_passageTime_39 rfl ?_
      refine x_V2 mX0_69 dX0_passageTime_40 rfl (s_lengthTime (b := 0) hv.2.2.2.2.1 hC.2.2.1 (by omega) hsp ?_)
      refine x_iadd dX0_passageTime_43 ?_
      exact x_iret dX0_passageTime_44  (hP)
  · rw [if_pos h4] at hP
    refine x_iconst dX0_passageTime_7 ?_
    exact x_iret dX0_passageTime_8  (hP)

set_option maxRecDepth 20000 in
theorem s_meets {E : xE} {f : Nat → Nat} {D : Nat → Nat × Nat} {n : Nat} {m : xM} {P : xPo} {PX : xPx} {v : Nat → Int} {s o : Nat} {st sp : Int} (hv : vOk0 v) (hC : cC v m) (hs : (s : Int) < v 5) (ho : (o : Int) < v 5) (hbk : 0 ≤ sh v o 6) (hsp : 4 ≤ sp ∧ sp ≤ 25) (hst : 0 ≤ st ∧ st ≤ 20000) (hP : P (some (vi (zi (near v s st sp o)))) (gS f D n) m) : xC E (yX0_meets, cX0_meets, 12, some .boolean) 3 0 0 [vr E 41, vi (s : Int), vi st, vi sp, vi (o : Int)] (gS f D n) m P PX := by
  refine x_enter (by decide) rfl rfl (Nat.le_of_ble_eq_true rfl) ?_
  have hv4 := hv.2.2.2.2.1.1
  have hv5 := hv.2.2.2.2.2.1
  have hv1 := hv.2.1
  obtain ⟨-, -, -, -, -, hbo⟩ := hv.2.2.2.2.2.2 o ho
  have loop : ∀ (j b : Nat), v 4 < (b : Int) + j → (b : Int) ≤ v 4 → (∀ c, c < b → ¬ (apt v s st sp o c = 0 ∨ apt v s st sp o c < v 1)) → xX E (("meets", some .boolean, []), (3, 0, 0), P, PX) RX0 cX0_meets 12 0 0 13 [(0, vr E 41), (1, vi (s : Int)), (2, vi st), (3, vi sp), (4, vi (o : Int)), (5, vi (sh v o 7)), (6, vi (b : Int))] [] (gS f D n) m := by
    intro j
    induction j with
    | zero => intro b h1 h2; omega
    | succ j ih =>
      intro b h1 h2 hno
      refine x_iload dX0_meets_13 rfl ?_
      refine x_aload_n dX0_meets_15 rfl ?_
      refine x_getI fX0_40 dX0_meets_16 rfl ?_
      refine x_top (hC.2.2.1.1) ?_
      refine x_icmp_ge (tgt := 121) dX0_meets_19 (by decide) (by omega) (fun h19 => ?_) (fun h19 => ?_)
      · refine x_iconst dX0_meets_121 ?_
        exact x_zret dX0_meets_122 (Or.inl rfl) ((by rw [zi_f (fun ⟨c, q1, q2⟩ => hno c (by omega) q2)] at hP; exact hP))
      · have hb : (b : Int) < v 4 := by omega
        have hc1 := cm_b (s := s) hv.2.2.2.2.1 hsp hb
        have hc2 := cm_b (s := o) hv.2.2.2.2.1 (sp := sh v o 7) (by omega) hb
        have hl1 := sg_b hv.2.2.2.2.1 hb hsp
        have hl2 := sg_b hv.2.2.2.2.1 hb (sp := sh v o 7) (by omega)
        refine x_iload_n dX0_meets_22 rfl ?_
        refine x_aload_n dX0_meets_23 rfl ?_
        refine x_iload_n dX0_meets_24 rfl ?_
        refine x_iload_n dX0_meets_25 rfl ?_
        refine x_iload dX0_meets_26 rfl ?_
        refine x_V3 mX0_75 dX0_meets_28 rfl (s_comesAfter hv hC hs hb hsp ?_)
        refine x_iadd dX0_meets_31 ?_
        refine x_istore dX0_meets_32 ?_
        refine x_iload dX0_meets_34 rfl ?_
        refine x_aload_n dX0_meets_36 rfl ?_
        refine x_iload dX0_meets_37 rfl ?_
        refine x_iload_n dX0_meets_39 rfl ?_
        refine x_V2 mX0_69 dX0_meets_40 rfl (s_lengthTime hv.2.2.2.2.1 hC.2.2.1 hb hsp ?_)
        refine x_iadd dX0_meets_43 ?_
        refine x_istore dX0_meets_44 ?_
        refine x_aload_n dX0_meets_46 rfl ?_
        refine x_iload dX0_meets_47 rfl ?_
        refine x_bipush dX0_meets_49 (h := ?_)
        refine x_V2 mX0_59 dX0_meets_51 rfl (s_shipOf (8 * o + 6) (by omega) (by omega) ?_)
        refine x_top (hC.2.2.2.s ho (by omega)) ?_
        refine x_aload_n dX0_meets_54 rfl ?_
        refine x_iload dX0_meets_55 rfl ?_
        refine x_iload dX0_meets_57 rfl ?_
        refine x_iload dX0_meets_59 rfl ?_
        refine x_V3 mX0_75 dX0_meets_61 rfl (s_comesAfter hv hC ho hb (by omega) ?_)
        refine x_iadd dX0_meets_64 ?_
        refine x_istore dX0_meets_65 ?_
        refine x_iload dX0_meets_67 rfl ?_
        refine x_aload_n dX0_meets_69 rfl ?_
        refine x_iload dX0_meets_70 rfl ?_
        refine x_iload dX0_meets_72 rfl ?_
        refine x_V2 mX0_69 dX0_meets_74 rfl (s_lengthTime hv.2.2.2.2.1 hC.2.2.1 hb (by omega) ?_)
        refine x_iadd dX0_meets_77 ?_
        refine x_istore dX0_meets_78 ?_
        refine x_iconst dX0_meets_80 ?_
        refine x_iload dX0_meets_81 rfl ?_
        refine x_iload dX0_meets_83 rfl ?_
        refine x_isub dX0_meets_85 ?_
        refine x_iload dX0_meets_86 rfl ?_
        refine x_iload dX0_meets_88 rfl ?_
        refine x_isub dX0_meets_90 ?_
        refine x_S2 mX0_79 dX0_meets_91 (s_max (by omega) ?_)
        refine x_S2 mX0_79 dX0_meets_94 (s_max (by omega) ?_)
        refine x_istore dX0_meets_97 ?_
        refine x_iload dX0_meets_99 rfl ?_
        refine x_if_eq (tgt := 113) dX0_meets_101 (by decide) (by omega) (fun h101 => ?_) (fun h101 => ?_)
        · refine x_iconst dX0_meets_113 ?_
          exact x_zret dX0_meets_114 (Or.inr rfl) ((by rw [zi_t ⟨b, hb, by unfold apt; omega⟩] at hP; exact hP))
        · refine x_iload dX0_meets_104 rfl ?_
          refine x_aload_n dX0_meets_106 rfl ?_
          refine x_getI fX0_9 dX0_meets_107 rfl ?_
          refine x_top (hC.1.2.1) ?_
          refine x_icmp_ge (tgt := 115) dX0_meets_110 (by decide) (by omega) (fun h110 => ?_) (fun h110 => ?_)
          · refine x_iinc dX0_meets_115 rfl ?_
            refine x_goto (tgt := 13) dX0_meets_118 (by decide) ?_
            exact x_loc (lv' := [(0, vr E 41), (1, vi (s : Int)), (2, vi st), (3, vi sp), (4, vi (o : Int)), (5, vi (sh v o 7)), (6, vi ((b + 1 : Nat) : Int))]) ⟨rfl, rfl, rfl, rfl, rfl, rfl, xl_i rfl (by omega), trivial⟩ (ih (b + 1) (by omega) (by omega) (lt_s hno (by unfold apt; omega)))
          · refine x_iconst dX0_meets_113 ?_
            exact x_zret dX0_meets_114 (Or.inr rfl) ((by rw [zi_t ⟨b, hb, by unfold apt; omega⟩] at hP; exact hP))
  refine x_aload_n dX0_meets_0 rfl ?_
  refine x_iload dX0_meets_1 rfl ?_
  refine x_bipush dX0_meets_3 (h := ?_)
  refine x_V2 mX0_59 dX0_meets_5 rfl (s_shipOf (8 * o + 7) (by omega) (by omega) ?_)
  refine x_top (hC.2.2.2.s ho (by omega)) ?_
  refine x_istore dX0_meets_8 ?_
  refine x_iconst dX0_meets_10 ?_
  refine x_istore dX0_meets_11 ?_
  exact x_loc (lv' := [(0, vr E 41), (1, vi (s : Int)), (2, vi st), (3, vi sp), (4, vi (o : Int)), (5, vi (sh v o 7)), (6, vi ((0 : Nat) : Int))]) ⟨rfl, rfl, rfl, rfl, rfl, rfl, rfl, trivial⟩ (loop ((v 4).toNat + 1) 0 (by omega) (by omega) (fun c hc => absurd hc (Nat.not_lt_zero c)))

end CT
