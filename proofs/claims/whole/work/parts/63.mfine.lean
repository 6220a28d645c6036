section MF
set_option maxRecDepth 20000 in
theorem s_endsIn {E : xE} {f : Nat → Nat} {D : Nat → Nat × Nat} {n : Nat} {m : xM} {P : xPo} {PX : xPx} {v : Nat → Int} {s : Nat} {st sp : Int} (hv : vOk v) (hN : mN v m) (hs : (s : Int) < v 5) (hsp : 4 ≤ sp ∧ sp ≤ 25) (hP : P (some (vi (st + pt v s sp))) (gS f D n) m) : xC E (yX6_endsIn, cX6_endsIn, 5, some .int) 3 0 0 [vr E 96, vi (s : Int), vi st, vi sp] (gS f D n) m P PX := by
  refine x_enter (by decide) rfl rfl (Nat.le_of_ble_eq_true rfl) ?_
  have hv5 := hv.1.2.2.2.2.2.1
  have hv4 := hv.1.2.2.2.2.1.1
  rw [pt_pa hv4.1] at hP
  refine x_aload_n dX6_endsIn_0 rfl ?_
  refine x_getR (r := 98) fX6_17 dX6_endsIn_1 rfl rfl ?_
  refine x_iconst dX6_endsIn_4 ?_
  refine x_iald (j := 4) dX6_endsIn_5 rfl rfl (show 4 < 709 by omega) (by omega) ?_
  refine x_top (hN 4 (by omega)) ?_
  refine x_iconst dX6_endsIn_6 ?_
  refine x_isub dX6_endsIn_7 ?_
  refine x_istore dX6_endsIn_8 ?_
  refine x_iload dX6_endsIn_10 rfl ?_
  refine x_if_ge (tgt := 19) dX6_endsIn_12 (by decide) (by omega) (fun h12 => ?_) (fun h12 => ?_)
  · obtain ⟨i, hi⟩ : ∃ i : Nat, v 4 - 1 = (i : Int) := ⟨(v 4).toNat - 1, by omega⟩
    have hlo := (hv.1.2.2.2.2.1.2 (bo v s i) (bo_b hv4.1 (by omega))).2.2.1
    refine x_aload_n dX6_endsIn_19 rfl ?_
    refine x_iload_n dX6_endsIn_20 rfl ?_
    refine x_iload_n dX6_endsIn_21 rfl ?_
    refine x_iload_n dX6_endsIn_22 rfl ?_
    refine x_iload dX6_endsIn_23 rfl ?_
    refine x_top (hi) ?_
    refine x_V4 mX6_274 dX6_endsIn_25 rfl (s_comesTo hv hN hs (by omega) hsp ?_)
    refine x_aload_n dX6_endsIn_28 rfl ?_
    refine x_aload_n dX6_endsIn_29 rfl ?_
    refine x_iload_n dX6_endsIn_30 rfl ?_
    refine x_iload dX6_endsIn_31 rfl ?_
    refine x_top (hi) ?_
    refine x_V2 mX6_271 dX6_endsIn_33 rfl (s_barOn hv hN hs (by omega) ?_)
    refine x_iconst dX6_endsIn_36 ?_
    refine x_V2 mX6_222 dX6_endsIn_37 rfl (s_ofBar (24 + 6 * bo v s i + 2) (by omega) (by have := bo_b (s := s) (i := i) hv4.1 (by omega); omega) ?_)
    refine x_top (hN.b (b := bo v s i) (by have := bo_b (s := s) (i := i) hv4.1 (by omega); omega) (by omega)) ?_
    refine x_iload_n dX6_endsIn_40 rfl ?_
    refine x_S2 mX6_261 dX6_endsIn_41 (s_takes (by omega) (by omega) ?_)
    refine x_iadd dX6_endsIn_44 ?_
    exact x_iret dX6_endsIn_45  (by rw [show (v 4).toNat = i + 1 by omega] at hP; rw [Int.add_assoc]; exact hP)
  · refine x_iload_n dX6_endsIn_15 rfl ?_
    refine x_goto (tgt := 45) dX6_endsIn_16 (by decide) ?_
    exact x_iret dX6_endsIn_45  (by rw [show (v 4).toNat = 0 by omega, show pa v s sp 0 = 0 from rfl, Int.add_zero] at hP; exact hP)

set_option maxRecDepth 20000 in
theorem s_misGood {E : xE} {f : Nat → Nat} {D : Nat → Nat × Nat} {n : Nat} {m : xM} {P : xPo} {PX : xPx} {v : Nat → Int} {s : Nat} {dr st sp : Int} (hv : vOk v) (hN : mN v m) (hs : (s : Int) < v 5) (hdr : 0 ≤ dr ∧ dr ≤ 3000) (ht : 0 ≤ st ∧ st ≤ 20000) (hsp : 4 ≤ sp ∧ sp ≤ 25) (hP : ∀ m', ag [103] m m' → P (some (vi (zi (good v s dr st sp)))) (gS f D n) m') : xC E (yX6_isGood, cX6_isGood, 7, some .boolean) 7 0 0 [vr E 96, vi (s : Int), vi dr, vi st, vi sp] (gS f D n) m P PX := by
  refine x_enter (by decide) rfl rfl (Nat.le_of_ble_eq_true rfl) ?_
  have hv5 := hv.1.2.2.2.2.2.1
  have hv4 := hv.1.2.2.2.2.1.1
  have loop : ∀ (j i : Nat) (m1 : xM), v 4 < (i : Int) + j → (i : Int) ≤ v 4 → ag [103] m m1 → (∀ q, q < i → pas v s dr (bo v s q) (st + cm v s sp (bo v s q)) sp) → xX E (("isGood", some .boolean, []), (7, 0, 0), P, PX) RX6 cX6_isGood 7 0 0 6 [(0, vr E 96), (1, vi (s : Int)), (2, vi dr), (3, vi st), (4, vi sp), (5, vi (st + pa v s sp i)), (6, vi (i : Int))] [] (gS f D n) m1 := by
    intro j
    induction j with
    | zero => intro i m1 h1 h2; omega
    | succ j ih =>
      intro i m1 h1 h2 ha1 hc
      refine x_iload dX6_isGood_6 rfl ?_
      refine x_aload_n dX6_isGood_8 rfl ?_
      refine x_getR (r := 98) fX6_17 dX6_isGood_9 rfl rfl ?_
      refine x_iconst dX6_isGood_12 ?_
      refine x_iald (j := 4) dX6_isGood_13 rfl rfl (show 4 < 709 by omega) (by omega) ?_
      refine x_top ((hN.ag ha1 (by decide)) 4 (by omega)) ?_
      refine x_icmp_ge (tgt := 84) dX6_isGood_14 (by decide) (by omega) (fun h14 => ?_) (fun h14 => ?_)
      · refine x_iconst dX6_isGood_84 ?_
        exact x_zret dX6_isGood_85 (Or.inr rfl) (by have hP := hP m1 ha1; rw [zi_t ((good_bo hv4.1).mpr (fun q hq => hc q (by omega)))] at hP; exact hP)
      · have hi : (i : Int) < v 4 := by omega
        have hfo := fo_b (s := s) hv.1.2.2.2.2.1 hi
        have hlo := (hv.1.2.2.2.2.1.2 (bo v s i) (bo_b hv4.1 hi)).2.2.1
        have hcp := cm_pa (s := s) (sp := sp) hv4.1 hi
        have hff := fr_fo (v := v) (s := s) (i := i) hsp
        have hcb := cm_b (s := s) hv.1.2.2.2.2.1 hsp (bo_b (s := s) hv4.1 hi)
        refine x_iload dX6_isGood_17 rfl ?_
        refine x_aload_n dX6_isGood_19 rfl ?_
        refine x_iload_n dX6_isGood_20 rfl ?_
        refine x_iload dX6_isGood_21 rfl ?_
        refine x_V2 mX6_268 dX6_isGood_23 rfl (s_farOn hv (hN.ag ha1 (by decide)) hs hi ?_)
        refine x_iload dX6_isGood_26 rfl ?_
        refine x_S2 mX6_261 dX6_isGood_28 (s_takes (by omega) (by omega) ?_)
        refine x_iadd dX6_isGood_31 ?_
        refine x_top (show st + pa v s sp i + tk (fo v s i) sp = st + cm v s sp (bo v s i) by omega) ?_
        refine x_istore dX6_isGood_32 ?_
        refine x_aload_n dX6_isGood_34 rfl ?_
        refine x_iload_n dX6_isGood_35 rfl ?_
        refine x_iload_n dX6_isGood_36 rfl ?_
        refine x_aload_n dX6_isGood_37 rfl ?_
        refine x_iload_n dX6_isGood_38 rfl ?_
        refine x_iload dX6_isGood_39 rfl ?_
        refine x_V2 mX6_271 dX6_isGood_41 rfl (s_barOn hv (hN.ag ha1 (by decide)) hs hi ?_)
        refine x_iload dX6_isGood_44 rfl ?_
        refine x_iload dX6_isGood_46 rfl ?_
        refine x_V5 mX6_277 dX6_isGood_48 rfl (s_canPass hv (hN.ag ha1 (by decide)) hs (bo_b hv4.1 hi) hdr (by omega) hsp (fun m2 ha2 => ?_))
        refine x_if_ne (tgt := 56) dX6_isGood_51 (by decide) (zi_r _) (fun h51 => ?_) (fun h51 => ?_)
        · have hx := zi_1.mp h51
          have hN2 := (hN.ag ha1 (by decide)).ag ha2 (by decide)
          refine x_iload dX6_isGood_56 rfl ?_
          refine x_aload_n dX6_isGood_58 rfl ?_
          refine x_aload_n dX6_isGood_59 rfl ?_
          refine x_iload_n dX6_isGood_60 rfl ?_
          refine x_iload dX6_isGood_61 rfl ?_
          refine x_V2 mX6_271 dX6_isGood_63 rfl (s_barOn hv hN2 hs hi ?_)
          refine x_iconst dX6_isGood_66 ?_
          refine x_V2 mX6_222 dX6_isGood_67 rfl (s_ofBar (24 + 6 * bo v s i + 2) (by omega) (by have := bo_b (s := s) (i := i) hv4.1 (by omega); omega) ?_)
          refine x_top (hN2.b (b := bo v s i) (by have := bo_b (s := s) (i := i) hv4.1 (by omega); omega) (by omega)) ?_
          refine x_iload dX6_isGood_70 rfl ?_
          refine x_S2 mX6_261 dX6_isGood_72 (s_takes (by omega) (by omega) ?_)
          refine x_iadd dX6_isGood_75 ?_
          refine x_istore dX6_isGood_76 ?_
          refine x_iinc dX6_isGood_78 rfl ?_
          refine x_goto (tgt := 6) dX6_isGood_81 (by decide) ?_
          exact x_loc (lv' := [(0, vr E 96), (1, vi (s : Int)), (2, vi dr), (3, vi st), (4, vi sp), (5, vi (st + pa v s sp (i + 1))), (6, vi ((i + 1 : Nat) : Int))]) ⟨rfl, rfl, rfl, rfl, rfl, xl_i rfl (by show _ = st + (cm v s sp (bo v s i) + tk (br v (bo v s i) 2) sp); omega), xl_i rfl (by omega), trivial⟩ (ih (i + 1) m2 (by omega) (by omega) (ha1.tr1 ha2) (fun q hq => by rcases (by omega : q < i ∨ q = i) with z | z; exact hc q z; exact z ▸ hx))
        · have hx := zi_0.mp h51
          refine x_iconst dX6_isGood_54 ?_
          exact x_zret dX6_isGood_55 (Or.inl rfl) (by have hP := hP m2 (ha1.tr1 ha2); rw [zi_f (fun z => hx ((good_bo hv4.1).mp z i hi))] at hP; exact hP)
  refine x_iload_n dX6_isGood_0 rfl ?_
  refine x_istore dX6_isGood_1 ?_
  refine x_iconst dX6_isGood_3 ?_
  refine x_istore dX6_isGood_4 ?_
  exact x_loc (lv' := [(0, vr E 96), (1, vi (s : Int)), (2, vi dr), (3, vi st), (4, vi sp), (5, vi (st + pa v s sp 0)), (6, vi ((0 : Nat) : Int))]) ⟨rfl, rfl, rfl, rfl, rfl, xl_i rfl (by show st = st + 0; omega), rfl, trivial⟩ (loop 7 0 m (by omega) (by omega) ag.rf (fun q hq => absurd hq (Nat.not_lt_zero q)))

set_option maxRecDepth 20000 in
theorem s_goesWell {E : xE} {f : Nat → Nat} {D : Nat → Nat × Nat} {n : Nat} {m : xM} {P : xPo} {PX : xPx} {v : Nat → Int} {s : Nat} {st sp : Int} (hv : vOk v) (hN : mN v m) (hs : (s : Int) < v 5) (ht : 0 ≤ st ∧ st ≤ 20000) (hsp : 4 ≤ sp ∧ sp ≤ 25) (hP : ∀ m', ag [103] m m' → P (some (vi (zi (good v s (sh v s 0) st sp)))) (gS f D n) m') : xC E (yX6_goesWell, cX6_goesWell, 4, some .boolean) 8 0 0 [vr E 96, vi (s : Int), vi st, vi sp] (gS f D n) m P PX := by
  refine x_enter (by decide) rfl rfl (Nat.le_of_ble_eq_true rfl) ?_
  have hv5 := hv.1.2.2.2.2.2.1
  have hv4 := hv.1.2.2.2.2.1.1
  obtain ⟨hdr, -⟩ := hv.1.2.2.2.2.2.2 s hs
  refine x_aload_n dX6_goesWell_0 rfl ?_
  refine x_iload_n dX6_goesWell_1 rfl ?_
  refine x_aload_n dX6_goesWell_2 rfl ?_
  refine x_iload_n dX6_goesWell_3 rfl ?_
  refine x_iconst dX6_goesWell_4 ?_
  refine x_V2 mX6_241 dX6_goesWell_5 rfl (s_ofShip (60 + 8 * s + 0) (by omega) (by omega) ?_)
  refine x_top (hN.s (s := s) (by omega) (by omega)) ?_
  refine x_iload_n dX6_goesWell_8 rfl ?_
  refine x_iload_n dX6_goesWell_9 rfl ?_
  refine x_V4 mX6_280 dX6_goesWell_10 rfl (s_misGood hv hN hs (by omega) ht hsp (fun m1 ha => ?_))
  exact x_zret dX6_goesWell_13 (zi_01 _) (hP m1 ha)

def bk (v : Nat → Int) (s : Nat) : Prop := sh v s 6 ≠ -1
set_option maxRecDepth 20000 in
theorem s_misBooked {E : xE} {f : Nat → Nat} {D : Nat → Nat × Nat} {n : Nat} {m : xM} {P : xPo} {PX : xPx} {v : Nat → Int} {s : Nat} (hv : vOk v) (hN : mN v m) (hs : (s : Int) < v 5) (hP : P (some (vi (zi (bk v s)))) (gS f D n) m) : xC E (yX6_isBooked, cX6_isBooked, 2, some .boolean) 1 0 0 [vr E 96, vi (s : Int)] (gS f D n) m P PX := by
  refine x_enter (by decide) rfl rfl (Nat.le_of_ble_eq_true rfl) ?_
  have hv5 := hv.1.2.2.2.2.2.1
  have hv4 := hv.1.2.2.2.2.1.1
  obtain ⟨-, -, -, -, -, hbk⟩ := hv.1.2.2.2.2.2.2 s hs
  refine x_aload_n dX6_isBooked_0 rfl ?_
  refine x_iload_n dX6_isBooked_1 rfl ?_
  refine x_bipush dX6_isBooked_2 (h := ?_)
  refine x_V2 mX6_241 dX6_isBooked_4 rfl (s_ofShip (60 + 8 * s + 6) (by omega) (by omega) ?_)
  refine x_top (hN.s (s := s) (by omega) (by omega)) ?_
  refine x_iconst dX6_isBooked_7 ?_
  refine x_icmp_eq (tgt := 15) dX6_isBooked_8 (by decide) (by omega) (fun h8 => ?_) (fun h8 => ?_)
  · refine x_iconst dX6_isBooked_15 ?_
    exact x_zret dX6_isBooked_16 (Or.inl rfl) (by rw [zi_f (fun z => z (by omega))] at hP; exact hP)
  · refine x_iconst dX6_isBooked_11 ?_
    refine x_goto (tgt := 16) dX6_isBooked_12 (by decide) ?_
    exact x_zret dX6_isBooked_16 (Or.inr rfl) (by rw [zi_t (show bk v s from fun z => h8 z)] at hP; exact hP)

set_option maxRecDepth 20000 in
theorem s_areClose {E : xE} {f : Nat → Nat} {D : Nat → Nat × Nat} {n : Nat} {m : xM} {P : xPo} {PX : xPx} {v : Nat → Int} {s o : Nat} {st sp : Int} (hv : vOk v) (hN : mN v m) (hs : (s : Int) < v 5) (ho : (o : Int) < v 5) (hbk : bk v o) (hsp : 4 ≤ sp ∧ sp ≤ 25) (hst : 0 ≤ st ∧ st ≤ 20000) (hP : P (some (vi (zi (near v s st sp o)))) (gS f D n) m) : xC E (yX6_areClose, cX6_areClose, 14, some .boolean) 3 0 0 [vr E 96, vi (s : Int), vi st, vi sp, vi (o : Int), vi (sh v o 6), vi (sh v o 7)] (gS f D n) m P PX := by
  refine x_enter (by decide) rfl rfl (Nat.le_of_ble_eq_true rfl) ?_
  have hv5 := hv.1.2.2.2.2.2.1
  have hv4 := hv.1.2.2.2.2.1.1
  have hv1 := hv.1.2.1
  obtain ⟨-, -, -, hls, hou, hbo9⟩ := hv.1.2.2.2.2.2.2 o ho
  have hb6 : ¬ sh v o 6 = -1 := hbk
  have loop : ∀ (j i : Nat), v 4 < (i : Int) + j → (i : Int) ≤ v 4 → (∀ c, c < i → ¬ (apt v s st sp o (bo v s c) = 0 ∨ apt v s st sp o (bo v s c) < v 1)) → xX E (("areClose", some .boolean, []), (3, 0, 0), P, PX) RX6 cX6_areClose 14 0 0 3 [(0, vr E 96), (1, vi (s : Int)), (2, vi st), (3, vi sp), (4, vi (o : Int)), (5, vi (sh v o 6)), (6, vi (sh v o 7)), (7, vi (i : Int))] [] (gS f D n) m := by
    intro j
    induction j with
    | zero => intro i h1 h2; omega
    | succ j ih =>
      intro i h1 h2 hno
      refine x_iload dX6_areClose_3 rfl ?_
      refine x_aload_n dX6_areClose_5 rfl ?_
      refine x_getR (r := 98) fX6_17 dX6_areClose_6 rfl rfl ?_
      refine x_iconst dX6_areClose_9 ?_
      refine x_iald (j := 4) dX6_areClose_10 rfl rfl (show 4 < 709 by omega) (by omega) ?_
      refine x_top (hN 4 (by omega)) ?_
      refine x_icmp_ge (tgt := 149) dX6_areClose_11 (by decide) (by omega) (fun h11 => ?_) (fun h11 => ?_)
      · refine x_iconst dX6_areClose_149 ?_
        exact x_zret dX6_areClose_150 (Or.inl rfl) (by rw [zi_f (fun ⟨b, hb, z⟩ => hno (bo v s b) (by have := bo_b (s := s) hv4.1 hb; omega) (by rw [bo_bo hb]; exact z))] at hP; exact hP)
      · have hi : (i : Int) < v 4 := by omega
        have hbo := bo_b (s := s) hv4.1 hi
        have hlo := (hv.1.2.2.2.2.1.2 (bo v s i) hbo).2.2.1
        have hc1 := cm_b (s := s) hv.1.2.2.2.2.1 hsp hbo
        have hc2 := cm_b (s := o) hv.1.2.2.2.2.1 (show 4 ≤ sh v o 7 ∧ sh v o 7 ≤ 25 by omega) hbo
        have hg1 := sg_b hv.1.2.2.2.2.1 hbo hsp
        have hg2 := sg_b hv.1.2.2.2.2.1 hbo (show 4 ≤ sh v o 7 ∧ sh v o 7 ≤ 25 by omega)
        refine x_aload_n dX6_areClose_14 rfl ?_
        refine x_iload_n dX6_areClose_15 rfl ?_
        refine x_iload dX6_areClose_16 rfl ?_
        refine x_V2 mX6_271 dX6_areClose_18 rfl (s_barOn hv hN hs hi ?_)
        refine x_istore dX6_areClose_21 ?_
        refine x_aload_n dX6_areClose_23 rfl ?_
        refine x_iload_n dX6_areClose_24 rfl ?_
        refine x_iload_n dX6_areClose_25 rfl ?_
        refine x_iload_n dX6_areClose_26 rfl ?_
        refine x_iload dX6_areClose_27 rfl ?_
        refine x_V4 mX6_274 dX6_areClose_29 rfl (s_comesTo hv hN hs hi hsp ?_)
        refine x_istore dX6_areClose_32 ?_
        refine x_iload dX6_areClose_34 rfl ?_
        refine x_aload_n dX6_areClose_36 rfl ?_
        refine x_iload dX6_areClose_37 rfl ?_
        refine x_iconst dX6_areClose_39 ?_
        refine x_V2 mX6_222 dX6_areClose_40 rfl (s_ofBar (24 + 6 * bo v s i + 2) (by omega) (by omega) ?_)
        refine x_top (hN.b (b := bo v s i) (by omega) (by omega)) ?_
        refine x_iload_n dX6_areClose_43 rfl ?_
        refine x_S2 mX6_261 dX6_areClose_44 (s_takes (by omega) (by omega) ?_)
        refine x_iadd dX6_areClose_47 ?_
        refine x_istore dX6_areClose_48 ?_
        refine x_aload_n dX6_areClose_50 rfl ?_
        refine x_iload dX6_areClose_51 rfl ?_
        refine x_iload dX6_areClose_53 rfl ?_
        refine x_iload dX6_areClose_55 rfl ?_
        refine x_aload_n dX6_areClose_57 rfl ?_
        refine x_iload dX6_areClose_58 rfl ?_
        refine x_iconst dX6_areClose_60 ?_
        refine x_V2 mX6_241 dX6_areClose_61 rfl (s_ofShip (60 + 8 * o + 5) (by omega) (by omega) ?_)
        refine x_top (hN.s (s := o) (by omega) (by omega)) ?_
        refine x_iconst dX6_areClose_64 ?_
        refine x_icmp_ne (tgt := 82) dX6_areClose_65 (by decide) (by omega) (fun h65 => ?_) (fun h65 => ?_)
        · refine x_iload dX6_areClose_82 rfl ?_
          refine x_top (show ((bo v s i : Nat) : Int) = ((bo v o (bo v s i) : Nat) : Int) by (have e : bo v o (bo v s i) = bo v s i := if_neg h65); rw [e]) ?_
          refine x_V4 mX6_274 dX6_areClose_84 rfl (s_comesTo (i := bo v o (bo v s i)) hv hN ho (bo_b hv4.1 hbo) (by omega) ?_)
          refine x_top (show sh v o 6 + cm v o (sh v o 7) (bo v o (bo v o (bo v s i))) = sh v o 6 + cm v o (sh v o 7) (bo v s i) by rw [bo_bo hbo]) ?_
          refine x_istore dX6_areClose_87 ?_
          refine x_iload dX6_areClose_89 rfl ?_
          refine x_aload_n dX6_areClose_91 rfl ?_
          refine x_iload dX6_areClose_92 rfl ?_
          refine x_iconst dX6_areClose_94 ?_
          refine x_V2 mX6_222 dX6_areClose_95 rfl (s_ofBar (24 + 6 * bo v s i + 2) (by omega) (by omega) ?_)
          refine x_top (hN.b (b := bo v s i) (by omega) (by omega)) ?_
          refine x_iload dX6_areClose_98 rfl ?_
          refine x_S2 mX6_261 dX6_areClose_100 (s_takes (by omega) (by omega) ?_)
          refine x_iadd dX6_areClose_103 ?_
          refine x_istore dX6_areClose_104 ?_
          refine x_iconst dX6_areClose_106 ?_
          refine x_iload dX6_areClose_107 rfl ?_
          refine x_iload dX6_areClose_109 rfl ?_
          refine x_isub dX6_areClose_111 ?_
          refine x_iload dX6_areClose_112 rfl ?_
          refine x_iload dX6_areClose_114 rfl ?_
          refine x_isub dX6_areClose_116 ?_
          refine x_S2 mX6_160 dX6_areClose_117 (s_max (by omega) ?_)
          refine x_S2 mX6_160 dX6_areClose_120 (s_max (by omega) ?_)
          refine x_istore dX6_areClose_123 ?_
          refine x_iload dX6_areClose_125 rfl ?_
          refine x_if_eq (tgt := 141) dX6_areClose_127 (by decide) (by omega) (fun h127 => ?_) (fun h127 => ?_)
          · refine x_iconst dX6_areClose_141 ?_
            exact x_zret dX6_areClose_142 (Or.inr rfl) (by rw [zi_t (show near v s st sp o from ⟨bo v s i, hbo, by unfold apt; omega⟩)] at hP; exact hP)
          · refine x_iload dX6_areClose_130 rfl ?_
            refine x_aload_n dX6_areClose_132 rfl ?_
            refine x_getR (r := 98) fX6_17 dX6_areClose_133 rfl rfl ?_
            refine x_iconst dX6_areClose_136 ?_
            refine x_iald (j := 1) dX6_areClose_137 rfl rfl (show 1 < 709 by omega) (by omega) ?_
            refine x_top (hN 1 (by omega)) ?_
            refine x_icmp_ge (tgt := 143) dX6_areClose_138 (by decide) (by omega) (fun h138 => ?_) (fun h138 => ?_)
            · refine x_iinc dX6_areClose_143 rfl ?_
              refine x_goto (tgt := 3) dX6_areClose_146 (by decide) ?_
              exact x_loc (lv' := [(0, vr E 96), (1, vi (s : Int)), (2, vi st), (3, vi sp), (4, vi (o : Int)), (5, vi (sh v o 6)), (6, vi (sh v o 7)), (7, vi ((i + 1 : Nat) : Int))]) ⟨rfl, rfl, rfl, rfl, rfl, rfl, rfl, xl_i rfl (by omega), trivial⟩ (ih (i + 1) (by omega) (by omega) (lt_s hno (by unfold apt; omega)))
            · refine x_iconst dX6_areClose_141 ?_
              exact x_zret dX6_areClose_142 (Or.inr rfl) (by rw [zi_t (show near v s st sp o from ⟨bo v s i, hbo, by unfold apt; omega⟩)] at hP; exact hP)
        · refine x_aload_n dX6_areClose_68 rfl ?_
          refine x_getR (r := 98) fX6_17 dX6_areClose_69 rfl rfl ?_
          refine x_iconst dX6_areClose_72 ?_
          refine x_iald (j := 4) dX6_areClose_73 rfl rfl (show 4 < 709 by omega) (by omega) ?_
          refine x_top (hN 4 (by omega)) ?_
          refine x_iconst dX6_areClose_74 ?_
          refine x_isub dX6_areClose_75 ?_
          refine x_iload dX6_areClose_76 rfl ?_
          refine x_isub dX6_areClose_78 ?_
          refine x_goto (tgt := 84) dX6_areClose_79 (by decide) ?_
          refine x_top (show v 4 - 1 - ((bo v s i : Nat) : Int) = ((bo v o (bo v s i) : Nat) : Int) by (have e : bo v o (bo v s i) = (v 4).toNat - 1 - bo v s i := if_pos (by omega)); omega) ?_
          refine x_V4 mX6_274 dX6_areClose_84 rfl (s_comesTo (i := bo v o (bo v s i)) hv hN ho (bo_b hv4.1 hbo) (by omega) ?_)
          refine x_top (show sh v o 6 + cm v o (sh v o 7) (bo v o (bo v o (bo v s i))) = sh v o 6 + cm v o (sh v o 7) (bo v s i) by rw [bo_bo hbo]) ?_
          refine x_istore dX6_areClose_87 ?_
          refine x_iload dX6_areClose_89 rfl ?_
          refine x_aload_n dX6_areClose_91 rfl ?_
          refine x_iload dX6_areClose_92 rfl ?_
          refine x_iconst dX6_areClose_94 ?_
          refine x_V2 mX6_222 dX6_areClose_95 rfl (s_ofBar (24 + 6 * bo v s i + 2) (by omega) (by omega) ?_)
          refine x_top (hN.b (b := bo v s i) (by omega) (by omega)) ?_
          refine x_iload dX6_areClose_98 rfl ?_
          refine x_S2 mX6_261 dX6_areClose_100 (s_takes (by omega) (by omega) ?_)
          refine x_iadd dX6_areClose_103 ?_
          refine x_istore dX6_areClose_104 ?_
          refine x_iconst dX6_areClose_106 ?_
          refine x_iload dX6_areClose_107 rfl ?_
          refine x_iload dX6_areClose_109 rfl ?_
          refine x_isub dX6_areClose_111 ?_
          refine x_iload dX6_areClose_112 rfl ?_
          refine x_iload dX6_areClose_114 rfl ?_
          refine x_isub dX6_areClose_116 ?_
          refine x_S2 mX6_160 dX6_areClose_117 (s_max (by omega) ?_)
          refine x_S2 mX6_160 dX6_areClose_120 (s_max (by omega) ?_)
          refine x_istore dX6_areClose_123 ?_
          refine x_iload dX6_areClose_125 rfl ?_
          refine x_if_eq (tgt := 141) dX6_areClose_127 (by decide) (by omega) (fun h127 => ?_) (fun h127 => ?_)
          · refine x_iconst dX6_areClose_141 ?_
            exact x_zret dX6_areClose_142 (Or.inr rfl) (by rw [zi_t (show near v s st sp o from ⟨bo v s i, hbo, by unfold apt; omega⟩)] at hP; exact hP)
          · refine x_iload dX6_areClose_130 rfl ?_
            refine x_aload_n dX6_areClose_132 rfl ?_
            refine x_getR (r := 98) fX6_17 dX6_areClose_133 rfl rfl ?_
            refine x_iconst dX6_areClose_136 ?_
            refine x_iald (j := 1) dX6_areClose_137 rfl rfl (show 1 < 709 by omega) (by omega) ?_
            refine x_top (hN 1 (by omega)) ?_
            refine x_icmp_ge (tgt := 143) dX6_areClose_138 (by decide) (by omega) (fun h138 => ?_) (fun h138 => ?_)
            · refine x_iinc dX6_areClose_143 rfl ?_
              refine x_goto (tgt := 3) dX6_areClose_146 (by decide) ?_
              exact x_loc (lv' := [(0, vr E 96), (1, vi (s : Int)), (2, vi st), (3, vi sp), (4, vi (o : Int)), (5, vi (sh v o 6)), (6, vi (sh v o 7)), (7, vi ((i + 1 : Nat) : Int))]) ⟨rfl, rfl, rfl, rfl, rfl, rfl, rfl, xl_i rfl (by omega), trivial⟩ (ih (i + 1) (by omega) (by omega) (lt_s hno (by unfold apt; omega)))
            · refine x_iconst dX6_areClose_141 ?_
              exact x_zret dX6_areClose_142 (Or.inr rfl) (by rw [zi_t (show near v s st sp o from ⟨bo v s i, hbo, by unfold apt; omega⟩)] at hP; exact hP)
  refine x_iconst dX6_areClose_0 ?_
  refine x_istore dX6_areClose_1 ?_
  exact x_loc (lv' := [(0, vr E 96), (1, vi (s : Int)), (2, vi st), (3, vi sp), (4, vi (o : Int)), (5, vi (sh v o 6)), (6, vi (sh v o 7)), (7, vi ((0 : Nat) : Int))]) ⟨rfl, rfl, rfl, rfl, rfl, rfl, rfl, rfl, trivial⟩ (loop 7 0 (by omega) (by omega) (fun q hq => absurd hq (Nat.not_lt_zero q)))

end MF
