section CS
set_option maxRecDepth 20000 in
theorem s_isBooked {E : xE} {f : Nat → Nat} {D : Nat → Nat × Nat} {n : Nat} {m : xM} {P : xPo} {PX : xPx} {v : Nat → Int} {s : Nat} (hv : vOk0 v) (hC : cC v m) (hs : (s : Int) < v 5) (hP : P (some (vi (zi (bk v s)))) (gS f D n) m) : xC E (yX0_isBooked, cX0_isBooked, 2, some .boolean) 1 0 0 [vr E 41, vi (s : Int)] (gS f D n) m P PX := by
  refine x_enter (by decide) rfl rfl (Nat.le_of_ble_eq_true rfl) ?_
  have hv5 := hv.2.2.2.2.2.1
  obtain ⟨-, -, -, -, -, hbk⟩ := hv.2.2.2.2.2.2 s hs
  refine x_aload_n dX0_isBooked_0 rfl ?_
  refine x_iload_n dX0_isBooked_1 rfl ?_
  refine x_bipush dX0_isBooked_2 (h := ?_)
  refine x_V2 mX0_59 dX0_isBooked_4 rfl (s_shipOf (8 * s + 6) (by omega) (by omega) ?_)
  refine x_top (hC.2.2.2.s hs (by omega)) ?_
  refine x_iconst dX0_isBooked_7 ?_
  refine x_icmp_eq (tgt := 15) dX0_isBooked_8 (by decide) (by omega) (fun h8 => ?_) (fun h8 => ?_)
  · refine x_iconst dX0_isBooked_15 ?_
    exact x_zret dX0_isBooked_16 (Or.inl rfl) (by rw [zi_f (fun z => z (by omega))] at hP; exact hP)
  · refine x_iconst dX0_isBooked_11 ?_
    refine x_goto (tgt := 16) dX0_isBooked_12 (by decide) ?_
    exact x_zret dX0_isBooked_16 (Or.inr rfl) (by rw [zi_t (show bk v s from fun z => h8 z)] at hP; exact hP)

set_option maxRecDepth 20000 in
theorem s_putBooking {E : xE} {f : Nat → Nat} {D : Nat → Nat × Nat} {n : Nat} {m : xM} {P : xPo} {PX : xPx} {s : Nat} {a b : Int} (hs : s < 6) (hP : P none (gS f D n) (xu (xu m 44 (8 * s + 6) a) 44 (8 * s + 7) b)) : xC E (yX0_putBooking, cX0_putBooking, 4, none) 0 0 0 [vr E 41, vi (s : Int), vi a, vi b] (gS f D n) m P PX := by
  refine x_enter (by decide) rfl rfl (Nat.le_of_ble_eq_true rfl) ?_
  refine x_aload_n dX0_putBooking_0 rfl ?_
  refine x_getR (r := 44) fX0_22 dX0_putBooking_1 rfl rfl ?_
  refine x_iload_n dX0_putBooking_4 rfl ?_
  refine x_bipush dX0_putBooking_5 (h := ?_)
  refine x_imul dX0_putBooking_7 ?_
  refine x_bipush dX0_putBooking_8 (h := ?_)
  refine x_iadd dX0_putBooking_10 ?_
  refine x_iload_n dX0_putBooking_11 rfl ?_
  refine x_iast (j := 8 * s + 6) dX0_putBooking_12 rfl (by decide) (by omega) (show _ < 48 by omega) (by omega) ?_
  refine x_aload_n dX0_putBooking_13 rfl ?_
  refine x_getR (r := 44) fX0_22 dX0_putBooking_14 rfl rfl ?_
  refine x_iload_n dX0_putBooking_17 rfl ?_
  refine x_bipush dX0_putBooking_18 (h := ?_)
  refine x_imul dX0_putBooking_20 ?_
  refine x_bipush dX0_putBooking_21 (h := ?_)
  refine x_iadd dX0_putBooking_23 ?_
  refine x_iload_n dX0_putBooking_24 rfl ?_
  refine x_iast (j := 8 * s + 7) dX0_putBooking_25 rfl (by decide) (by omega) (show _ < 48 by omega) (by omega) ?_
  exact x_vret dX0_putBooking_26 (hP)

set_option maxRecDepth 20000 in
theorem s_bookedShips {E : xE} {f : Nat → Nat} {D : Nat → Nat × Nat} {n : Nat} {m : xM} {P : xPo} {PX : xPx} {v : Nat → Int} (hv : vOk0 v) (hC : cC v m) (hP : P (some (vi ((cset (bk v) (v 5).toNat : Nat) : Int))) (gS f D n) m) : xC E (yX5_bookedShips, cX5_bookedShips, 3, some .int) 2 0 0 [vr E 40] (gS f D n) m P PX := by
  refine x_enter (by decide) rfl rfl (Nat.le_of_ble_eq_true rfl) ?_
  have hv5 := hv.2.2.2.2.2.1
  have loop : ∀ (j u : Nat), v 5 < (u : Int) + j → (u : Int) ≤ v 5 → xX E (("bookedShips", some .int, []), (2, 0, 0), P, PX) RX5 cX5_bookedShips 3 0 0 4 [(0, vr E 40), (1, vi ((cset (bk v) u : Nat) : Int)), (2, vi (u : Int))] [] (gS f D n) m := by
    intro j
    induction j with
    | zero => intro u h1 h2; omega
    | succ j ih =>
      intro u h1 h2
      refine x_iload_n dX5_bookedShips_4 rfl ?_
      refine x_aload_n dX5_bookedShips_5 rfl ?_
      refine x_getR (r := 41) fX5_10 dX5_bookedShips_6 rfl rfl ?_
      refine x_getI fX5_92 dX5_bookedShips_9 rfl ?_
      refine x_top (hC.2.2.2.1) ?_
      refine x_icmp_ge (tgt := 38) dX5_bookedShips_12 (by decide) (by omega) (fun h12 => ?_) (fun h12 => ?_)
      · refine x_iload_n dX5_bookedShips_38 rfl ?_
        exact x_iret dX5_bookedShips_39  (by rw [show u = (v 5).toNat by omega]; exact hP)
      · have hu : (u : Int) < v 5 := by omega
        refine x_aload_n dX5_bookedShips_15 rfl ?_
        refine x_getR (r := 41) fX5_10 dX5_bookedShips_16 rfl rfl ?_
        refine x_iload_n dX5_bookedShips_19 rfl ?_
        refine x_V1 mX5_118 dX5_bookedShips_20 rfl (s_isBooked hv hC hu ?_)
        refine x_if_eq (tgt := 32) dX5_bookedShips_23 (by decide) (zi_r _) (fun h23 => ?_) (fun h23 => ?_)
        · have hb := zi_0.mp h23
          refine x_iinc dX5_bookedShips_32 rfl ?_
          refine x_goto (tgt := 4) dX5_bookedShips_35 (by decide) ?_
          exact x_loc (lv' := [(0, vr E 40), (1, vi ((cset (bk v) (u + 1) : Nat) : Int)), (2, vi ((u + 1 : Nat) : Int))]) ⟨rfl, xl_i rfl (by rw [cset_f hb]), xl_i rfl (by omega), trivial⟩ (ih (u + 1) (by omega) (by omega))
        · have hb := zi_1.mp h23
          refine x_iload_n dX5_bookedShips_26 rfl ?_
          refine x_iconst dX5_bookedShips_27 ?_
          refine x_iload_n dX5_bookedShips_28 rfl ?_
          refine x_ishl (z := ((2 ^ u : Nat) : Int)) dX5_bookedShips_29 (b_shl1 u (by omega)) ?_
          refine x_ior (z := ((cset (bk v) u + 2 ^ u : Nat) : Int)) dX5_bookedShips_30 (b_or u (by omega) _ (cset_b _ u)) ?_
          refine x_istore_n dX5_bookedShips_31 ?_
          refine x_iinc dX5_bookedShips_32 rfl ?_
          refine x_goto (tgt := 4) dX5_bookedShips_35 (by decide) ?_
          exact x_loc (lv' := [(0, vr E 40), (1, vi ((cset (bk v) (u + 1) : Nat) : Int)), (2, vi ((u + 1 : Nat) : Int))]) ⟨rfl, xl_i rfl (by rw [cset_t hb]), xl_i rfl (by omega), trivial⟩ (ih (u + 1) (by omega) (by omega))
  refine x_iconst dX5_bookedShips_0 ?_
  refine x_istore_n dX5_bookedShips_1 ?_
  refine x_iconst dX5_bookedShips_2 ?_
  refine x_istore_n dX5_bookedShips_3 ?_
  exact x_loc (lv' := [(0, vr E 40), (1, vi ((cset (bk v) 0 : Nat) : Int)), (2, vi ((0 : Nat) : Int))]) ⟨rfl, rfl, rfl, trivial⟩ (loop 7 0 (by omega) (by omega))

set_option maxRecDepth 20000 in
theorem s_closeTo {E : xE} {f : Nat → Nat} {D : Nat → Nat × Nat} {n : Nat} {m : xM} {P : xPo} {PX : xPx} {v : Nat → Int} {s : Nat} {st sp : Int} (hv : vOk0 v) (hC : cC v m) (hs : (s : Int) < v 5) (hsp : 4 ≤ sp ∧ sp ≤ 25) (hst : 0 ≤ st ∧ st ≤ 20000) (hP : P (some (vi ((cset (cls v s st sp) (v 5).toNat : Nat) : Int))) (gS f D n) m) : xC E (yX5_closeTo, cX5_closeTo, 6, some .int) 4 0 0 [vr E 40, vi (s : Int), vi st, vi sp] (gS f D n) m P PX := by
  refine x_enter (by decide) rfl rfl (Nat.le_of_ble_eq_true rfl) ?_
  have hv5 := hv.2.2.2.2.2.1
  have loop : ∀ (j u : Nat), v 5 < (u : Int) + j → (u : Int) ≤ v 5 → xX E (("closeTo", some .int, []), (4, 0, 0), P, PX) RX5 cX5_closeTo 6 0 0 6 [(0, vr E 40), (1, vi (s : Int)), (2, vi st), (3, vi sp), (4, vi ((cset (cls v s st sp) u : Nat) : Int)), (5, vi (u : Int))] [] (gS f D n) m := by
    intro j
    induction j with
    | zero => intro u h1 h2; omega
    | succ j ih =>
      intro u h1 h2
      refine x_iload dX5_closeTo_6 rfl ?_
      refine x_aload_n dX5_closeTo_8 rfl ?_
      refine x_getR (r := 41) fX5_10 dX5_closeTo_9 rfl rfl ?_
      refine x_getI fX5_92 dX5_closeTo_12 rfl ?_
      refine x_top (hC.2.2.2.1) ?_
      refine x_icmp_ge (tgt := 66) dX5_closeTo_15 (by decide) (by omega) (fun h15 => ?_) (fun h15 => ?_)
      · refine x_iload dX5_closeTo_66 rfl ?_
        exact x_iret dX5_closeTo_68  (by rw [show u = (v 5).toNat by omega]; exact hP)
      · have hu : (u : Int) < v 5 := by omega
        refine x_iload dX5_closeTo_18 rfl ?_
        refine x_iload_n dX5_closeTo_20 rfl ?_
        refine x_icmp_eq (tgt := 60) dX5_closeTo_21 (by decide) (by omega) (fun h21 => ?_) (fun h21 => ?_)
        · refine x_iinc dX5_closeTo_60 rfl ?_
          refine x_goto (tgt := 6) dX5_closeTo_63 (by decide) ?_
          exact x_loc (lv' := [(0, vr E 40), (1, vi (s : Int)), (2, vi st), (3, vi sp), (4, vi ((cset (cls v s st sp) (u + 1) : Nat) : Int)), (5, vi ((u + 1 : Nat) : Int))]) ⟨rfl, rfl, rfl, rfl, xl_i rfl (by rw [cset_f (fun z : cls v s st sp u => z.1 (by omega))]), xl_i rfl (by omega), trivial⟩ (ih (u + 1) (by omega) (by omega))
        · refine x_aload_n dX5_closeTo_24 rfl ?_
          refine x_getR (r := 41) fX5_10 dX5_closeTo_25 rfl rfl ?_
          refine x_iload dX5_closeTo_28 rfl ?_
          refine x_V1 mX5_118 dX5_closeTo_30 rfl (s_isBooked hv hC hu ?_)
          refine x_if_eq (tgt := 60) dX5_closeTo_33 (by decide) (zi_r _) (fun h33 => ?_) (fun h33 => ?_)
          · have hb := zi_0.mp h33
            refine x_iinc dX5_closeTo_60 rfl ?_
            refine x_goto (tgt := 6) dX5_closeTo_63 (by decide) ?_
            exact x_loc (lv' := [(0, vr E 40), (1, vi (s : Int)), (2, vi st), (3, vi sp), (4, vi ((cset (cls v s st sp) (u + 1) : Nat) : Int)), (5, vi ((u + 1 : Nat) : Int))]) ⟨rfl, rfl, rfl, rfl, xl_i rfl (by rw [cset_f (fun z : cls v s st sp u => hb z.2.1)]), xl_i rfl (by omega), trivial⟩ (ih (u + 1) (by omega) (by omega))
          · have hb := zi_1.mp h33
            have hb6 : ¬ sh v u 6 = -1 := hb
            obtain ⟨-, -, -, -, -, hbo⟩ := hv.2.2.2.2.2.2 u hu
            refine x_aload_n dX5_closeTo_36 rfl ?_
            refine x_getR (r := 41) fX5_10 dX5_closeTo_37 rfl rfl ?_
            refine x_iload_n dX5_closeTo_40 rfl ?_
            refine x_iload_n dX5_closeTo_41 rfl ?_
            refine x_iload_n dX5_closeTo_42 rfl ?_
            refine x_iload dX5_closeTo_43 rfl ?_
            refine x_V4 mX5_245 dX5_closeTo_45 rfl (s_meets hv hC hs hu (by omega) hsp hst ?_)
            refine x_if_eq (tgt := 60) dX5_closeTo_48 (by decide) (zi_r _) (fun h48 => ?_) (fun h48 => ?_)
            · have hnr := zi_0.mp h48
              refine x_iinc dX5_closeTo_60 rfl ?_
              refine x_goto (tgt := 6) dX5_closeTo_63 (by decide) ?_
              exact x_loc (lv' := [(0, vr E 40), (1, vi (s : Int)), (2, vi st), (3, vi sp), (4, vi ((cset (cls v s st sp) (u + 1) : Nat) : Int)), (5, vi ((u + 1 : Nat) : Int))]) ⟨rfl, rfl, rfl, rfl, xl_i rfl (by rw [cset_f (fun z : cls v s st sp u => hnr z.2.2)]), xl_i rfl (by omega), trivial⟩ (ih (u + 1) (by omega) (by omega))
            · have hnr := zi_1.mp h48
              refine x_iload dX5_closeTo_51 rfl ?_
              refine x_iconst dX5_closeTo_53 ?_
              refine x_iload dX5_closeTo_54 rfl ?_
              refine x_ishl (z := ((2 ^ u : Nat) : Int)) dX5_closeTo_56 (b_shl1 u (by omega)) ?_
              refine x_ior (z := ((cset (cls v s st sp) u + 2 ^ u : Nat) : Int)) dX5_closeTo_57 (b_or u (by omega) _ (cset_b _ u)) ?_
              refine x_istore dX5_closeTo_58 ?_
              refine x_iinc dX5_closeTo_60 rfl ?_
              refine x_goto (tgt := 6) dX5_closeTo_63 (by decide) ?_
              exact x_loc (lv' := [(0, vr E 40), (1, vi (s : Int)), (2, vi st), (3, vi sp), (4, vi ((cset (cls v s st sp) (u + 1) : Nat) : Int)), (5, vi ((u + 1 : Nat) : Int))]) ⟨rfl, rfl, rfl, rfl, xl_i rfl (by rw [cset_t (show cls v s st sp u from ⟨fun z => h21 (by omega), hb, hnr⟩)]), xl_i rfl (by omega), trivial⟩ (ih (u + 1) (by omega) (by omega))
  refine x_iconst dX5_closeTo_0 ?_
  refine x_istore dX5_closeTo_1 ?_
  refine x_iconst dX5_closeTo_3 ?_
  refine x_istore dX5_closeTo_4 ?_
  exact x_loc (lv' := [(0, vr E 40), (1, vi (s : Int)), (2, vi st), (3, vi sp), (4, vi ((cset (cls v s st sp) 0 : Nat) : Int)), (5, vi ((0 : Nat) : Int))]) ⟨rfl, rfl, rfl, rfl, rfl, rfl, trivial⟩ (loop 7 0 (by omega) (by omega))

end CS
