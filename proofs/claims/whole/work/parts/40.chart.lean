section CH
set_option maxRecDepth 20000 in
theorem s_waveOf {E : xE} {f : Nat → Nat} {D : Nat → Nat × Nat} {n : Nat} {m : xM} {P : xPo} {PX : xPx} {b w : Int} (i : Nat) (hj : b * 3 + w = i) (hl : i < 18) (hP : P (some (vi (m 42 i))) (gS f D n) m) : xC E (yX0_waveOf, cX0_waveOf, 3, some .int) 0 0 0 [vr E 41, vi b, vi w] (gS f D n) m P PX := by
  refine x_enter (by decide) rfl rfl (Nat.le_of_ble_eq_true rfl) ?_
  refine x_aload_n dX0_waveOf_0 rfl ?_
  refine x_getR (r := 42) fX0_15 dX0_waveOf_1 rfl rfl ?_
  refine x_iload_n dX0_waveOf_4 rfl ?_
  refine x_iconst dX0_waveOf_5 ?_
  refine x_imul dX0_waveOf_6 ?_
  refine x_iload_n dX0_waveOf_7 rfl ?_
  refine x_iadd dX0_waveOf_8 ?_
  refine x_iald (j := i) dX0_waveOf_9 rfl (by omega) (show _ < 18 by omega) (by omega) ?_
  exact x_iret dX0_waveOf_10  (hP)

set_option maxRecDepth 20000 in
theorem s_barOf {E : xE} {f : Nat → Nat} {D : Nat → Nat × Nat} {n : Nat} {m : xM} {P : xPo} {PX : xPx} {b w : Int} (i : Nat) (hj : b * 6 + w = i) (hl : i < 36) (hP : P (some (vi (m 43 i))) (gS f D n) m) : xC E (yX0_barOf, cX0_barOf, 3, some .int) 0 0 0 [vr E 41, vi b, vi w] (gS f D n) m P PX := by
  refine x_enter (by decide) rfl rfl (Nat.le_of_ble_eq_true rfl) ?_
  refine x_aload_n dX0_barOf_0 rfl ?_
  refine x_getR (r := 43) fX0_19 dX0_barOf_1 rfl rfl ?_
  refine x_iload_n dX0_barOf_4 rfl ?_
  refine x_bipush dX0_barOf_5 (h := ?_)
  refine x_imul dX0_barOf_7 ?_
  refine x_iload_n dX0_barOf_8 rfl ?_
  refine x_iadd dX0_barOf_9 ?_
  refine x_iald (j := i) dX0_barOf_10 rfl (by omega) (show _ < 36 by omega) (by omega) ?_
  exact x_iret dX0_barOf_11  (hP)

set_option maxRecDepth 20000 in
theorem s_shipOf {E : xE} {f : Nat → Nat} {D : Nat → Nat × Nat} {n : Nat} {m : xM} {P : xPo} {PX : xPx} {b w : Int} (i : Nat) (hj : b * 8 + w = i) (hl : i < 48) (hP : P (some (vi (m 44 i))) (gS f D n) m) : xC E (yX0_shipOf, cX0_shipOf, 3, some .int) 0 0 0 [vr E 41, vi b, vi w] (gS f D n) m P PX := by
  refine x_enter (by decide) rfl rfl (Nat.le_of_ble_eq_true rfl) ?_
  refine x_aload_n dX0_shipOf_0 rfl ?_
  refine x_getR (r := 44) fX0_22 dX0_shipOf_1 rfl rfl ?_
  refine x_iload_n dX0_shipOf_4 rfl ?_
  refine x_bipush dX0_shipOf_5 (h := ?_)
  refine x_imul dX0_shipOf_7 ?_
  refine x_iload_n dX0_shipOf_8 rfl ?_
  refine x_iadd dX0_shipOf_9 ?_
  refine x_iald (j := i) dX0_shipOf_10 rfl (by omega) (show _ < 48 by omega) (by omega) ?_
  exact x_iret dX0_shipOf_11  (hP)

set_option maxRecDepth 20000 in
theorem s_timeFor {E : xE} {m : xM} {P : xPo} {PX : xPx} {g : xG} {x v : Int} (hx : 0 ≤ x ∧ x ≤ 300) (hv : 1 ≤ v ∧ v ≤ 1000) (hP : P (some (vi ((6 * x + v - 1).tdiv v))) g m) : xC E (yX0_timeFor, cX0_timeFor, 2, some .int) 0 0 0 [vi x, vi v] g m P PX := by
  refine x_enter (by decide) rfl rfl (Nat.le_of_ble_eq_true rfl) ?_
  refine x_iload_n dX0_timeFor_0 rfl ?_
  refine x_iconst dX0_timeFor_1 ?_
  refine x_icmp_ge (tgt := 9) dX0_timeFor_2 (by decide) (by omega) (fun h2 => ?_) (fun h2 => absurd hv.1 h2)
  refine x_bipush dX0_timeFor_9 (h := ?_)
  refine x_iload_n dX0_timeFor_11 rfl ?_
  refine x_imul dX0_timeFor_12 ?_
  refine x_iload_n dX0_timeFor_13 rfl ?_
  refine x_iadd dX0_timeFor_14 ?_
  refine x_iconst dX0_timeFor_15 ?_
  refine x_isub dX0_timeFor_16 ?_
  refine x_iload_n dX0_timeFor_17 rfl ?_
  refine x_idiv dX0_timeFor_18 (by omega) (by omega) ?_
  exact x_iret dX0_timeFor_19  (hP)

end CH
