section ME
set_option maxRecDepth 20000 in
theorem s_exchanges {E : xE} {f : Nat → Nat} {D : Nat → Nat × Nat} {n : Nat} {m : xM} {P : xPo} {PX : xPx} {i j : Nat} (hi : i < 6) (hj : j < 6) (hP : P none (gS f D n) (xu (xu m 109 i (m 109 j)) 109 j (m 109 i))) : xC E (yX6_exchanges, cX6_exchanges, 4, none) 0 0 0 [vr E 96, vi (i : Int), vi (j : Int)] (gS f D n) m P PX := by
  refine x_enter (by decide) rfl rfl (Nat.le_of_ble_eq_true rfl) ?_
  refine x_aload_n dX6_exchanges_0 rfl ?_
  refine x_getR (r := 109) fX6_56 dX6_exchanges_1 rfl rfl ?_
  refine x_iload_n dX6_exchanges_4 rfl ?_
  refine x_iald (j := i) dX6_exchanges_5 rfl (by omega) (show _ < 6 by omega) (by omega) ?_
  refine x_istore_n dX6_exchanges_6 ?_
  refine x_aload_n dX6_exchanges_7 rfl ?_
  refine x_getR (r := 109) fX6_56 dX6_exchanges_8 rfl rfl ?_
  refine x_iload_n dX6_exchanges_11 rfl ?_
  refine x_aload_n dX6_exchanges_12 rfl ?_
  refine x_getR (r := 109) fX6_56 dX6_exchanges_13 rfl rfl ?_
  refine x_iload_n dX6_exchanges_16 rfl ?_
  refine x_iald (j := j) dX6_exchanges_17 rfl (by omega) (show _ < 6 by omega) (by omega) ?_
  refine x_iast (j := i) dX6_exchanges_18 rfl (by decide) (by omega) (show _ < 6 by omega) (by omega) ?_
  refine x_aload_n dX6_exchanges_19 rfl ?_
  refine x_getR (r := 109) fX6_56 dX6_exchanges_20 rfl rfl ?_
  refine x_iload_n dX6_exchanges_23 rfl ?_
  refine x_iload_n dX6_exchanges_24 rfl ?_
  refine x_iast (j := j) dX6_exchanges_25 rfl (by decide) (by omega) (show _ < 6 by omega) (by omega) ?_
  exact x_vret dX6_exchanges_26 (hP)

end ME
