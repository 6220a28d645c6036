section CR
theorem dcl0_1 : Cond.instanceMethod (Bundle.initS "java/lang/RuntimeException") ∈ xTb := xTb_of 560 (by decide +kernel) (by decide +kernel)
theorem dcl0_2 : Cond.code (Bundle.initS "java/lang/RuntimeException") prog_18_method_2_code 2 none ∈ xTb := xTb_of 561 (by decide +kernel) (by decide +kernel)
theorem dcl1_1 : Cond.instanceMethod (Bundle.initS "java/lang/Exception") ∈ xTb := xTb_of 563 (by decide +kernel) (by decide +kernel)
theorem dcl1_2 : Cond.code (Bundle.initS "java/lang/Exception") prog_13_method_2_code 2 none ∈ xTb := xTb_of 564 (by decide +kernel) (by decide +kernel)
theorem dcl2_1 : Cond.instanceMethod (Bundle.initS "java/lang/Throwable") ∈ xTb := xTb_of 566 (by decide +kernel) (by decide +kernel)
theorem dcl2_2 : Cond.code (Bundle.initS "java/lang/Throwable") prog_23_method_2_code 2 none ∈ xTb := xTb_of 567 (by decide +kernel) (by decide +kernel)
def dclL : List Cond := [.declares (Bundle.initS "java/lang/RuntimeException"), .declares (Bundle.initS "java/lang/Exception"), .declares (Bundle.initS "java/lang/Throwable")]
theorem dcl_in : ∀ w ∈ dclL, xthw w := by
  intro w hw
  simp only [dclL, List.mem_cons, List.not_mem_nil, or_false] at hw
  rcases hw with rfl | rfl | rfl
  · exact Or.inr (Or.inr ⟨_, _, _, _, rfl, dcl0_1, dcl0_2⟩)
  · exact Or.inr (Or.inr ⟨_, _, _, _, rfl, dcl1_1, dcl1_2⟩)
  · exact Or.inr (Or.inr ⟨_, _, _, _, rfl, dcl2_1, dcl2_2⟩)
theorem xatn_in {L : List Cond} {ps : List Nat} {t : String} (ht : t ∈ xexc) (h1 : L = ps.filterMap (fun i => lw_tbl[i]?)) (h2 : L.all (fun w => goodWord w || decide (w ∈ Cond.castable t t :: dclL)) = true) : ∀ w ∈ L, xthw w := by
  intro w hw
  have h3 := List.all_eq_true.mp h2 w hw
  rw [h1] at hw
  obtain ⟨i, -, hi⟩ := List.mem_filterMap.mp hw
  rcases Bool.or_eq_true_iff.mp h3 with h3 | h3
  · exact Or.inl (xTb_of i hi h3)
  · rcases List.mem_cons.mp (of_decide_eq_true h3) with h4 | h4
    · exact Or.inr (Or.inl ⟨t, ht, h4⟩)
    · exact dcl_in w h4
theorem xaMissing_1 : xatn RX5 259 xNSE 13 prog_27_method_4_code "java/lang/RuntimeException" ["java/lang/Exception"] = ([105, 536, 545, 549, 552, 554, 537, 538, 125, 126, 539, 544, 550, 570, 526, 571, 528, 572, 530, 540, 542, 532, 566, 567, 569, 532, 787, 788, 789, 560, 518, 560, 561, 562, 563, 520, 563, 564, 565, 566, 522, 786, 777, 778, 779, 548, 780, 781, 782, 783, 535, 534, 784] : List Nat).filterMap (fun i => lw_tbl[i]?) := by decide +kernel
theorem xaMissing_2 : (xatn RX5 259 xNSE 13 prog_27_method_4_code "java/lang/RuntimeException" ["java/lang/Exception"]).all (fun w => goodWord w || decide (w ∈ Cond.castable xNSE xNSE :: dclL)) = true := by decide +kernel
theorem xaMissing_3 : (Cond.classLink RX5 255 xNSE :: Cond.initialized xNSE :: xatn RX5 259 xNSE 13 prog_27_method_4_code "java/lang/RuntimeException" ["java/lang/Exception"]).all vx_ot = true := by decide +kernel
theorem xaMissing_4 : Cond.classLink RX5 255 xNSE ∈ xTb := xTb_of 776 (by decide +kernel) (by decide +kernel)
theorem xaMissing_5 : Cond.initialized xNSE ∈ xTb := xTb_of 116 (by decide +kernel) (by decide +kernel)
theorem xaMissing_6 : (xNSE : String) ∈ xexc := by simp [xexc]
theorem xaMissing_7 : (RX5, 257, "no such wave, bar, ship, window or place", 6) ∈ xstr := by simp [xstr]
set_option maxRecDepth 20000 in
theorem s_refuseMissing {E : xE} {f : Nat → Nat} {D : Nat → Nat × Nat} {n : Nat} {m : xM} {P : xPo} {PX : xPx} (hP : ∀ j, PX xNSE (gS f D (n + j)) (xu m 40 9 (m 40 9 + 1))) : xC E (yX5_refuseMissing, cX5_refuseMissing, 1, none) 6 1 6 [vr E 40] (gS f D n) m P PX := by
  refine x_enter (by decide) rfl rfl (Nat.le_of_ble_eq_true rfl) ?_
  refine x_aload_n dX5_refuseMissing_0 rfl ?_
  refine x_dup dX5_refuseMissing_1 vr_cat ?_
  refine x_getI fX5_236 dX5_refuseMissing_2 rfl ?_
  refine x_iconst dX5_refuseMissing_5 ?_
  refine x_iadd dX5_refuseMissing_6 ?_
  refine x_putI fX5_236 dX5_refuseMissing_7 rfl (by decide) rfl rfl ?_
  exact x_thr (cls := xNSE) (ix := 13) (rx := prog_27_method_4_code) (Y := "java/lang/RuntimeException") (names := ["java/lang/Exception"]) (by decide +kernel) (by decide +kernel) (by decide +kernel) (by decide +kernel) (by decide +kernel) (by decide +kernel) (fun n hn => by rw [List.mem_singleton.mp hn]; decide +kernel) xaMissing_4 xaMissing_5 xaMissing_7 (xatn_in xaMissing_6 xaMissing_1 xaMissing_2) (List.all_eq_true.mp xaMissing_3) dX5_refuseMissing_10 dX5_refuseMissing_13 dX5_refuseMissing_14 dX5_refuseMissing_17 dX5_refuseMissing_20 (by decide) (by decide) (by decide) (by decide) hP

theorem xaNumber_1 : xatn RX5 266 xIAE 7 prog_14_method_2_code "java/lang/RuntimeException" ["java/lang/Exception"] = ([105, 536, 545, 549, 552, 554, 537, 538, 125, 126, 539, 544, 550, 570, 526, 571, 528, 572, 530, 540, 542, 532, 566, 567, 569, 532, 557, 558, 559, 560, 518, 560, 561, 562, 563, 520, 563, 564, 565, 566, 522, 556, 515, 516, 523, 524, 525, 527, 529, 531, 535, 534, 533] : List Nat).filterMap (fun i => lw_tbl[i]?) := by decide +kernel
theorem xaNumber_2 : (xatn RX5 266 xIAE 7 prog_14_method_2_code "java/lang/RuntimeException" ["java/lang/Exception"]).all (fun w => goodWord w || decide (w ∈ Cond.castable xIAE xIAE :: dclL)) = true := by decide +kernel
theorem xaNumber_3 : (Cond.classLink RX5 262 xIAE :: Cond.initialized xIAE :: xatn RX5 266 xIAE 7 prog_14_method_2_code "java/lang/RuntimeException" ["java/lang/Exception"]).all vx_ot = true := by decide +kernel
theorem xaNumber_4 : Cond.classLink RX5 262 xIAE ∈ xTb := xTb_of 514 (by decide +kernel) (by decide +kernel)
theorem xaNumber_5 : Cond.initialized xIAE ∈ xTb := xTb_of 108 (by decide +kernel) (by decide +kernel)
theorem xaNumber_6 : (xIAE : String) ∈ xexc := by simp [xexc]
theorem xaNumber_7 : (RX5, 264, "a number that is none such", 7) ∈ xstr := by simp [xstr]
set_option maxRecDepth 20000 in
theorem s_refuseNumber {E : xE} {f : Nat → Nat} {D : Nat → Nat × Nat} {n : Nat} {m : xM} {P : xPo} {PX : xPx} (hP : ∀ j, PX xIAE (gS f D (n + j)) (xu m 40 10 (m 40 10 + 1))) : xC E (yX5_refuseNumber, cX5_refuseNumber, 1, none) 6 1 6 [vr E 40] (gS f D n) m P PX := by
  refine x_enter (by decide) rfl rfl (Nat.le_of_ble_eq_true rfl) ?_
  refine x_aload_n dX5_refuseNumber_0 rfl ?_
  refine x_dup dX5_refuseNumber_1 vr_cat ?_
  refine x_getI fX5_239 dX5_refuseNumber_2 rfl ?_
  refine x_iconst dX5_refuseNumber_5 ?_
  refine x_iadd dX5_refuseNumber_6 ?_
  refine x_putI fX5_239 dX5_refuseNumber_7 rfl (by decide) rfl rfl ?_
  exact x_thr (cls := xIAE) (ix := 7) (rx := prog_14_method_2_code) (Y := "java/lang/RuntimeException") (names := ["java/lang/Exception"]) (by decide +kernel) (by decide +kernel) (by decide +kernel) (by decide +kernel) (by decide +kernel) (by decide +kernel) (fun n hn => by rw [List.mem_singleton.mp hn]; decide +kernel) xaNumber_4 xaNumber_5 xaNumber_7 (xatn_in xaNumber_6 xaNumber_1 xaNumber_2) (List.all_eq_true.mp xaNumber_3) dX5_refuseNumber_10 dX5_refuseNumber_13 dX5_refuseNumber_14 dX5_refuseNumber_17 dX5_refuseNumber_20 (by decide) (by decide) (by decide) (by decide) hP

theorem xaState_1 : xatn RX5 271 xISE 7 prog_15_method_2_code "java/lang/RuntimeException" ["java/lang/Exception"] = ([105, 536, 545, 549, 552, 554, 537, 538, 125, 126, 539, 544, 550, 570, 526, 571, 528, 572, 530, 540, 542, 532, 566, 567, 569, 532, 843, 844, 845, 560, 518, 560, 561, 562, 563, 520, 563, 564, 565, 566, 522, 842, 833, 834, 835, 547, 836, 837, 838, 839, 535, 534, 840] : List Nat).filterMap (fun i => lw_tbl[i]?) := by decide +kernel
theorem xaState_2 : (xatn RX5 271 xISE 7 prog_15_method_2_code "java/lang/RuntimeException" ["java/lang/Exception"]).all (fun w => goodWord w || decide (w ∈ Cond.castable xISE xISE :: dclL)) = true := by decide +kernel
theorem xaState_3 : (Cond.classLink RX5 267 xISE :: Cond.initialized xISE :: xatn RX5 271 xISE 7 prog_15_method_2_code "java/lang/RuntimeException" ["java/lang/Exception"]).all vx_ot = true := by decide +kernel
theorem xaState_4 : Cond.classLink RX5 267 xISE ∈ xTb := xTb_of 832 (by decide +kernel) (by decide +kernel)
theorem xaState_5 : Cond.initialized xISE ∈ xTb := xTb_of 117 (by decide +kernel) (by decide +kernel)
theorem xaState_6 : (xISE : String) ∈ xexc := by simp [xexc]
theorem xaState_7 : (RX5, 269, "not as things are booked, or not by this water", 8) ∈ xstr := by simp [xstr]
set_option maxRecDepth 20000 in
theorem s_refuseState {E : xE} {f : Nat → Nat} {D : Nat → Nat × Nat} {n : Nat} {m : xM} {P : xPo} {PX : xPx} (hP : ∀ j, PX xISE (gS f D (n + j)) (xu m 40 11 (m 40 11 + 1))) : xC E (yX5_refuseState, cX5_refuseState, 1, none) 6 1 6 [vr E 40] (gS f D n) m P PX := by
  refine x_enter (by decide) rfl rfl (Nat.le_of_ble_eq_true rfl) ?_
  refine x_aload_n dX5_refuseState_0 rfl ?_
  refine x_dup dX5_refuseState_1 vr_cat ?_
  refine x_getI fX5_242 dX5_refuseState_2 rfl ?_
  refine x_iconst dX5_refuseState_5 ?_
  refine x_iadd dX5_refuseState_6 ?_
  refine x_putI fX5_242 dX5_refuseState_7 rfl (by decide) rfl rfl ?_
  exact x_thr (cls := xISE) (ix := 7) (rx := prog_15_method_2_code) (Y := "java/lang/RuntimeException") (names := ["java/lang/Exception"]) (by decide +kernel) (by decide +kernel) (by decide +kernel) (by decide +kernel) (by decide +kernel) (by decide +kernel) (fun n hn => by rw [List.mem_singleton.mp hn]; decide +kernel) xaState_4 xaState_5 xaState_7 (xatn_in xaState_6 xaState_1 xaState_2) (List.all_eq_true.mp xaState_3) dX5_refuseState_10 dX5_refuseState_13 dX5_refuseState_14 dX5_refuseState_17 dX5_refuseState_20 (by decide) (by decide) (by decide) (by decide) hP

end CR
