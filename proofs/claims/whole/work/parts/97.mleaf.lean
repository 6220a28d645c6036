section LM
set_option maxRecDepth 20000 in
theorem s_wrong {E : xE} {f : Nat → Nat} {D : Nat → Nat × Nat} {n : Nat} {m : xM} {P : xPo} {PX : xPx} {q : Nat → Int} {N : Nat} {X : pX} {k p : Nat} (hk : 1 ≤ k ∧ k ≤ 4) (hS : lM q N X m) (hP : ∀ m', cg 96 [11, 12] m m' → lM q N (pfl k p X) m' → P none (gS f D n) m') : xC E (yX6_wrong, cX6_wrong, 3, none) 0 0 0 [vr E 96, vi (k : Int), vi (p : Int)] (gS f D n) m P PX := by
  refine x_enter (by decide) rfl rfl (Nat.le_of_ble_eq_true rfl) ?_
  obtain ⟨⟨a, ha, haN, hah⟩, he, hf, hp, h4, hN, hb⟩ := id hS
  refine x_aload_n dX6_wrong_0 rfl ?_
  refine x_getI fX6_72 dX6_wrong_1 rfl ?_
  refine x_top (hf) ?_
  refine x_if_le (tgt := 8) dX6_wrong_4 (by decide) (by omega) (fun h4 => ?_) (fun h4 => ?_)
  · have hX : X.1 = 0 := by omega
    refine x_aload_n dX6_wrong_8 rfl ?_
    refine x_iload_n dX6_wrong_9 rfl ?_
    refine x_putI fX6_72 dX6_wrong_10 rfl (by decide) rfl rfl ?_
    refine x_aload_n dX6_wrong_13 rfl ?_
    refine x_iload_n dX6_wrong_14 rfl ?_
    refine x_putI fX6_75 dX6_wrong_15 rfl (by decide) rfl rfl ?_
    exact x_vret dX6_wrong_18 (hP _ ((cg.rf.u (by decide)).u (by decide)) (by unfold pfl; rw [if_pos hX]; exact hS.fl (X' := (k, p, X.2.2)) ((cg.rf.u (J := [11, 12]) (by decide)).u (by decide)) (by decide) (by decide) hk (by rw [xu_n (Or.inr (by decide)), xu_s]) (by rw [xu_s]) ⟨a, by rw [xu_n (Or.inr (by decide)), xu_n (Or.inr (by decide))]; exact ha, haN⟩))
  · have hX : X.1 ≠ 0 := by omega
    exact x_vret dX6_wrong_7 (hP m cg.rf (by unfold pfl; rw [if_neg hX]; exact hS))

set_option maxRecDepth 20000 in
theorem s_isFigure {E : xE} {f : Nat → Nat} {D : Nat → Nat × Nat} {n : Nat} {m : xM} {P : xPo} {PX : xPx} {q : Nat → Int} {N k : Nat} (hk9 : k ≤ 2000) (he : m 96 9 = (N : Int)) (hN : N ≤ 600) (hb : ∀ k, k < N → m 102 k = q k ∧ -128 ≤ q k ∧ q k ≤ 127) (hP : P (some (vi (zi (k < N ∧ isd (q k))))) (gS f D n) m) : xC E (yX6_isFigure, cX6_isFigure, 2, some .boolean) 0 0 0 [vr E 96, vi (k : Int)] (gS f D n) m P PX := by
  refine x_enter (by decide) rfl rfl (Nat.le_of_ble_eq_true rfl) ?_
  refine x_iload_n dX6_isFigure_0 rfl ?_
  refine x_aload_n dX6_isFigure_1 rfl ?_
  refine x_getI fX6_81 dX6_isFigure_2 rfl ?_
  refine x_top (he) ?_
  refine x_icmp_ge (tgt := 34) dX6_isFigure_5 (by decide) (by omega) (fun h5 => ?_) (fun h5 => ?_)
  · refine x_iconst dX6_isFigure_34 ?_
    exact x_zret dX6_isFigure_35 (Or.inl rfl) (zi_P0 (fun zz => by have := zz.1; have := zz.2.1; have := zz.2.2; omega) hP)
  · have hbi := hb k (by omega)
    refine x_aload_n dX6_isFigure_8 rfl ?_
    refine x_getR (r := 102) fX6_30 dX6_isFigure_9 rfl rfl ?_
    refine x_iload_n dX6_isFigure_12 rfl ?_
    refine x_bald (j := k) dX6_isFigure_13 rfl (by omega) (show _ < 600 by omega) (by omega) ?_
    refine x_top (hbi.1) ?_
    refine x_bipush dX6_isFigure_14 (h := ?_)
    refine x_icmp_lt (tgt := 34) dX6_isFigure_16 (by decide) (by omega) (fun h16 => ?_) (fun h16 => ?_)
    · refine x_iconst dX6_isFigure_34 ?_
      exact x_zret dX6_isFigure_35 (Or.inl rfl) (zi_P0 (fun zz => by have := zz.1; have := zz.2.1; have := zz.2.2; omega) hP)
    · refine x_aload_n dX6_isFigure_19 rfl ?_
      refine x_getR (r := 102) fX6_30 dX6_isFigure_20 rfl rfl ?_
      refine x_iload_n dX6_isFigure_23 rfl ?_
      refine x_bald (j := k) dX6_isFigure_24 rfl (by omega) (show _ < 600 by omega) (by omega) ?_
      refine x_top (hbi.1) ?_
      refine x_bipush dX6_isFigure_25 (h := ?_)
      refine x_icmp_gt (tgt := 34) dX6_isFigure_27 (by decide) (by omega) (fun h27 => ?_) (fun h27 => ?_)
      · refine x_iconst dX6_isFigure_34 ?_
        exact x_zret dX6_isFigure_35 (Or.inl rfl) (zi_P0 (fun zz => by have := zz.1; have := zz.2.1; have := zz.2.2; omega) hP)
      · refine x_iconst dX6_isFigure_30 ?_
        refine x_goto (tgt := 35) dX6_isFigure_31 (by decide) ?_
        exact x_zret dX6_isFigure_35 (Or.inr rfl) (zi_P1 ⟨by omega, by omega, by omega⟩ hP)

set_option maxRecDepth 20000 in
theorem s_isSmall {E : xE} {f : Nat → Nat} {D : Nat → Nat × Nat} {n : Nat} {m : xM} {P : xPo} {PX : xPx} {q : Nat → Int} {N k : Nat} (hk9 : k ≤ 2000) (he : m 96 9 = (N : Int)) (hN : N ≤ 600) (hb : ∀ k, k < N → m 102 k = q k ∧ -128 ≤ q k ∧ q k ≤ 127) (hP : P (some (vi (zi (k < N ∧ isl (q k))))) (gS f D n) m) : xC E (yX6_isSmall, cX6_isSmall, 2, some .boolean) 0 0 0 [vr E 96, vi (k : Int)] (gS f D n) m P PX := by
  refine x_enter (by decide) rfl rfl (Nat.le_of_ble_eq_true rfl) ?_
  refine x_iload_n dX6_isSmall_0 rfl ?_
  refine x_aload_n dX6_isSmall_1 rfl ?_
  refine x_getI fX6_81 dX6_isSmall_2 rfl ?_
  refine x_top (he) ?_
  refine x_icmp_ge (tgt := 34) dX6_isSmall_5 (by decide) (by omega) (fun h5 => ?_) (fun h5 => ?_)
  · refine x_iconst dX6_isSmall_34 ?_
    exact x_zret dX6_isSmall_35 (Or.inl rfl) (zi_P0 (fun zz => by have := zz.1; have := zz.2.1; have := zz.2.2; omega) hP)
  · have hbi := hb k (by omega)
    refine x_aload_n dX6_isSmall_8 rfl ?_
    refine x_getR (r := 102) fX6_30 dX6_isSmall_9 rfl rfl ?_
    refine x_iload_n dX6_isSmall_12 rfl ?_
    refine x_bald (j := k) dX6_isSmall_13 rfl (by omega) (show _ < 600 by omega) (by omega) ?_
    refine x_top (hbi.1) ?_
    refine x_bipush dX6_isSmall_14 (h := ?_)
    refine x_icmp_lt (tgt := 34) dX6_isSmall_16 (by decide) (by omega) (fun h16 => ?_) (fun h16 => ?_)
    · refine x_iconst dX6_isSmall_34 ?_
      exact x_zret dX6_isSmall_35 (Or.inl rfl) (zi_P0 (fun zz => by have := zz.1; have := zz.2.1; have := zz.2.2; omega) hP)
    · refine x_aload_n dX6_isSmall_19 rfl ?_
      refine x_getR (r := 102) fX6_30 dX6_isSmall_20 rfl rfl ?_
      refine x_iload_n dX6_isSmall_23 rfl ?_
      refine x_bald (j := k) dX6_isSmall_24 rfl (by omega) (show _ < 600 by omega) (by omega) ?_
      refine x_top (hbi.1) ?_
      refine x_bipush dX6_isSmall_25 (h := ?_)
      refine x_icmp_gt (tgt := 34) dX6_isSmall_27 (by decide) (by omega) (fun h27 => ?_) (fun h27 => ?_)
      · refine x_iconst dX6_isSmall_34 ?_
        exact x_zret dX6_isSmall_35 (Or.inl rfl) (zi_P0 (fun zz => by have := zz.1; have := zz.2.1; have := zz.2.2; omega) hP)
      · refine x_iconst dX6_isSmall_30 ?_
        refine x_goto (tgt := 35) dX6_isSmall_31 (by decide) ?_
        exact x_zret dX6_isSmall_35 (Or.inr rfl) (zi_P1 ⟨by omega, by omega, by omega⟩ hP)

set_option maxRecDepth 20000 in
theorem s_sign {E : xE} {f : Nat → Nat} {D : Nat → Nat × Nat} {n : Nat} {m : xM} {P : xPo} {PX : xPx} {q : Nat → Int} {N : Nat} {X : pX} (hS : lM q N X m) (hP : ∀ m' r, cg 96 [10] m m' → lM q N (pskip q N X) m' → -128 ≤ r ∧ r ≤ 127 → (X.1 = 0 → (skp q N X.2.2.1 < N → r = q (skp q N X.2.2.1)) ∧ (¬ skp q N X.2.2.1 < N → r = 0)) → P (some (vi r)) (gS f D n) m') : xC E (yX6_sign, cX6_sign, 1, some .int) 0 0 0 [vr E 96] (gS f D n) m P PX := by
  refine x_enter (by decide) rfl rfl (Nat.le_of_ble_eq_true rfl) ?_
  obtain ⟨⟨a, ha, haN, hah⟩, he, hf, hp, h4, hN, hb⟩ := id hS
  have loop : ∀ (j i : Nat) (m1 : xM), N < i + j → i ≤ N → cg 96 [10] m m1 → m1 96 10 = (i : Int) → skp q N i = skp q N a → xX E (("sign", some .int, []), (0, 0, 0), P, PX) RX6 cX6_sign 1 0 0 0 [(0, vr E 96)] [] (gS f D n) m1 := by
    intro j
    induction j with
    | zero => intro i m1 h1 h2; omega
    | succ j ih =>
      intro i m1 h1 hi hc1 h3 hsk
      refine x_aload_n dX6_sign_0 rfl ?_
      refine x_getI fX6_78 dX6_sign_1 rfl ?_
      refine x_top (h3) ?_
      refine x_aload_n dX6_sign_4 rfl ?_
      refine x_getI fX6_81 dX6_sign_5 rfl ?_
      refine x_top ((hc1.2 9 (by decide)).trans he) ?_
      refine x_icmp_ge (tgt := 38) dX6_sign_8 (by decide) (by omega) (fun h8 => ?_) (fun h8 => ?_)
      · have hS1 : lM q N (pskip q N X) m1 := hS.to (X' := pskip q N X) hc1 (by decide) (by decide) (by decide) (by decide) pskip_1 (fun _ => pskip_2) h3 hi (fun z => by rw [pskip_0 z]; show i = skp q N X.2.2.1; rw [← hah z, ← hsk]; exact (skp_e (by omega)).symm)
        have hiS : X.1 = 0 → i = skp q N X.2.2.1 := fun z => by rw [← hah z, ← hsk]; exact (skp_e (by omega)).symm
        refine x_aload_n dX6_sign_38 rfl ?_
        refine x_getI fX6_78 dX6_sign_39 rfl ?_
        refine x_top (h3) ?_
        refine x_aload_n dX6_sign_42 rfl ?_
        refine x_getI fX6_81 dX6_sign_43 rfl ?_
        refine x_top ((hc1.2 9 (by decide)).trans he) ?_
        refine x_icmp_ge (tgt := 61) dX6_sign_46 (by decide) (by omega) (fun h46 => ?_) (fun h46 => ?_)
        · refine x_iconst dX6_sign_61 ?_
          exact x_iret dX6_sign_62  (hP m1 _ hc1 hS1 (by omega) (fun z => ⟨fun zz => by have := hiS z; omega, fun _ => rfl⟩))
        · have hbj := hb i (by omega)
          refine x_aload_n dX6_sign_49 rfl ?_
          refine x_getR (r := 102) fX6_30 dX6_sign_50 rfl rfl ?_
          refine x_aload_n dX6_sign_53 rfl ?_
          refine x_getI fX6_78 dX6_sign_54 rfl ?_
          refine x_top (h3) ?_
          refine x_bald (j := i) dX6_sign_57 rfl (by omega) (show _ < 600 by omega) (by omega) ?_
          refine x_top (show m1 102 i = q i by rw [hc1.1 102 (by decide)]; exact hbj.1) ?_
          refine x_goto (tgt := 62) dX6_sign_58 (by decide) ?_
          exact x_iret dX6_sign_62  (hP m1 _ hc1 hS1 hbj.2 (fun z => ⟨fun _ => by rw [← hiS z], fun zz => by have := hiS z; omega⟩))
      · have hbi := hb i (by omega)
        refine x_aload_n dX6_sign_11 rfl ?_
        refine x_getR (r := 102) fX6_30 dX6_sign_12 rfl rfl ?_
        refine x_aload_n dX6_sign_15 rfl ?_
        refine x_getI fX6_78 dX6_sign_16 rfl ?_
        refine x_top (h3) ?_
        refine x_bald (j := i) dX6_sign_19 rfl (by omega) (show _ < 600 by omega) (by omega) ?_
        refine x_top (show m1 102 i = q i by rw [hc1.1 102 (by decide)]; exact hbi.1) ?_
        refine x_bipush dX6_sign_20 (h := ?_)
        refine x_icmp_ne (tgt := 38) dX6_sign_22 (by decide) (by omega) (fun h22 => ?_) (fun h22 => ?_)
        · have hS1 : lM q N (pskip q N X) m1 := hS.to (X' := pskip q N X) hc1 (by decide) (by decide) (by decide) (by decide) pskip_1 (fun _ => pskip_2) h3 hi (fun z => by rw [pskip_0 z]; show i = skp q N X.2.2.1; rw [← hah z, ← hsk]; exact (skp_e (by omega)).symm)
          have hiS : X.1 = 0 → i = skp q N X.2.2.1 := fun z => by rw [← hah z, ← hsk]; exact (skp_e (by omega)).symm
          refine x_aload_n dX6_sign_38 rfl ?_
          refine x_getI fX6_78 dX6_sign_39 rfl ?_
          refine x_top (h3) ?_
          refine x_aload_n dX6_sign_42 rfl ?_
          refine x_getI fX6_81 dX6_sign_43 rfl ?_
          refine x_top ((hc1.2 9 (by decide)).trans he) ?_
          refine x_icmp_ge (tgt := 61) dX6_sign_46 (by decide) (by omega) (fun h46 => ?_) (fun h46 => ?_)
          · refine x_iconst dX6_sign_61 ?_
            exact x_iret dX6_sign_62  (hP m1 _ hc1 hS1 (by omega) (fun z => ⟨fun zz => by have := hiS z; omega, fun _ => rfl⟩))
          · have hbj := hb i (by omega)
            refine x_aload_n dX6_sign_49 rfl ?_
            refine x_getR (r := 102) fX6_30 dX6_sign_50 rfl rfl ?_
            refine x_aload_n dX6_sign_53 rfl ?_
            refine x_getI fX6_78 dX6_sign_54 rfl ?_
            refine x_top (h3) ?_
            refine x_bald (j := i) dX6_sign_57 rfl (by omega) (show _ < 600 by omega) (by omega) ?_
            refine x_top (show m1 102 i = q i by rw [hc1.1 102 (by decide)]; exact hbj.1) ?_
            refine x_goto (tgt := 62) dX6_sign_58 (by decide) ?_
            exact x_iret dX6_sign_62  (hP m1 _ hc1 hS1 hbj.2 (fun z => ⟨fun _ => by rw [← hiS z], fun zz => by have := hiS z; omega⟩))
        · refine x_aload_n dX6_sign_25 rfl ?_
          refine x_dup dX6_sign_26 vr_cat ?_
          refine x_getI fX6_78 dX6_sign_27 rfl ?_
          refine x_top (h3) ?_
          refine x_iconst dX6_sign_30 ?_
          refine x_iadd dX6_sign_31 ?_
          refine x_putI fX6_78 dX6_sign_32 rfl (by decide) rfl rfl ?_
          refine x_goto (tgt := 0) dX6_sign_35 (by decide) ?_
          exact ih (i + 1) _ (by omega) (by omega) (hc1.u (by decide)) (by rw [xu_s]; omega) (by rw [← hsk]; exact (skp_s (by omega) (by omega)).symm)
  exact loop (N + 1) a m (by omega) haN cg.rf ha rfl

set_option maxRecDepth 20000 in
theorem s_isHere {E : xE} {f : Nat → Nat} {D : Nat → Nat × Nat} {n : Nat} {m : xM} {P : xPo} {PX : xPx} {q : Nat → Int} {N : Nat} {X : pX} {i : Nat} (hi : i < 13) (hX : X.1 = 0) (hS : lM q N X m) (hP : ∀ m', cg 96 [10] m m' → lM q N (pskip q N X) m' → P (some (vi (zi (wdP q N (skp q N X.2.2.1) i)))) (gS f D n) m') : xC E (yX6_isHere, cX6_isHere, 3, some .boolean) 4 0 0 [vr E 96, vr E (9 + i)] (gS f D n) m P PX := by
  refine x_enter (by decide) rfl rfl (by simp only [lg_sl, List.flatMap_cons, List.flatMap_nil, vr_cat]; exact Nat.le_of_ble_eq_true rfl) ?_
  have hle0 : lv_args 0 [vr E 96, vr E (9 + i)] = [(0, vr E 96), (1, vr E (9 + i))] := by simp only [lv_args, vr_cat]; rfl
  rw [hle0]
  have hwb := wl_b i hi
  have hN9 : N ≤ 600 := hS.2.2.2.2.2.1
  have loop : ∀ (a1 : Nat) (m1 : xM), cg 96 [10] m m1 → lM q N (pskip q N X) m1 → m1 96 10 = (a1 : Int) → m1 96 9 = (N : Int) → a1 ≤ N → (∀ k, k < N → m1 102 k = q k ∧ -128 ≤ q k ∧ q k ≤ 127) → a1 = skp q N X.2.2.1 → ∀ (j k : Nat), wl i < k + j → k ≤ wl i → (∀ z, z < k → a1 + z < N ∧ q (a1 + z) = wc i z) → xX E (("isHere", some .boolean, []), (4, 0, 0), P, PX) RX6 cX6_isHere 3 0 0 7 [(0, vr E 96), (1, vr E (9 + i)), (2, vi (k : Int))] [] (gS f D n) m1 := by
    intro a1 m1 hc1 hS1 ha1 he1 haN1 hb1 haS j
    induction j with
    | zero => intro k h1 h2; omega
    | succ j ih =>
      intro k h1 h2 hq
      refine x_iload_n dX6_isHere_7 rfl ?_
      refine x_aload_n dX6_isHere_8 rfl ?_
      refine x_callT (as := []) hi sb_X6_88 sw_i_length sw_s_length dX6_isHere_9 rfl rfl (s_length hi ?_)
      refine x_icmp_ge (tgt := 55) dX6_isHere_12 (by decide) (by omega) (fun h12 => ?_) (fun h12 => ?_)
      · refine x_aload_n dX6_isHere_55 rfl ?_
        refine x_aload_n dX6_isHere_56 rfl ?_
        refine x_getI fX6_78 dX6_isHere_57 rfl ?_
        refine x_top (ha1) ?_
        refine x_aload_n dX6_isHere_60 rfl ?_
        refine x_callT (as := []) hi sb_X6_88 sw_i_length sw_s_length dX6_isHere_61 rfl rfl (s_length hi ?_)
        refine x_iadd dX6_isHere_64 ?_
        refine x_top (show (a1 : Int) + (wl i : Int) = ((a1 + wl i : Nat) : Int) by omega) ?_
        refine x_V1 mX6_93 dX6_isHere_65 rfl (s_isSmall (k := a1 + wl i) (by omega) he1 hN9 hb1 ?_)
        refine x_if_ne (tgt := 75) dX6_isHere_68 (by decide) (zi_r _) (fun h68 => ?_) (fun h68 => ?_)
        · refine x_iconst dX6_isHere_75 ?_
          exact x_zret dX6_isHere_76 (Or.inl rfl) (zi_P0 (by rw [← haS]; exact fun zz => zz.2.2 (zi_1.mp h68)) (hP m1 hc1 hS1))
        · refine x_iconst dX6_isHere_71 ?_
          refine x_goto (tgt := 76) dX6_isHere_72 (by decide) ?_
          exact x_zret dX6_isHere_76 (Or.inr rfl) (zi_P1 (by rw [← haS]; exact ⟨by have := (hq (wl i - 1) (by omega)).1; omega, fun z hz => (hq z (by omega)).2, zi_0.mp h68⟩) (hP m1 hc1 hS1))
      · have hcb := wc_b i hi k (by omega)
        refine x_aload_n dX6_isHere_15 rfl ?_
        refine x_aload_n dX6_isHere_16 rfl ?_
        refine x_getI fX6_78 dX6_isHere_17 rfl ?_
        refine x_top (ha1) ?_
        refine x_iload_n dX6_isHere_20 rfl ?_
        refine x_iadd dX6_isHere_21 ?_
        refine x_top (show (a1 : Int) + (k : Int) = ((a1 + k : Nat) : Int) by omega) ?_
        refine x_V1 mX6_93 dX6_isHere_22 rfl (s_isSmall (k := a1 + k) (by omega) he1 hN9 hb1 ?_)
        refine x_if_eq (tgt := 47) dX6_isHere_25 (by decide) (zi_r _) (fun h25 => ?_) (fun h25 => ?_)
        · have hno : ¬ wdP q N a1 i := fun zz => zi_0.mp h25 ⟨by have := zz.1; omega, by have := zz.2.1 k (by omega); exact ⟨by omega, by omega⟩⟩
          refine x_iconst dX6_isHere_47 ?_
          exact x_zret dX6_isHere_48 (Or.inl rfl) (zi_P0 (by rw [← haS]; exact hno) (hP m1 hc1 hS1))
        · have hsm := zi_1.mp h25
          have hbi := hb1 (a1 + k) hsm.1
          refine x_aload_n dX6_isHere_28 rfl ?_
          refine x_getR (r := 102) fX6_30 dX6_isHere_29 rfl rfl ?_
          refine x_aload_n dX6_isHere_32 rfl ?_
          refine x_getI fX6_78 dX6_isHere_33 rfl ?_
          refine x_top (ha1) ?_
          refine x_iload_n dX6_isHere_36 rfl ?_
          refine x_iadd dX6_isHere_37 ?_
          refine x_bald (j := a1 + k) dX6_isHere_38 rfl (by omega) (show _ < 600 by omega) (by omega) ?_
          refine x_top (hbi.1) ?_
          refine x_aload_n dX6_isHere_39 rfl ?_
          refine x_iload_n dX6_isHere_40 rfl ?_
          refine x_callT (as := [vi (k : Int)]) hi sb_X6_97 sw_i_charAt sw_s_charAt dX6_isHere_41 rfl rfl (s_charAt hi (by omega) ?_)
          refine x_icmp_eq (tgt := 49) dX6_isHere_44 (by decide) (by omega) (fun h44 => ?_) (fun h44 => ?_)
          · refine x_iinc dX6_isHere_49 rfl ?_
            refine x_goto (tgt := 7) dX6_isHere_52 (by decide) ?_
            exact x_loc (lv' := [(0, vr E 96), (1, vr E (9 + i)), (2, vi ((k + 1 : Nat) : Int))]) ⟨rfl, by rw [vr_pos (show 0 < 9 + i by omega)]; rfl, xl_i rfl (by omega), trivial⟩ (ih (k + 1) (by omega) (by omega) (lt_s hq ⟨by omega, by omega⟩))
          · have hno : ¬ wdP q N a1 i := fun zz => by have := zz.2.1 k (by omega); omega
            refine x_iconst dX6_isHere_47 ?_
            exact x_zret dX6_isHere_48 (Or.inl rfl) (zi_P0 (by rw [← haS]; exact hno) (hP m1 hc1 hS1))
  refine x_aload_n dX6_isHere_0 rfl ?_
  refine x_V0 mX6_84 dX6_isHere_1 rfl (s_sign hS (fun m1 r1 hc1 hS1 hr1 hs1 => ?_))
  obtain ⟨⟨a1, ha1, haN1, hah1⟩, he1, hf1, hp1, h41, hN1, hb1⟩ := id hS1
  rw [pskip_1] at hf1 hah1 h41
  refine x_pop dX6_isHere_4 rfl ?_
  refine x_iconst dX6_isHere_5 ?_
  refine x_istore_n dX6_isHere_6 ?_
  exact x_loc (lv' := [(0, vr E 96), (1, vr E (9 + i)), (2, vi ((0 : Nat) : Int))]) ⟨rfl, by rw [vr_pos (show 0 < 9 + i by omega)]; rfl, rfl, trivial⟩ (loop a1 m1 hc1 hS1 ha1 he1 haN1 hb1 ((hah1 hX).trans (by rw [pskip_0 hX]; rfl)) 8 0 (by omega) (by omega) (fun z hz => by omega))

set_option maxRecDepth 20000 in
theorem s_passesWord {E : xE} {f : Nat → Nat} {D : Nat → Nat × Nat} {n : Nat} {m : xM} {P : xPo} {PX : xPx} {q : Nat → Int} {N : Nat} {X : pX} {i : Nat} (hi : i < 13) (hS : lM q N X m) (hP : ∀ m', cg 96 [10] m m' → lM q N (pwX q N i X) m' → P (some (vi (zi (pwT q N i X)))) (gS f D n) m') : xC E (yX6_passesWord, cX6_passesWord, 2, some .boolean) 5 0 0 [vr E 96, vr E (9 + i)] (gS f D n) m P PX := by
  refine x_enter (by decide) rfl rfl (by simp only [lg_sl, List.flatMap_cons, List.flatMap_nil, vr_cat]; exact Nat.le_of_ble_eq_true rfl) ?_
  have hle0 : lv_args 0 [vr E 96, vr E (9 + i)] = [(0, vr E 96), (1, vr E (9 + i))] := by simp only [lv_args, vr_cat]; rfl
  rw [hle0]
  have hwb := wl_b i hi
  obtain ⟨⟨a, ha, haN, hah⟩, he, hf, hp, h4, hN, hb⟩ := id hS
  refine x_aload_n dX6_passesWord_0 rfl ?_
  refine x_getI fX6_72 dX6_passesWord_1 rfl ?_
  refine x_top (hf) ?_
  refine x_if_gt (tgt := 15) dX6_passesWord_4 (by decide) (by omega) (fun h4 => ?_) (fun h4 => ?_)
  · have hno : ¬ pwT q N i X := fun zz => by have := zz.1; omega
    have hX : X.1 ≠ 0 := by omega
    refine x_iconst dX6_passesWord_15 ?_
    exact x_zret dX6_passesWord_16 (Or.inl rfl) (zi_P0 hno (hP m cg.rf (by rw [pwX_f hno, pskip_n hX]; exact hS)))
  · have hX : X.1 = 0 := by omega
    refine x_aload_n dX6_passesWord_7 rfl ?_
    refine x_aload_n dX6_passesWord_8 rfl ?_
    refine x_V1 mX6_101 dX6_passesWord_9 rfl (s_isHere hi hX hS (fun m1 hc1 hS1 => ?_))
    obtain ⟨⟨a1, ha1, haN1, hah1⟩, he1, hf1, hp1, h41, hN1, hb1⟩ := id hS1
    rw [pskip_1] at hf1 hah1 h41
    have haS : a1 = skp q N X.2.2.1 := (hah1 hX).trans (by rw [pskip_0 hX]; rfl)
    refine x_if_ne (tgt := 17) dX6_passesWord_12 (by decide) (zi_r _) (fun h12 => ?_) (fun h12 => ?_)
    · have hyes : pwT q N i X := ⟨hX, zi_1.mp h12⟩
      refine x_aload_n dX6_passesWord_17 rfl ?_
      refine x_dup dX6_passesWord_18 vr_cat ?_
      refine x_getI fX6_78 dX6_passesWord_19 rfl ?_
      refine x_top (ha1) ?_
      refine x_aload_n dX6_passesWord_22 rfl ?_
      refine x_callT (as := []) hi sb_X6_88 sw_i_length sw_s_length dX6_passesWord_23 rfl rfl (s_length hi ?_)
      refine x_iadd dX6_passesWord_26 ?_
      refine x_top (show (a1 : Int) + (wl i : Int) = ((a1 + wl i : Nat) : Int) by omega) ?_
      refine x_putI fX6_78 dX6_passesWord_27 rfl (by decide) rfl rfl ?_
      refine x_iconst dX6_passesWord_30 ?_
      exact x_zret dX6_passesWord_31 (Or.inr rfl) (zi_P1 hyes (hP _ (hc1.u (by decide)) (by rw [pwX_t hyes]; exact hS.to (X' := pat (skp q N X.2.2.1 + wl i) X) (hc1.u (J := [10]) (by decide)) (by decide) (by decide) (by decide) (by decide) rfl (fun _ => rfl) (a := a1 + wl i) (by rw [xu_s]) (by have := hyes.2.1; omega) (fun _ => by rw [haS]; rfl))))
    · have hno : ¬ pwT q N i X := fun zz => zi_0.mp h12 zz.2
      refine x_iconst dX6_passesWord_15 ?_
      exact x_zret dX6_passesWord_16 (Or.inl rfl) (zi_P0 hno (hP m1 hc1 (by rw [pwX_f hno]; exact hS1)))

set_option maxRecDepth 20000 in
theorem s_passesSign {E : xE} {f : Nat → Nat} {D : Nat → Nat × Nat} {n : Nat} {m : xM} {P : xPo} {PX : xPx} {q : Nat → Int} {N : Nat} {X : pX} {c : Int} (hc9 : 1 ≤ c ∧ c ≤ 127) (hS : lM q N X m) (hP : ∀ m', cg 96 [10] m m' → lM q N (psX q N c X) m' → P (some (vi (zi (psT q N c X)))) (gS f D n) m') : xC E (yX6_passesSign, cX6_passesSign, 2, some .boolean) 1 0 0 [vr E 96, vi c] (gS f D n) m P PX := by
  refine x_enter (by decide) rfl rfl (Nat.le_of_ble_eq_true rfl) ?_
  obtain ⟨⟨a, ha, haN, hah⟩, he, hf, hp, h4, hN, hb⟩ := id hS
  refine x_aload_n dX6_passesSign_0 rfl ?_
  refine x_getI fX6_72 dX6_passesSign_1 rfl ?_
  refine x_top (hf) ?_
  refine x_if_gt (tgt := 26) dX6_passesSign_4 (by decide) (by omega) (fun h4 => ?_) (fun h4 => ?_)
  · have hno : ¬ psT q N c X := fun zz => by have := zz.1; omega
    have hX : X.1 ≠ 0 := by omega
    refine x_iconst dX6_passesSign_26 ?_
    exact x_zret dX6_passesSign_27 (Or.inl rfl) (zi_P0 hno (hP m cg.rf (by rw [psX_f hno, pskip_n hX]; exact hS)))
  · have hX : X.1 = 0 := by omega
    refine x_aload_n dX6_passesSign_7 rfl ?_
    refine x_V0 mX6_84 dX6_passesSign_8 rfl (s_sign hS (fun m1 r1 hc1 hS1 hr1 hs1 => ?_))
    obtain ⟨⟨a1, ha1, haN1, hah1⟩, he1, hf1, hp1, h41, hN1, hb1⟩ := id hS1
    rw [pskip_1] at hf1 hah1 h41
    have haS : a1 = skp q N X.2.2.1 := (hah1 hX).trans (by rw [pskip_0 hX]; rfl)
    have hs1 := hs1 hX
    rw [← haS] at hs1
    refine x_iload_n dX6_passesSign_11 rfl ?_
    refine x_icmp_ne (tgt := 26) dX6_passesSign_12 (by decide) (by omega) (fun h12 => ?_) (fun h12 => ?_)
    · have hno : ¬ psT q N c X := fun zz => by have h1 := zz.2.1; have h2 := zz.2.2; rw [← haS] at h1 h2; have := hs1.1 h1; omega
      refine x_iconst dX6_passesSign_26 ?_
      exact x_zret dX6_passesSign_27 (Or.inl rfl) (zi_P0 hno (hP m1 hc1 (by rw [psX_f hno]; exact hS1)))
    · refine x_aload_n dX6_passesSign_15 rfl ?_
      refine x_getI fX6_78 dX6_passesSign_16 rfl ?_
      refine x_top (ha1) ?_
      refine x_aload_n dX6_passesSign_19 rfl ?_
      refine x_getI fX6_81 dX6_passesSign_20 rfl ?_
      refine x_top (he1) ?_
      refine x_icmp_lt (tgt := 28) dX6_passesSign_23 (by decide) (by omega) (fun h23 => ?_) (fun h23 => ?_)
      · have hyes : psT q N c X := ⟨hX, by rw [← haS]; exact ⟨by omega, by have := hs1.1 (by omega); omega⟩⟩
        refine x_aload_n dX6_passesSign_28 rfl ?_
        refine x_dup dX6_passesSign_29 vr_cat ?_
        refine x_getI fX6_78 dX6_passesSign_30 rfl ?_
        refine x_top (ha1) ?_
        refine x_iconst dX6_passesSign_33 ?_
        refine x_iadd dX6_passesSign_34 ?_
        refine x_putI fX6_78 dX6_passesSign_35 rfl (by decide) rfl rfl ?_
        refine x_iconst dX6_passesSign_38 ?_
        exact x_zret dX6_passesSign_39 (Or.inr rfl) (zi_P1 hyes (hP _ (hc1.u (by decide)) (by rw [psX_t hyes]; exact hS.to (X' := pat (skp q N X.2.2.1 + 1) X) (hc1.u (J := [10]) (by decide)) (by decide) (by decide) (by decide) (by decide) rfl (fun _ => rfl) (a := a1 + 1) (by rw [xu_s]; omega) (by omega) (fun _ => by rw [haS]; rfl))))
      · have hno : ¬ psT q N c X := fun zz => by have h1 := zz.2.1; omega
        refine x_iconst dX6_passesSign_26 ?_
        exact x_zret dX6_passesSign_27 (Or.inl rfl) (zi_P0 hno (hP m1 hc1 (by rw [psX_f hno]; exact hS1)))

set_option maxRecDepth 20000 in
theorem s_number {E : xE} {f : Nat → Nat} {D : Nat → Nat × Nat} {n : Nat} {m : xM} {P : xPo} {PX : xPx} {q : Nat → Int} {N : Nat} {X : pX} {lo hi : Int} (hlo : 0 ≤ lo ∧ lo ≤ 1000000) (hhi : 0 ≤ hi ∧ hi ≤ 99999) (hS : lM q N X m) (hP : ∀ m' v, cg 96 [10, 11, 12, 14] m m' → lM q N (pnX q N lo hi X) m' → ((pnX q N lo hi X).1 = 0 → v = pnV q N X) → 0 ≤ v ∧ v ≤ 100000 → P (some (vi v)) (gS f D n) m') : xC E (yX6_number, cX6_number, 4, some .int) 1 0 0 [vr E 96, vi lo, vi hi] (gS f D n) m P PX := by
  refine x_enter (by decide) rfl rfl (Nat.le_of_ble_eq_true rfl) ?_
  obtain ⟨⟨a0, ha0, haN0, hah0⟩, he, hf, hp, h4, hN, hb⟩ := id hS
  have loop : ∀ (a : Nat), a = skp q N X.2.2.1 → (a < N ∧ isd (q a)) → X.1 = 0 → ∀ (j i : Nat) (acc v : Int) (m1 : xM), N < i + j → i ≤ N → a ≤ i → cg 96 [10, 14] m m1 → m1 96 10 = (i : Int) → m1 96 14 = (a : Int) → m1 96 11 = ((0 : Nat) : Int) → v = min acc 100000 → 0 ≤ acc → dgs q N a 0 = dgs q N i acc → xX E (("number", some .int, []), (1, 0, 0), P, PX) RX6 cX6_number 4 0 0 44 [(0, vr E 96), (1, vi lo), (2, vi hi), (3, vi v)] [] (gS f D n) m1 := by
    intro a haS hyd hX
    have hfin : ∀ (i : Nat) (acc v : Int) (m1 : xM), cg 96 [10, 14] m m1 → m1 96 10 = (i : Int) → m1 96 14 = (a : Int) → i ≤ N → v = min acc 100000 → 0 ≤ acc → dgs q N a 0 = (i, acc) → xX E (("number", some .int, []), (1, 0, 0), P, PX) RX6 cX6_number 4 0 0 98 [(0, vr E 96), (1, vi lo), (2, vi hi), (3, vi v)] [] (gS f D n) m1 := by
      intro i acc v m1 hc1 h3 h14 hi9 hv hv0 hdg
      have hpv : pnV q N X = acc := by unfold pnV; rw [← haS, hdg]
      have hSa : lM q N (pat i X) m1 := hS.to (X' := pat i X) hc1 (by decide) (by decide) (by decide) (by decide) rfl (fun _ => rfl) h3 hi9 (fun _ => rfl)
      refine x_iload_n dX6_number_98 rfl ?_
      refine x_i2l dX6_number_99 (by omega) ?_
      refine x_iload_n dX6_number_100 rfl ?_
      refine x_i2l dX6_number_101 (by omega) ?_
      refine x_iload_n dX6_number_102 rfl ?_
      refine x_i2l dX6_number_103 (by omega) ?_
      refine x_S3 mX6_122 dX6_number_104 (s_lies (by omega) ?_)
      refine x_if_ne (tgt := 119) dX6_number_107 (by decide) (zi_r _) (fun h107 => ?_) (fun h107 => ?_)
      · have hin := zi_1.mp h107
        refine x_iload_n dX6_number_119 rfl ?_
        exact x_iret dX6_number_120  (hP m1 v (hc1.wk (by decide)) (by rw [pnX_3 hX (by rw [← haS]; exact hyd) (by rw [hpv]; omega)]; exact hS.to (X' := pat (dgs q N (skp q N X.2.2.1) 0).1 X) hc1 (by decide) (by decide) (by decide) (by decide) rfl (fun _ => rfl) h3 hi9 (fun _ => by show i = (dgs q N (skp q N X.2.2.1) 0).1; rw [← haS, hdg])) (fun _ => by rw [hpv]; omega) (by omega))
      · have hin := zi_0.mp h107
        refine x_aload_n dX6_number_110 rfl ?_
        refine x_iconst dX6_number_111 ?_
        refine x_aload_n dX6_number_112 rfl ?_
        refine x_getI fX6_105 dX6_number_113 rfl ?_
        refine x_top (h14) ?_
        refine x_V2 mX6_111 dX6_number_116 rfl (s_wrong (k := 2) (p := a) (by omega) hSa (fun m2 hc2 hS2 => ?_))
        refine x_iload_n dX6_number_119 rfl ?_
        exact x_iret dX6_number_120  (hP m2 v (hc1.tr hc2 (by decide) (by decide)) (by rw [pnX_2 hX (by rw [← haS]; exact hyd) (by rw [hpv]; omega), ← haS]; exact (lC_k (X := pat i X) hX hS2).mk0) (fun zz => by rw [pnX_2 hX (by rw [← haS]; exact hyd) (by rw [hpv]; omega)] at zz; exact absurd zz (by show (2 : Nat) ≠ 0; omega)) (by omega))
    intro j
    induction j with
    | zero => intro i acc v m1 h1 h2; omega
    | succ j ih =>
      intro i acc v m1 h1 hi9 hai hc1 h3 h14 h11 hv hv0 hdg
      refine x_aload_n dX6_number_44 rfl ?_
      refine x_getI fX6_72 dX6_number_45 rfl ?_
      refine x_top (h11) ?_
      refine x_if_ne (tgt := 98) dX6_number_48 (by decide) (by omega) (fun h48 => absurd rfl h48) (fun h48 => ?_)
      refine x_aload_n dX6_number_51 rfl ?_
      refine x_aload_n dX6_number_52 rfl ?_
      refine x_getI fX6_78 dX6_number_53 rfl ?_
      refine x_top (h3) ?_
      refine x_V1 mX6_108 dX6_number_56 rfl (s_isFigure (k := i) (by omega) ((hc1.2 9 (by decide)).trans he) hN (fun k hk => by rw [hc1.1 102 (by decide)]; exact hb k hk) ?_)
      refine x_if_eq (tgt := 98) dX6_number_59 (by decide) (zi_r _) (fun h59 => ?_) (fun h59 => ?_)
      · exact hfin i acc v m1 hc1 h3 h14 hi9 hv hv0 (by rw [hdg]; exact dgs_e (zi_0.mp h59))
      · have hdd := zi_1.mp h59
        have hdi : isd (q i) := hdd.2
        have hbi := hb i hdd.1
        refine x_bipush dX6_number_62 (h := ?_)
        refine x_iload_n dX6_number_64 rfl ?_
        refine x_imul dX6_number_65 ?_
        refine x_aload_n dX6_number_66 rfl ?_
        refine x_getR (r := 102) fX6_30 dX6_number_67 rfl rfl ?_
        refine x_aload_n dX6_number_70 rfl ?_
        refine x_getI fX6_78 dX6_number_71 rfl ?_
        refine x_top (h3) ?_
        refine x_bald (j := i) dX6_number_74 rfl (by omega) (show _ < 600 by omega) (by omega) ?_
        refine x_top (show m1 102 i = q i by rw [hc1.1 102 (by decide)]; exact hbi.1) ?_
        refine x_iadd dX6_number_75 ?_
        refine x_bipush dX6_number_76 (h := ?_)
        refine x_isub dX6_number_78 ?_
        refine x_ldc kX6_115 dX6_number_79 ?_
        refine x_S2 mX6_116 dX6_number_81 (s_min (by omega) ?_)
        refine x_istore_n dX6_number_84 ?_
        refine x_aload_n dX6_number_85 rfl ?_
        refine x_dup dX6_number_86 vr_cat ?_
        refine x_getI fX6_78 dX6_number_87 rfl ?_
        refine x_top (h3) ?_
        refine x_iconst dX6_number_90 ?_
        refine x_iadd dX6_number_91 ?_
        refine x_putI fX6_78 dX6_number_92 rfl (by decide) rfl rfl ?_
        refine x_goto (tgt := 44) dX6_number_95 (by decide) ?_
        exact x_loc (lv' := [(0, vr E 96), (1, vi lo), (2, vi hi), (3, vi (min (acc * 10 + q i - 48) 100000))]) ⟨rfl, rfl, rfl, xl_i rfl (by have := cap_s hv hv0 (by omega) hdi; omega), trivial⟩ (ih (i + 1) (acc * 10 + q i - 48) _ _ (by omega) (by omega) (by omega) (hc1.u (by decide)) (by rw [xu_s]; omega) (by rw [xu_n (Or.inr (by decide))]; exact h14) (by rw [xu_n (Or.inr (by decide))]; exact h11) rfl (by have := hdi.1; omega) (by rw [hdg]; exact dgs_s hdd.1 hdi))
  refine x_aload_n dX6_number_0 rfl ?_
  refine x_V0 mX6_84 dX6_number_1 rfl (s_sign hS (fun m1 r1 hc1 hS1 hr1 hs1 => ?_))
  obtain ⟨⟨a1, ha1, haN1, hah1⟩, he1, hf1, hp1, h41, hN1, hb1⟩ := id hS1
  rw [pskip_1] at hf1 hah1 h41
  refine x_pop dX6_number_4 rfl ?_
  refine x_aload_n dX6_number_5 rfl ?_
  refine x_getI fX6_72 dX6_number_6 rfl ?_
  refine x_top (hf1) ?_
  refine x_if_le (tgt := 14) dX6_number_9 (by decide) (by omega) (fun h9 => ?_) (fun h9 => ?_)
  · have hX : X.1 = 0 := by omega
    have haS : a1 = skp q N X.2.2.1 := (hah1 hX).trans (by rw [pskip_0 hX]; rfl)
    refine x_aload_n dX6_number_14 rfl ?_
    refine x_aload_n dX6_number_15 rfl ?_
    refine x_getI fX6_78 dX6_number_16 rfl ?_
    refine x_top (ha1) ?_
    refine x_putI fX6_105 dX6_number_19 rfl (by decide) rfl rfl ?_
    refine x_aload_n dX6_number_22 rfl ?_
    refine x_aload_n dX6_number_23 rfl ?_
    refine x_getI fX6_78 dX6_number_24 rfl ?_
    refine x_top (show _ = (a1 : Int) by rw [xu_n (Or.inr (by decide))]; exact ha1) ?_
    refine x_V1 mX6_108 dX6_number_27 rfl (s_isFigure (k := a1) (by omega) (by rw [xu_n (Or.inr (by decide))]; exact he1) hN1 (fun k hk => by rw [xu_ne (by decide)]; exact hb1 k hk) ?_)
    refine x_if_ne (tgt := 42) dX6_number_30 (by decide) (zi_r _) (fun h30 => ?_) (fun h30 => ?_)
    · have hyd := zi_1.mp h30
      refine x_iconst dX6_number_42 ?_
      refine x_istore_n dX6_number_43 ?_
      exact x_loc (lv' := [(0, vr E 96), (1, vi lo), (2, vi hi), (3, vi 0)]) ⟨rfl, rfl, rfl, rfl, trivial⟩ (loop a1 haS hyd hX (N + 1) a1 0 0 _ (by omega) haN1 (Nat.le_refl _) (hc1.tr (cg.rf.u (j := 14) (J := [14]) (by decide)) (by decide) (by decide)) (by rw [xu_n (Or.inr (by decide))]; exact ha1) (by rw [xu_s]) (by rw [xu_n (Or.inr (by decide)), hf1, hX]) (by omega) (by omega) rfl)
    · have hnd := zi_0.mp h30
      refine x_aload_n dX6_number_33 rfl ?_
      refine x_iconst dX6_number_34 ?_
      refine x_aload_n dX6_number_35 rfl ?_
      refine x_getI fX6_78 dX6_number_36 rfl ?_
      refine x_top (show _ = (a1 : Int) by rw [xu_n (Or.inr (by decide))]; exact ha1) ?_
      refine x_V2 mX6_111 dX6_number_39 rfl (s_wrong (k := 1) (p := a1) (by omega) (hS.to (X' := pat a1 X) (hc1.tr (cg.rf.u (j := 14) (J := [14]) (by decide)) (L := [10, 14]) (by decide) (by decide)) (by decide) (by decide) (by decide) (by decide) rfl (fun _ => rfl) (by rw [xu_n (Or.inr (by decide))]; exact ha1) haN1 (fun _ => rfl)) (fun m2 hc2 hS2 => ?_))
      have hS3 := lC_k (X := pat a1 X) hX hS2
      obtain ⟨-, -, hf3, -⟩ := id hS3
      refine x_iconst dX6_number_42 ?_
      refine x_istore_n dX6_number_43 ?_
      refine x_aload_n dX6_number_44 rfl ?_
      refine x_getI fX6_72 dX6_number_45 rfl ?_
      refine x_top (hf3) ?_
      refine x_if_ne (tgt := 98) dX6_number_48 (by decide) (by omega) (fun h48 => ?_) (fun h48 => absurd h48 (show ¬ ((1 : Nat) : Int) = 0 by omega))
      refine x_iload_n dX6_number_98 rfl ?_
      refine x_i2l dX6_number_99 (by omega) ?_
      refine x_iload_n dX6_number_100 rfl ?_
      refine x_i2l dX6_number_101 (by omega) ?_
      refine x_iload_n dX6_number_102 rfl ?_
      refine x_i2l dX6_number_103 (by omega) ?_
      refine x_S3 mX6_122 dX6_number_104 (s_lies (by omega) ?_)
      refine x_if_ne (tgt := 119) dX6_number_107 (by decide) (zi_r _) (fun h107 => ?_) (fun h107 => ?_)
      · refine x_iload_n dX6_number_119 rfl ?_
        exact x_iret dX6_number_120  (hP m2 0 ((hc1.tr (cg.rf.u (j := 14) (J := [14]) (by decide)) (L := [10, 14]) (by decide) (by decide)).tr hc2 (by decide) (by decide)) (by rw [pnX_1 hX (by rw [← haS]; exact hnd), ← haS]; exact hS3.mk0) (fun zz => by rw [pnX_1 hX (by rw [← haS]; exact hnd)] at zz; exact absurd zz (by show (1 : Nat) ≠ 0; omega)) (by omega))
      · refine x_aload_n dX6_number_110 rfl ?_
        refine x_iconst dX6_number_111 ?_
        refine x_aload_n dX6_number_112 rfl ?_
        refine x_getI fX6_105 dX6_number_113 rfl ?_
        refine x_top (show m2 96 14 = (a1 : Int) by rw [hc2.2 14 (by decide), xu_s]) ?_
        refine x_V2 mX6_111 dX6_number_116 rfl (s_wrong (k := 2) (p := a1) (by omega) hS3 (fun m4 hc4 hS4 => ?_))
        refine x_iload_n dX6_number_119 rfl ?_
        exact x_iret dX6_number_120  (hP m4 0 (((hc1.tr (cg.rf.u (j := 14) (J := [14]) (by decide)) (L := [10, 14]) (by decide) (by decide)).tr hc2 (L := [10, 11, 12, 14]) (by decide) (by decide)).tr hc4 (by decide) (by decide)) (by rw [pnX_1 hX (by rw [← haS]; exact hnd), ← haS]; exact (show lM q N (1, a1, (pat a1 X).2.2) m4 from hS4).mk0) (fun zz => by rw [pnX_1 hX (by rw [← haS]; exact hnd)] at zz; exact absurd zz (by show (1 : Nat) ≠ 0; omega)) (by omega))
  · have hX : X.1 ≠ 0 := by omega
    refine x_iconst dX6_number_12 ?_
    exact x_iret dX6_number_13  (hP m1 0 (hc1.wk (by decide)) (by rw [pnX_n hX]; rw [pskip_n hX] at hS1; exact hS1) (fun zz => absurd (by rw [pnX_n hX] at zz; exact zz) hX) (by omega))

set_option maxRecDepth 20000 in
theorem s_code {E : xE} {f : Nat → Nat} {D : Nat → Nat × Nat} {n : Nat} {m : xM} {P : xPo} {PX : xPx} {z : Int} {k : Nat} (hk : m 99 108 = (k : Int)) (hk6 : k < 600) (hP : P none (gS f D n) (xu (xu m 99 (109 + k) z) 99 108 ((k + 1 : Nat) : Int))) : xC E (yX6_code, cX6_code, 2, none) 0 0 0 [vr E 96, vi z] (gS f D n) m P PX := by
  refine x_enter (by decide) rfl rfl (Nat.le_of_ble_eq_true rfl) ?_
  refine x_aload_n dX6_code_0 rfl ?_
  refine x_getR (r := 99) fX6_20 dX6_code_1 rfl rfl ?_
  refine x_bipush dX6_code_4 (h := ?_)
  refine x_aload_n dX6_code_6 rfl ?_
  refine x_getR (r := 99) fX6_20 dX6_code_7 rfl rfl ?_
  refine x_bipush dX6_code_10 (h := ?_)
  refine x_iald (j := 108) dX6_code_12 rfl rfl (show 108 < 709 by omega) (by omega) ?_
  refine x_top (hk) ?_
  refine x_iadd dX6_code_13 ?_
  refine x_iload_n dX6_code_14 rfl ?_
  refine x_iast (j := 109 + k) dX6_code_15 rfl (by decide) (by omega) (show _ < 709 by omega) (by omega) ?_
  refine x_aload_n dX6_code_16 rfl ?_
  refine x_getR (r := 99) fX6_20 dX6_code_17 rfl rfl ?_
  refine x_bipush dX6_code_20 (h := ?_)
  refine x_dup2 dX6_code_22 rfl vr_cat ?_
  refine x_iald (j := 108) dX6_code_23 rfl rfl (show 108 < 709 by omega) (by omega) ?_
  refine x_top (show _ = (k : Int) by rw [xu_n (Or.inr (by omega))]; exact hk) ?_
  refine x_iconst dX6_code_24 ?_
  refine x_iadd dX6_code_25 ?_
  refine x_top (show (k : Int) + 1 = ((k + 1 : Nat) : Int) by omega) ?_
  refine x_iast (j := 108) dX6_code_26 rfl (by decide) rfl (show 108 < 709 by omega) (by omega) ?_
  exact x_vret dX6_code_27 (hP)

end LM
