section LG
set_option maxRecDepth 20000 in
theorem s_takesWord {E : xE} {f : Nat → Nat} {D : Nat → Nat × Nat} {n : Nat} {m : xM} {P : xPo} {PX : xPx} {q : Nat → Int} {N : Nat} {X : pX} {i : Nat} (hi : i < 13) (hS : lC q N X m) (hP : ∀ m', cg 80 [3] m m' → lC q N (pwX q N i X) m' → P (some (vi (zi (pwT q N i X)))) (gS f D n) m') : xC E (yX3_takesWord, cX3_takesWord, 4, some .boolean) 4 0 0 [vr E 80, vr E (9 + i)] (gS f D n) m P PX := by
  refine x_enter (by decide) rfl rfl (by simp only [lg_sl, List.flatMap_cons, List.flatMap_nil, vr_cat]; exact Nat.le_of_ble_eq_true rfl) ?_
  have hle0 : lv_args 0 [vr E 80, vr E (9 + i)] = [(0, vr E 80), (1, vr E (9 + i))] := by simp only [lv_args, vr_cat]; rfl
  rw [hle0]
  have hwb := wl_b i hi
  have hN9 : N ≤ 600 := hS.2.2.2.2.2.1
  have loop : ∀ (a1 : Nat) (m1 : xM), cg 80 [3] m m1 → lC q N (pskip q N X) m1 → m1 80 3 = (a1 : Int) → m1 80 4 = (N : Int) → a1 ≤ N → (∀ k, k < N → m1 79 k = q k ∧ -128 ≤ q k ∧ q k ≤ 127) → X.1 = 0 → a1 = skp q N X.2.2.1 → a1 + wl i ≤ N → ¬ (a1 + wl i < N ∧ isl (q (a1 + wl i))) → ∀ (j k : Nat), wl i < k + j → k ≤ wl i → (∀ z, z < k → q (a1 + z) = wc i z) → xX E (("takesWord", some .boolean, []), (4, 0, 0), P, PX) RX3 cX3_takesWord 4 0 0 53 [(0, vr E 80), (1, vr E (9 + i)), (2, vi ((a1 + wl i : Nat) : Int)), (3, vi (k : Int))] [] (gS f D n) m1 := by
    intro a1 m1 hc1 hS1 ha1 he1 haN1 hb1 hX haS hle hnl j
    induction j with
    | zero => intro k h1 h2; omega
    | succ j ih =>
      intro k h1 h2 hq
      refine x_iload_n dX3_takesWord_53 rfl ?_
      refine x_aload_n dX3_takesWord_54 rfl ?_
      refine x_callT (as := []) hi sb_X3_194 sw_i_length sw_s_length dX3_takesWord_55 rfl rfl (s_length hi ?_)
      refine x_icmp_ge (tgt := 88) dX3_takesWord_58 (by decide) (by omega) (fun h58 => ?_) (fun h58 => ?_)
      · refine x_aload_n dX3_takesWord_88 rfl ?_
        refine x_iload_n dX3_takesWord_89 rfl ?_
        refine x_putI fX3_26 dX3_takesWord_90 rfl (by decide) rfl rfl ?_
        refine x_iconst dX3_takesWord_93 ?_
        exact x_zret dX3_takesWord_94 (Or.inr rfl) (zi_P1 (show pwT q N i X from ⟨hX, by rw [← haS]; exact ⟨hle, fun z hz => hq z (by omega), hnl⟩⟩) (hP _ (hc1.u (by decide)) (by rw [pwX_t (show pwT q N i X from ⟨hX, by rw [← haS]; exact ⟨hle, fun z hz => hq z (by omega), hnl⟩⟩)]; exact hS.to (X' := pat (skp q N X.2.2.1 + wl i) X) (hc1.u (J := [3]) (by decide)) (by decide) (by decide) (by decide) (by decide) rfl (fun _ => rfl) (a := a1 + wl i) (by rw [xu_s]) (by omega) (fun _ => by rw [haS]; rfl))))
      · have hbi := hb1 (a1 + k) (by omega)
        have hcb := wc_b i hi k (by omega)
        refine x_aload_n dX3_takesWord_61 rfl ?_
        refine x_getR (r := 79) fX3_22 dX3_takesWord_62 rfl rfl ?_
        refine x_aload_n dX3_takesWord_65 rfl ?_
        refine x_getI fX3_26 dX3_takesWord_66 rfl ?_
        refine x_top (ha1) ?_
        refine x_iload_n dX3_takesWord_69 rfl ?_
        refine x_iadd dX3_takesWord_70 ?_
        refine x_bald (j := a1 + k) dX3_takesWord_71 rfl (by omega) (show _ < 600 by omega) (by omega) ?_
        refine x_top (hbi.1) ?_
        refine x_aload_n dX3_takesWord_72 rfl ?_
        refine x_iload_n dX3_takesWord_73 rfl ?_
        refine x_callT (as := [vi (k : Int)]) hi sb_X3_202 sw_i_charAt sw_s_charAt dX3_takesWord_74 rfl rfl (s_charAt hi (by omega) ?_)
        refine x_icmp_eq (tgt := 82) dX3_takesWord_77 (by decide) (by omega) (fun h77 => ?_) (fun h77 => ?_)
        · refine x_iinc dX3_takesWord_82 rfl ?_
          refine x_goto (tgt := 53) dX3_takesWord_85 (by decide) ?_
          exact x_loc (lv' := [(0, vr E 80), (1, vr E (9 + i)), (2, vi ((a1 + wl i : Nat) : Int)), (3, vi ((k + 1 : Nat) : Int))]) ⟨rfl, rfl, rfl, xl_i rfl (by omega), trivial⟩ (ih (k + 1) (by omega) (by omega) (lt_s hq (by omega)))
        · have hno : ¬ pwT q N i X := fun zz => by have := zz.2.2.1 k (by omega); rw [← haS] at this; omega
          refine x_iconst dX3_takesWord_80 ?_
          exact x_zret dX3_takesWord_81 (Or.inl rfl) (zi_P0 hno (hP m1 hc1 (by rw [pwX_f hno]; exact hS1)))
  refine x_aload_n dX3_takesWord_0 rfl ?_
  refine x_V0 mX3_93 dX3_takesWord_1 rfl (s_skipBlanks hS (fun m1 hc1 hS1 => ?_))
  obtain ⟨⟨a1, ha1, haN1, hah1⟩, he1, hf1, hp1, h41, hN1, hb1⟩ := id hS1
  rw [pskip_1] at hf1 hah1 h41
  refine x_aload_n dX3_takesWord_4 rfl ?_
  refine x_getI fX3_26 dX3_takesWord_5 rfl ?_
  refine x_top (ha1) ?_
  refine x_aload_n dX3_takesWord_8 rfl ?_
  refine x_callT (as := []) hi sb_X3_194 sw_i_length sw_s_length dX3_takesWord_9 rfl rfl (s_length hi ?_)
  refine x_iadd dX3_takesWord_12 ?_
  refine x_top (show (a1 : Int) + (wl i : Int) = ((a1 + wl i : Nat) : Int) by omega) ?_
  refine x_istore_n dX3_takesWord_13 ?_
  refine x_aload_n dX3_takesWord_14 rfl ?_
  refine x_getI fX3_39 dX3_takesWord_15 rfl ?_
  refine x_top (hf1) ?_
  refine x_if_ne (tgt := 49) dX3_takesWord_18 (by decide) (by omega) (fun h18 => ?_) (fun h18 => ?_)
  · have hno : ¬ pwT q N i X := fun zz => h18 (by rw [zz.1]; rfl)
    refine x_iconst dX3_takesWord_49 ?_
    exact x_zret dX3_takesWord_50 (Or.inl rfl) (zi_P0 hno (hP m1 hc1 (by rw [pwX_f hno]; exact hS1)))
  · have hX : X.1 = 0 := by omega
    have haS : a1 = skp q N X.2.2.1 := (hah1 hX).trans (by rw [pskip_0 hX]; rfl)
    have hp1X : (pskip q N X).1 = 0 := pskip_1.trans hX
    refine x_iload_n dX3_takesWord_21 rfl ?_
    refine x_aload_n dX3_takesWord_22 rfl ?_
    refine x_getI fX3_36 dX3_takesWord_23 rfl ?_
    refine x_top (he1) ?_
    refine x_icmp_gt (tgt := 49) dX3_takesWord_26 (by decide) (by omega) (fun h26 => ?_) (fun h26 => ?_)
    · have hno : ¬ pwT q N i X := fun zz => by have := zz.2.1; omega
      refine x_iconst dX3_takesWord_49 ?_
      exact x_zret dX3_takesWord_50 (Or.inl rfl) (zi_P0 hno (hP m1 hc1 (by rw [pwX_f hno]; exact hS1)))
    · have hle : a1 + wl i ≤ N := by omega
      refine x_iload_n dX3_takesWord_29 rfl ?_
      refine x_aload_n dX3_takesWord_30 rfl ?_
      refine x_getI fX3_36 dX3_takesWord_31 rfl ?_
      refine x_top (he1) ?_
      refine x_icmp_ge (tgt := 51) dX3_takesWord_34 (by decide) (by omega) (fun h34 => ?_) (fun h34 => ?_)
      · refine x_iconst dX3_takesWord_51 ?_
        refine x_istore_n dX3_takesWord_52 ?_
        exact x_loc (lv' := [(0, vr E 80), (1, vr E (9 + i)), (2, vi ((a1 + wl i : Nat) : Int)), (3, vi ((0 : Nat) : Int))]) ⟨rfl, by rw [vr_pos (show 0 < 9 + i by omega)]; rfl, rfl, rfl, trivial⟩ (loop a1 m1 hc1 hS1 ha1 he1 haN1 hb1 hX haS hle (fun zz => by have := zz.1; omega) 8 0 (by omega) (by omega) (fun z hz => by omega))
      · have hbi := hb1 (a1 + wl i) (by omega)
        refine x_aload_n dX3_takesWord_37 rfl ?_
        refine x_getR (r := 79) fX3_22 dX3_takesWord_38 rfl rfl ?_
        refine x_iload_n dX3_takesWord_41 rfl ?_
        refine x_bald (j := a1 + wl i) dX3_takesWord_42 rfl (by omega) (show _ < 600 by omega) (by omega) ?_
        refine x_top (hbi.1) ?_
        refine x_S1 mX3_199 dX3_takesWord_43 (s_isLetter hbi.2 ?_)
        refine x_if_eq (tgt := 51) dX3_takesWord_46 (by decide) (zi_r _) (fun h46 => ?_) (fun h46 => ?_)
        · refine x_iconst dX3_takesWord_51 ?_
          refine x_istore_n dX3_takesWord_52 ?_
          exact x_loc (lv' := [(0, vr E 80), (1, vr E (9 + i)), (2, vi ((a1 + wl i : Nat) : Int)), (3, vi ((0 : Nat) : Int))]) ⟨rfl, by rw [vr_pos (show 0 < 9 + i by omega)]; rfl, rfl, rfl, trivial⟩ (loop a1 m1 hc1 hS1 ha1 he1 haN1 hb1 hX haS hle (fun zz => zi_0.mp h46 zz.2) 8 0 (by omega) (by omega) (fun z hz => by omega))
        · have hno : ¬ pwT q N i X := fun zz => by have := zz.2.2.2; rw [← haS] at this; exact this ⟨by omega, zi_1.mp h46⟩
          refine x_iconst dX3_takesWord_49 ?_
          exact x_zret dX3_takesWord_50 (Or.inl rfl) (zi_P0 hno (hP m1 hc1 (by rw [pwX_f hno]; exact hS1)))

theorem cap_s {v a d c : Int} (hv : v = min a c) (ha : 0 ≤ a) (hc : 0 ≤ c) (hd : 48 ≤ d ∧ d ≤ 57) : min (v * 10 + d - 48) c = min (a * 10 + d - 48) c := by omega
theorem pnX_1 {q : Nat → Int} {N : Nat} {X : pX} {lo hi : Int} (h : X.1 = 0) (hd : ¬ (skp q N X.2.2.1 < N ∧ isd (q (skp q N X.2.2.1)))) : pnX q N lo hi X = (1, skp q N X.2.2.1, X.2.2) := by unfold pnX; rw [if_pos h, if_neg hd]
theorem pnX_2 {q : Nat → Int} {N : Nat} {X : pX} {lo hi : Int} (h : X.1 = 0) (hd : skp q N X.2.2.1 < N ∧ isd (q (skp q N X.2.2.1))) (hv : ¬ (lo ≤ pnV q N X ∧ pnV q N X ≤ hi)) : pnX q N lo hi X = (2, skp q N X.2.2.1, X.2.2) := by unfold pnX; rw [if_pos h, if_pos hd, if_neg hv]
theorem pnX_3 {q : Nat → Int} {N : Nat} {X : pX} {lo hi : Int} (h : X.1 = 0) (hd : skp q N X.2.2.1 < N ∧ isd (q (skp q N X.2.2.1))) (hv : lo ≤ pnV q N X ∧ pnV q N X ≤ hi) : pnX q N lo hi X = pat (dgs q N (skp q N X.2.2.1) 0).1 X := by unfold pnX; rw [if_pos h, if_pos hd, if_pos hv]
theorem pnX_n {q : Nat → Int} {N : Nat} {X : pX} {lo hi : Int} (h : X.1 ≠ 0) : pnX q N lo hi X = X := if_neg h
theorem lS.mk0 {q : Nat → Int} {N k p h h' : Nat} {r r' : Nat → Int} {C ja je jf jp B : Nat} {m : xM} (hS : lS C ja je jf jp B q N (k, p, h, r) m) (hk : k ≠ 0 := by decide) : lS C ja je jf jp B q N (k, p, h', r') m := by
  obtain ⟨⟨a, ha, haN, hh⟩, rest⟩ := hS
  exact ⟨⟨a, ha, haN, fun z => absurd z hk⟩, rest⟩
theorem lC_k {q : Nat → Int} {N k p : Nat} {X : pX} {C ja je jf jp B : Nat} {m : xM} (hX : X.1 = 0) (hS : lS C ja je jf jp B q N (pfl k p X) m) : lS C ja je jf jp B q N (k, p, X.2.2) m := by unfold pfl at hS; rw [if_pos hX] at hS; exact hS
set_option maxRecDepth 20000 in
theorem s_readNumber {E : xE} {f : Nat → Nat} {D : Nat → Nat × Nat} {n : Nat} {m : xM} {P : xPo} {PX : xPx} {q : Nat → Int} {N : Nat} {X : pX} {lo hi : Int} (hlo : 0 ≤ lo ∧ lo ≤ 1000000) (hhi : 0 ≤ hi ∧ hi ≤ 99999) (hS : lC q N X m) (hP : ∀ m' v, cg 80 [3, 5, 9] m m' → lC q N (pnX q N lo hi X) m' → ((pnX q N lo hi X).1 = 0 → v = pnV q N X) → 0 ≤ v ∧ v ≤ 1000000 → P (some (vi v)) (gS f D n) m') : xC E (yX3_readNumber, cX3_readNumber, 5, some .int) 1 0 0 [vr E 80, vi lo, vi hi] (gS f D n) m P PX := by
  refine x_enter (by decide) rfl rfl (Nat.le_of_ble_eq_true rfl) ?_
  obtain ⟨⟨a0, ha0, haN0, hah0⟩, he, hf, hp, h4, hN, hb⟩ := id hS
  have hfin : ∀ (a i : Nat) (acc v : Int) (m1 : xM), cg 80 [3] m m1 → m1 80 3 = (i : Int) → i ≤ N → (X.1 = 0 → a = skp q N X.2.2.1) ∧ a ≤ i → v = min acc 1000000 → 0 ≤ acc → dgs q N a 0 = (i, acc) → xX E (("readNumber", some .int, []), (1, 0, 0), P, PX) RX3 cX3_readNumber 5 0 0 76 [(0, vr E 80), (1, vi lo), (2, vi hi), (3, vi (a : Int)), (4, vi v)] [] (gS f D n) m1 := by
    intro a i acc v m1 hc1 h3 hi9 hal hv hv0 hdg
    have hSa : lC q N X m1 ∨ X.1 = 0 := by
      by_cases hX : X.1 = 0
      · exact Or.inr hX
      · exact Or.inl (hS.to (X' := X) hc1 (by decide) (by decide) (by decide) (by decide) rfl (fun _ => rfl) h3 hi9 (fun z => absurd z hX))
    by_cases hX : X.1 = 0
    · have haS := hal.1 hX
      have hpv : pnV q N X = acc := by unfold pnV; rw [← haS, hdg]
      have hyd : i ≠ a → a < N ∧ isd (q a) := fun hne => by
        rcases Classical.em (a < N ∧ isd (q a)) with c | c
        · exact c
        · rw [dgs_e c] at hdg
          exact absurd (congrArg Prod.fst hdg).symm hne
      have hnd : i = a → ¬ (a < N ∧ isd (q a)) := fun he9 c => by
        have := dgs_1 (q := q) (N := N) (a := 0) c.1 c.2 (by omega)
        rw [hdg] at this
        have : a + 1 ≤ i := this
        omega
      have hSa : lC q N (pat i X) m1 := hS.to (X' := pat i X) hc1 (by decide) (by decide) (by decide) (by decide) rfl (fun _ => rfl) h3 hi9 (fun _ => rfl)
      refine x_aload_n dX3_readNumber_76 rfl ?_
      refine x_getI fX3_26 dX3_readNumber_77 rfl ?_
      refine x_top (h3) ?_
      refine x_iload_n dX3_readNumber_80 rfl ?_
      refine x_icmp_ne (tgt := 93) dX3_readNumber_81 (by decide) (by omega) (fun h81 => ?_) (fun h81 => ?_)
      · refine x_iload dX3_readNumber_93 rfl ?_
        refine x_iload_n dX3_readNumber_95 rfl ?_
        refine x_icmp_lt (tgt := 105) dX3_readNumber_96 (by decide) (by omega) (fun h96 => ?_) (fun h96 => ?_)
        · refine x_aload_n dX3_readNumber_105 rfl ?_
          refine x_iconst dX3_readNumber_106 ?_
          refine x_iload_n dX3_readNumber_107 rfl ?_
          refine x_V2 mX3_80 dX3_readNumber_108 rfl (s_note (k := 2) (p := a) (by omega) hSa (fun m2 hc2 hS2 => ?_))
          refine x_iload dX3_readNumber_111 rfl ?_
          exact x_iret dX3_readNumber_113  (hP m2 v (hc1.tr hc2 (by decide) (by decide)) (by rw [pnX_2 hX (by rw [← haS]; exact hyd (by omega)) (by rw [hpv]; omega), ← haS]; exact (lC_k (X := pat i X) hX hS2).mk0) (fun zz => by rw [pnX_2 hX (by rw [← haS]; exact hyd (by omega)) (by rw [hpv]; omega)] at zz; exact absurd zz (by show (2 : Nat) ≠ 0; omega)) (by omega))
        · refine x_iload dX3_readNumber_99 rfl ?_
          refine x_iload_n dX3_readNumber_101 rfl ?_
          refine x_icmp_le (tgt := 111) dX3_readNumber_102 (by decide) (by omega) (fun h102 => ?_) (fun h102 => ?_)
          · refine x_iload dX3_readNumber_111 rfl ?_
            exact x_iret dX3_readNumber_113  (hP m1 v (hc1.wk (by decide)) (by rw [pnX_3 hX (by rw [← haS]; exact hyd (by omega)) (by rw [hpv]; omega)]; exact hS.to (X' := pat (dgs q N (skp q N X.2.2.1) 0).1 X) hc1 (by decide) (by decide) (by decide) (by decide) rfl (fun _ => rfl) h3 hi9 (fun _ => by show i = (dgs q N (skp q N X.2.2.1) 0).1; rw [← haS, hdg])) (fun _ => by rw [hpv]; omega) (by omega))
          · refine x_aload_n dX3_readNumber_105 rfl ?_
            refine x_iconst dX3_readNumber_106 ?_
            refine x_iload_n dX3_readNumber_107 rfl ?_
            refine x_V2 mX3_80 dX3_readNumber_108 rfl (s_note (k := 2) (p := a) (by omega) hSa (fun m2 hc2 hS2 => ?_))
            refine x_iload dX3_readNumber_111 rfl ?_
            exact x_iret dX3_readNumber_113  (hP m2 v (hc1.tr hc2 (by decide) (by decide)) (by rw [pnX_2 hX (by rw [← haS]; exact hyd (by omega)) (by rw [hpv]; omega), ← haS]; exact (lC_k (X := pat i X) hX hS2).mk0) (fun zz => by rw [pnX_2 hX (by rw [← haS]; exact hyd (by omega)) (by rw [hpv]; omega)] at zz; exact absurd zz (by show (2 : Nat) ≠ 0; omega)) (by omega))
      · refine x_aload_n dX3_readNumber_84 rfl ?_
        refine x_iconst dX3_readNumber_85 ?_
        refine x_iload_n dX3_readNumber_86 rfl ?_
        refine x_V2 mX3_80 dX3_readNumber_87 rfl (s_note (k := 1) (p := a) (by omega) hSa (fun m2 hc2 hS2 => ?_))
        refine x_goto (tgt := 111) dX3_readNumber_90 (by decide) ?_
        refine x_iload dX3_readNumber_111 rfl ?_
        exact x_iret dX3_readNumber_113  (hP m2 v (hc1.tr hc2 (by decide) (by decide)) (by rw [pnX_1 hX (by rw [← haS]; exact hnd (by omega)), ← haS]; exact (lC_k (X := pat i X) hX hS2).mk0) (fun zz => by rw [pnX_1 hX (by rw [← haS]; exact hnd (by omega))] at zz; exact absurd zz (by show (1 : Nat) ≠ 0; omega)) (by omega))
    · have hSa : lC q N X m1 := hSa.resolve_right hX
      refine x_aload_n dX3_readNumber_76 rfl ?_
      refine x_getI fX3_26 dX3_readNumber_77 rfl ?_
      refine x_top (h3) ?_
      refine x_iload_n dX3_readNumber_80 rfl ?_
      refine x_icmp_ne (tgt := 93) dX3_readNumber_81 (by decide) (by omega) (fun h81 => ?_) (fun h81 => ?_)
      · refine x_iload dX3_readNumber_93 rfl ?_
        refine x_iload_n dX3_readNumber_95 rfl ?_
        refine x_icmp_lt (tgt := 105) dX3_readNumber_96 (by decide) (by omega) (fun h96 => ?_) (fun h96 => ?_)
        · refine x_aload_n dX3_readNumber_105 rfl ?_
          refine x_iconst dX3_readNumber_106 ?_
          refine x_iload_n dX3_readNumber_107 rfl ?_
          refine x_V2 mX3_80 dX3_readNumber_108 rfl (s_note (k := 2) (p := a) (by omega) hSa (fun m2 hc2 hS2 => ?_))
          refine x_iload dX3_readNumber_111 rfl ?_
          exact x_iret dX3_readNumber_113  (hP m2 v (hc1.tr hc2 (by decide) (by decide)) (by rw [pnX_n hX]; unfold pfl at hS2; rw [if_neg hX] at hS2; exact hS2) (fun zz => absurd (by rw [pnX_n hX] at zz; exact zz) hX) (by omega))
        · refine x_iload dX3_readNumber_99 rfl ?_
          refine x_iload_n dX3_readNumber_101 rfl ?_
          refine x_icmp_le (tgt := 111) dX3_readNumber_102 (by decide) (by omega) (fun h102 => ?_) (fun h102 => ?_)
          · refine x_iload dX3_readNumber_111 rfl ?_
            exact x_iret dX3_readNumber_113  (hP m1 v (hc1.wk (by decide)) (by rw [pnX_n hX]; exact hSa) (fun zz => absurd (by rw [pnX_n hX] at zz; exact zz) hX) (by omega))
          · refine x_aload_n dX3_readNumber_105 rfl ?_
            refine x_iconst dX3_readNumber_106 ?_
            refine x_iload_n dX3_readNumber_107 rfl ?_
            refine x_V2 mX3_80 dX3_readNumber_108 rfl (s_note (k := 2) (p := a) (by omega) hSa (fun m2 hc2 hS2 => ?_))
            refine x_iload dX3_readNumber_111 rfl ?_
            exact x_iret dX3_readNumber_113  (hP m2 v (hc1.tr hc2 (by decide) (by decide)) (by rw [pnX_n hX]; unfold pfl at hS2; rw [if_neg hX] at hS2; exact hS2) (fun zz => absurd (by rw [pnX_n hX] at zz; exact zz) hX) (by omega))
      · refine x_aload_n dX3_readNumber_84 rfl ?_
        refine x_iconst dX3_readNumber_85 ?_
        refine x_iload_n dX3_readNumber_86 rfl ?_
        refine x_V2 mX3_80 dX3_readNumber_87 rfl (s_note (k := 1) (p := a) (by omega) hSa (fun m2 hc2 hS2 => ?_))
        refine x_goto (tgt := 111) dX3_readNumber_90 (by decide) ?_
        refine x_iload dX3_readNumber_111 rfl ?_
        exact x_iret dX3_readNumber_113  (hP m2 v (hc1.tr hc2 (by decide) (by decide)) (by rw [pnX_n hX]; unfold pfl at hS2; rw [if_neg hX] at hS2; exact hS2) (fun zz => absurd (by rw [pnX_n hX] at zz; exact zz) hX) (by omega))
  have loop : ∀ (a : Nat), (X.1 = 0 → a = skp q N X.2.2.1) → ∀ (j i : Nat) (acc v : Int) (m1 : xM), N < i + j → i ≤ N → a ≤ i → cg 80 [3] m m1 → m1 80 3 = (i : Int) → v = min acc 1000000 → 0 ≤ acc → dgs q N a 0 = dgs q N i acc → xX E (("readNumber", some .int, []), (1, 0, 0), P, PX) RX3 cX3_readNumber 5 0 0 12 [(0, vr E 80), (1, vi lo), (2, vi hi), (3, vi (a : Int)), (4, vi v)] [] (gS f D n) m1 := by
    intro a has j
    induction j with
    | zero => intro i acc v m1 h1 h2; omega
    | succ j ih =>
      intro i acc v m1 h1 hi9 hai hc1 h3 hv hv0 hdg
      refine x_aload_n dX3_readNumber_12 rfl ?_
      refine x_getI fX3_26 dX3_readNumber_13 rfl ?_
      refine x_top (h3) ?_
      refine x_aload_n dX3_readNumber_16 rfl ?_
      refine x_getI fX3_36 dX3_readNumber_17 rfl ?_
      refine x_top ((hc1.2 4 (by decide)).trans he) ?_
      refine x_icmp_ge (tgt := 76) dX3_readNumber_20 (by decide) (by omega) (fun h20 => ?_) (fun h20 => ?_)
      · exact hfin a i acc v m1 hc1 h3 hi9 ⟨has, hai⟩ hv hv0 (by rw [hdg]; exact dgs_e (by omega))
      · have hbi := hb i (by omega)
        refine x_aload_n dX3_readNumber_23 rfl ?_
        refine x_getR (r := 79) fX3_22 dX3_readNumber_24 rfl rfl ?_
        refine x_aload_n dX3_readNumber_27 rfl ?_
        refine x_getI fX3_26 dX3_readNumber_28 rfl ?_
        refine x_top (h3) ?_
        refine x_bald (j := i) dX3_readNumber_31 rfl (by omega) (show _ < 600 by omega) (by omega) ?_
        refine x_top (show m1 79 i = q i by rw [hc1.1 79 (by decide)]; exact hbi.1) ?_
        refine x_S1 mX3_190 dX3_readNumber_32 (s_isDigit hbi.2 ?_)
        refine x_if_eq (tgt := 76) dX3_readNumber_35 (by decide) (zi_r _) (fun h35 => ?_) (fun h35 => ?_)
        · exact hfin a i acc v m1 hc1 h3 hi9 ⟨has, hai⟩ hv hv0 (by rw [hdg]; exact dgs_e (by exact fun zz => zi_0.mp h35 zz.2))
        · have hdi : isd (q i) := zi_1.mp h35
          refine x_iload dX3_readNumber_38 rfl ?_
          refine x_bipush dX3_readNumber_40 (h := ?_)
          refine x_imul dX3_readNumber_42 ?_
          refine x_aload_n dX3_readNumber_43 rfl ?_
          refine x_getR (r := 79) fX3_22 dX3_readNumber_44 rfl rfl ?_
          refine x_aload_n dX3_readNumber_47 rfl ?_
          refine x_getI fX3_26 dX3_readNumber_48 rfl ?_
          refine x_top (h3) ?_
          refine x_bald (j := i) dX3_readNumber_51 rfl (by omega) (show _ < 600 by omega) (by omega) ?_
          refine x_top (show m1 79 i = q i by rw [hc1.1 79 (by decide)]; exact hbi.1) ?_
          refine x_iadd dX3_readNumber_52 ?_
          refine x_bipush dX3_readNumber_53 (h := ?_)
          refine x_isub dX3_readNumber_55 ?_
          refine x_ldc kX3_193 dX3_readNumber_56 ?_
          refine x_S2 mX3_30 dX3_readNumber_58 (s_min (by omega) ?_)
          refine x_istore dX3_readNumber_61 ?_
          refine x_aload_n dX3_readNumber_63 rfl ?_
          refine x_dup dX3_readNumber_64 vr_cat ?_
          refine x_getI fX3_26 dX3_readNumber_65 rfl ?_
          refine x_top (h3) ?_
          refine x_iconst dX3_readNumber_68 ?_
          refine x_iadd dX3_readNumber_69 ?_
          refine x_putI fX3_26 dX3_readNumber_70 rfl (by decide) rfl rfl ?_
          refine x_goto (tgt := 12) dX3_readNumber_73 (by decide) ?_
          exact x_loc (lv' := [(0, vr E 80), (1, vi lo), (2, vi hi), (3, vi (a : Int)), (4, vi (min (acc * 10 + q i - 48) 1000000))]) ⟨rfl, rfl, rfl, rfl, xl_i rfl (cap_s hv hv0 (by omega) hdi), trivial⟩ (ih (i + 1) (acc * 10 + q i - 48) _ _ (by omega) (by omega) (by omega) (hc1.u (by decide)) (by rw [xu_s]; omega) rfl (by have := hdi.1; omega) (by rw [hdg]; exact dgs_s (by omega) hdi))
  refine x_aload_n dX3_readNumber_0 rfl ?_
  refine x_V0 mX3_93 dX3_readNumber_1 rfl (s_skipBlanks hS (fun m1 hc1 hS1 => ?_))
  obtain ⟨⟨a1, ha1, haN1, hah1⟩, he1, hf1, hp1, h41, hN1, hb1⟩ := id hS1
  rw [pskip_1] at hf1 hah1 h41
  refine x_aload_n dX3_readNumber_4 rfl ?_
  refine x_getI fX3_26 dX3_readNumber_5 rfl ?_
  refine x_top (ha1) ?_
  refine x_istore_n dX3_readNumber_8 ?_
  refine x_iconst dX3_readNumber_9 ?_
  refine x_istore dX3_readNumber_10 ?_
  exact x_loc (lv' := [(0, vr E 80), (1, vi lo), (2, vi hi), (3, vi (a1 : Int)), (4, vi 0)]) ⟨rfl, rfl, rfl, rfl, rfl, trivial⟩ (loop a1 (fun z => (hah1 z).trans (by rw [pskip_0 z]; rfl)) (N + 1) a1 0 0 m1 (by omega) haN1 (Nat.le_refl _) hc1 ha1 (by omega) (by omega) rfl)
set_option maxRecDepth 20000 in
theorem s_putItem {E : xE} {f : Nat → Nat} {D : Nat → Nat × Nat} {n : Nat} {m : xM} {P : xPo} {PX : xPx} {z : Int} {k : Nat} (hk : m 80 2 = (k : Int)) (hk6 : k ≤ 600) (hP : ∀ m', (k < 600 ∧ m' = xu (xu m 81 k z) 80 2 ((k + 1 : Nat) : Int)) ∨ (k = 600 ∧ m' = m) → P none (gS f D n) m') : xC E (yX3_putItem, cX3_putItem, 2, none) 0 0 0 [vr E 80, vi z] (gS f D n) m P PX := by
  refine x_enter (by decide) rfl rfl (Nat.le_of_ble_eq_true rfl) ?_
  refine x_aload_n dX3_putItem_0 rfl ?_
  refine x_getI fX3_42 dX3_putItem_1 rfl ?_
  refine x_top (hk) ?_
  refine x_aload_n dX3_putItem_4 rfl ?_
  refine x_getR (r := 81) fX3_9 dX3_putItem_5 rfl rfl ?_
  refine x_alen (t := 8) (N := 600) dX3_putItem_8 rfl (by decide) rfl ?_
  refine x_icmp_ge (tgt := 32) dX3_putItem_9 (by decide) (by omega) (fun h9 => ?_) (fun h9 => ?_)
  · exact x_vret dX3_putItem_32 (hP _ (Or.inr ⟨by omega, rfl⟩))
  · refine x_aload_n dX3_putItem_12 rfl ?_
    refine x_getR (r := 81) fX3_9 dX3_putItem_13 rfl rfl ?_
    refine x_aload_n dX3_putItem_16 rfl ?_
    refine x_getI fX3_42 dX3_putItem_17 rfl ?_
    refine x_top (hk) ?_
    refine x_iload_n dX3_putItem_20 rfl ?_
    refine x_iast (j := k) dX3_putItem_21 rfl (by decide) (by omega) (show _ < 600 by omega) (by omega) ?_
    refine x_aload_n dX3_putItem_22 rfl ?_
    refine x_dup dX3_putItem_23 vr_cat ?_
    refine x_getI fX3_42 dX3_putItem_24 rfl ?_
    refine x_top (show _ = (k : Int) by rw [xu_ne (by decide)]; exact hk) ?_
    refine x_iconst dX3_putItem_27 ?_
    refine x_iadd dX3_putItem_28 ?_
    refine x_top (show (k : Int) + 1 = ((k + 1 : Nat) : Int) by omega) ?_
    refine x_putI fX3_42 dX3_putItem_29 rfl (by decide) rfl rfl ?_
    exact x_vret dX3_putItem_32 (hP _ (Or.inl ⟨by omega, rfl⟩))

end LG
