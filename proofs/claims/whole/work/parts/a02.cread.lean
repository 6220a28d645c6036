section CRD
/-- what the static rows hold -/
def eL (E : xE) : Prop := eOk E ∧ ((E.2.2.2.2.2 3).1 = 6 ∧ ∀ j, j < 6 → (E.2.2.2.2.2 3).2 j = ([0, 400, 60, 2000, 0, 2000] : List Int).getD j 0) ∧ ((E.2.2.2.2.2 4).1 = 10 ∧ ∀ j, j < 10 → (E.2.2.2.2.2 4).2 j = ([0, 200, 100, 3000, 1, 20, 0, 300, 50, 150] : List Int).getD j 0) ∧ ((E.2.2.2.2.2 5).1 = 8 ∧ ∀ j, j < 8 → (E.2.2.2.2.2 5).2 j = ([100, 2500, 40, 95, 0, 300, 4, 25] : List Int).getD j 0)
theorem sl_131 : Cond.fieldLink RX3 131 RX3 "WAVE_LIMITS" "[I" ∈ xTb := xTb_of 689 (by decide +kernel) (by decide +kernel)
theorem sl_144 : Cond.fieldLink RX3 144 RX3 "BAR_LIMITS" "[I" ∈ xTb := xTb_of 700 (by decide +kernel) (by decide +kernel)
theorem sl_155 : Cond.fieldLink RX3 155 RX3 "SHIP_LIMITS" "[I" ∈ xTb := xTb_of 708 (by decide +kernel) (by decide +kernel)
theorem sl_25 : Cond.fieldLink RX0 25 RX0 "NO_FORMULA" "[I" ∈ xTb := xTb_of 133 (by decide +kernel) (by decide +kernel)
set_option maxRecDepth 20000 in
theorem s_rnW {E : xE} {f : Nat → Nat} {D : Nat → Nat × Nat} {n : Nat} {m : xM} {P : xPo} {PX : xPx} {q : Nat → Int} {N : Nat} {X : pX} {a b c : Nat} {w : Nat} (hL : eL E) (hw : w ≤ 5) (hb : b ≤ 36) (hc : c ≤ 48) (hR : RC q N X (3 * w) b c m) (hP : ∀ m', ag [80, 83] m m' → RC q N (pns q N (6 + 3 * w) [(0, 400), (60, 2000), (0, 2000)] X) (3 * w + 3) b c m' → P none (gS f D n) m') : xC E (yX3_readNumbers, cX3_readNumbers, 5, none) 2 0 0 [vr E 80, vr E 83, vi ((3 * w : Nat) : Int), vr E 3] (gS f D n) m P PX := by
  refine x_enter (by decide) rfl rfl (Nat.le_of_ble_eq_true rfl) ?_
  refine x_iconst dX3_readNumbers_0 ?_
  refine x_istore dX3_readNumbers_1 ?_
  refine x_loc (lv' := [(0, vr E 80), (1, vr E 83), (2, vi ((3 * w : Nat) : Int)), (3, vr E 3), (4, vi 0)]) ⟨rfl, rfl, rfl, rfl, rfl, trivial⟩ ?_
  refine x_iconst dX3_readNumbers_3 ?_
  refine x_iload dX3_readNumbers_4 rfl ?_
  refine x_imul dX3_readNumbers_6 ?_
  refine x_iconst dX3_readNumbers_7 ?_
  refine x_iadd dX3_readNumbers_8 ?_
  refine x_aload_n dX3_readNumbers_9 rfl ?_
  refine x_salen dX3_readNumbers_10 (by decide) (by decide) ?_
  refine x_top (show (((E.2.2.2.2.2 3).1 : Nat) : Int) = 6 by rw [hL.2.1.1]; rfl) ?_
  refine x_icmp_ge (tgt := 53) dX3_readNumbers_11 (by decide) (by omega) (fun h11 => absurd h11 (by omega)) (fun h11 => ?_)
  refine x_iload_n dX3_readNumbers_14 rfl ?_
  refine x_iload dX3_readNumbers_15 rfl ?_
  refine x_iadd dX3_readNumbers_17 ?_
  refine x_aload_n dX3_readNumbers_18 rfl ?_
  refine x_alen (t := 8) (N := 18) dX3_readNumbers_19 rfl (by decide) rfl ?_
  refine x_icmp_ge (tgt := 53) dX3_readNumbers_20 (by decide) (by omega) (fun h20 => absurd h20 (by omega)) (fun h20 => ?_)
  refine x_aload_n dX3_readNumbers_23 rfl ?_
  refine x_iload_n dX3_readNumbers_24 rfl ?_
  refine x_iload dX3_readNumbers_25 rfl ?_
  refine x_iadd dX3_readNumbers_27 ?_
  refine x_aload_n dX3_readNumbers_28 rfl ?_
  refine x_aload_n dX3_readNumbers_29 rfl ?_
  refine x_iconst dX3_readNumbers_30 ?_
  refine x_iload dX3_readNumbers_31 rfl ?_
  refine x_imul dX3_readNumbers_33 ?_
  refine x_siald (j := 0) dX3_readNumbers_34 (by decide) (by decide) (by omega) (by rw [hL.2.1.1]; omega) (by omega) ?_
  refine x_top ((hL.2.1.2 0 (by omega)).trans (show _ = (0 : Int) from rfl)) ?_
  refine x_aload_n dX3_readNumbers_35 rfl ?_
  refine x_iconst dX3_readNumbers_36 ?_
  refine x_iload dX3_readNumbers_37 rfl ?_
  refine x_imul dX3_readNumbers_39 ?_
  refine x_iconst dX3_readNumbers_40 ?_
  refine x_iadd dX3_readNumbers_41 ?_
  refine x_siald (j := 1) dX3_readNumbers_42 (by decide) (by decide) (by omega) (by rw [hL.2.1.1]; omega) (by omega) ?_
  refine x_top ((hL.2.1.2 1 (by omega)).trans (show _ = (400 : Int) from rfl)) ?_
  refine x_V2 mX3_84 dX3_readNumbers_43 rfl (s_readNumber (by omega) (by omega) hR.1 (fun m1 v1 hc1 hS1 hv1 hb1 => ?_))
  refine x_iast (j := (3 * w)) dX3_readNumbers_46 rfl (by decide) (by omega) (show _ < 18 by omega) (by omega) ?_
  have hR1 : RC q N (pnum q N (6 + (3 * w)) 0 400 (X)) (3 * w + 1) b c (xu m1 83 (3 * w) v1) := (hR.leaf hS1 hc1 pnX_r pnX_0).r83 (by omega) (by omega) (by omega) (by omega) (fun z => hv1 z)
  have hg1 : ag [80, 83] m (xu m1 83 (3 * w) v1) := (hc1.1.wk (by decide)).u (by decide)
  refine x_iinc dX3_readNumbers_47 rfl ?_
  refine x_goto (tgt := 3) dX3_readNumbers_50 (by decide) ?_
  refine x_loc (lv' := [(0, vr E 80), (1, vr E 83), (2, vi ((3 * w : Nat) : Int)), (3, vr E 3), (4, vi 1)]) ⟨rfl, rfl, rfl, rfl, rfl, trivial⟩ ?_
  refine x_iconst dX3_readNumbers_3 ?_
  refine x_iload dX3_readNumbers_4 rfl ?_
  refine x_imul dX3_readNumbers_6 ?_
  refine x_iconst dX3_readNumbers_7 ?_
  refine x_iadd dX3_readNumbers_8 ?_
  refine x_aload_n dX3_readNumbers_9 rfl ?_
  refine x_salen dX3_readNumbers_10 (by decide) (by decide) ?_
  refine x_top (show (((E.2.2.2.2.2 3).1 : Nat) : Int) = 6 by rw [hL.2.1.1]; rfl) ?_
  refine x_icmp_ge (tgt := 53) dX3_readNumbers_11 (by decide) (by omega) (fun h11 => absurd h11 (by omega)) (fun h11 => ?_)
  refine x_iload_n dX3_readNumbers_14 rfl ?_
  refine x_iload dX3_readNumbers_15 rfl ?_
  refine x_iadd dX3_readNumbers_17 ?_
  refine x_aload_n dX3_readNumbers_18 rfl ?_
  refine x_alen (t := 8) (N := 18) dX3_readNumbers_19 rfl (by decide) rfl ?_
  refine x_icmp_ge (tgt := 53) dX3_readNumbers_20 (by decide) (by omega) (fun h20 => absurd h20 (by omega)) (fun h20 => ?_)
  refine x_aload_n dX3_readNumbers_23 rfl ?_
  refine x_iload_n dX3_readNumbers_24 rfl ?_
  refine x_iload dX3_readNumbers_25 rfl ?_
  refine x_iadd dX3_readNumbers_27 ?_
  refine x_aload_n dX3_readNumbers_28 rfl ?_
  refine x_aload_n dX3_readNumbers_29 rfl ?_
  refine x_iconst dX3_readNumbers_30 ?_
  refine x_iload dX3_readNumbers_31 rfl ?_
  refine x_imul dX3_readNumbers_33 ?_
  refine x_siald (j := 2) dX3_readNumbers_34 (by decide) (by decide) (by omega) (by rw [hL.2.1.1]; omega) (by omega) ?_
  refine x_top ((hL.2.1.2 2 (by omega)).trans (show _ = (60 : Int) from rfl)) ?_
  refine x_aload_n dX3_readNumbers_35 rfl ?_
  refine x_iconst dX3_readNumbers_36 ?_
  refine x_iload dX3_readNumbers_37 rfl ?_
  refine x_imul dX3_readNumbers_39 ?_
  refine x_iconst dX3_readNumbers_40 ?_
  refine x_iadd dX3_readNumbers_41 ?_
  refine x_siald (j := 3) dX3_readNumbers_42 (by decide) (by decide) (by omega) (by rw [hL.2.1.1]; omega) (by omega) ?_
  refine x_top ((hL.2.1.2 3 (by omega)).trans (show _ = (2000 : Int) from rfl)) ?_
  refine x_V2 mX3_84 dX3_readNumbers_43 rfl (s_readNumber (by omega) (by omega) hR1.1 (fun m2 v2 hc2 hS2 hv2 hb2 => ?_))
  refine x_iast (j := (3 * w + 1)) dX3_readNumbers_46 rfl (by decide) (by omega) (show _ < 18 by omega) (by omega) ?_
  have hR2 : RC q N (pnum q N (6 + (3 * w + 1)) 60 2000 (pnum q N (6 + (3 * w)) 0 400 (X))) (3 * w + 2) b c (xu m2 83 (3 * w + 1) v2) := (hR1.leaf hS2 hc2 pnX_r pnX_0).r83 (by omega) (by omega) (by omega) (by omega) (fun z => hv2 z)
  have hg2 : ag [80, 83] m (xu m2 83 (3 * w + 1) v2) := (hg1.tr1 (hc2.1.wk (by decide))).u (by decide)
  refine x_iinc dX3_readNumbers_47 rfl ?_
  refine x_goto (tgt := 3) dX3_readNumbers_50 (by decide) ?_
  refine x_loc (lv' := [(0, vr E 80), (1, vr E 83), (2, vi ((3 * w : Nat) : Int)), (3, vr E 3), (4, vi 2)]) ⟨rfl, rfl, rfl, rfl, rfl, trivial⟩ ?_
  refine x_iconst dX3_readNumbers_3 ?_
  refine x_iload dX3_readNumbers_4 rfl ?_
  refine x_imul dX3_readNumbers_6 ?_
  refine x_iconst dX3_readNumbers_7 ?_
  refine x_iadd dX3_readNumbers_8 ?_
  refine x_aload_n dX3_readNumbers_9 rfl ?_
  refine x_salen dX3_readNumbers_10 (by decide) (by decide) ?_
  refine x_top (show (((E.2.2.2.2.2 3).1 : Nat) : Int) = 6 by rw [hL.2.1.1]; rfl) ?_
  refine x_icmp_ge (tgt := 53) dX3_readNumbers_11 (by decide) (by omega) (fun h11 => absurd h11 (by omega)) (fun h11 => ?_)
  refine x_iload_n dX3_readNumbers_14 rfl ?_
  refine x_iload dX3_readNumbers_15 rfl ?_
  refine x_iadd dX3_readNumbers_17 ?_
  refine x_aload_n dX3_readNumbers_18 rfl ?_
  refine x_alen (t := 8) (N := 18) dX3_readNumbers_19 rfl (by decide) rfl ?_
  refine x_icmp_ge (tgt := 53) dX3_readNumbers_20 (by decide) (by omega) (fun h20 => absurd h20 (by omega)) (fun h20 => ?_)
  refine x_aload_n dX3_readNumbers_23 rfl ?_
  refine x_iload_n dX3_readNumbers_24 rfl ?_
  refine x_iload dX3_readNumbers_25 rfl ?_
  refine x_iadd dX3_readNumbers_27 ?_
  refine x_aload_n dX3_readNumbers_28 rfl ?_
  refine x_aload_n dX3_readNumbers_29 rfl ?_
  refine x_iconst dX3_readNumbers_30 ?_
  refine x_iload dX3_readNumbers_31 rfl ?_
  refine x_imul dX3_readNumbers_33 ?_
  refine x_siald (j := 4) dX3_readNumbers_34 (by decide) (by decide) (by omega) (by rw [hL.2.1.1]; omega) (by omega) ?_
  refine x_top ((hL.2.1.2 4 (by omega)).trans (show _ = (0 : Int) from rfl)) ?_
  refine x_aload_n dX3_readNumbers_35 rfl ?_
  refine x_iconst dX3_readNumbers_36 ?_
  refine x_iload dX3_readNumbers_37 rfl ?_
  refine x_imul dX3_readNumbers_39 ?_
  refine x_iconst dX3_readNumbers_40 ?_
  refine x_iadd dX3_readNumbers_41 ?_
  refine x_siald (j := 5) dX3_readNumbers_42 (by decide) (by decide) (by omega) (by rw [hL.2.1.1]; omega) (by omega) ?_
  refine x_top ((hL.2.1.2 5 (by omega)).trans (show _ = (2000 : Int) from rfl)) ?_
  refine x_V2 mX3_84 dX3_readNumbers_43 rfl (s_readNumber (by omega) (by omega) hR2.1 (fun m3 v3 hc3 hS3 hv3 hb3 => ?_))
  refine x_iast (j := (3 * w + 2)) dX3_readNumbers_46 rfl (by decide) (by omega) (show _ < 18 by omega) (by omega) ?_
  have hR3 : RC q N (pnum q N (6 + (3 * w + 2)) 0 2000 (pnum q N (6 + (3 * w + 1)) 60 2000 (pnum q N (6 + (3 * w)) 0 400 (X)))) (3 * w + 3) b c (xu m3 83 (3 * w + 2) v3) := (hR2.leaf hS3 hc3 pnX_r pnX_0).r83 (by omega) (by omega) (by omega) (by omega) (fun z => hv3 z)
  have hg3 : ag [80, 83] m (xu m3 83 (3 * w + 2) v3) := (hg2.tr1 (hc3.1.wk (by decide))).u (by decide)
  refine x_iinc dX3_readNumbers_47 rfl ?_
  refine x_goto (tgt := 3) dX3_readNumbers_50 (by decide) ?_
  refine x_loc (lv' := [(0, vr E 80), (1, vr E 83), (2, vi ((3 * w : Nat) : Int)), (3, vr E 3), (4, vi 3)]) ⟨rfl, rfl, rfl, rfl, rfl, trivial⟩ ?_
  refine x_iconst dX3_readNumbers_3 ?_
  refine x_iload dX3_readNumbers_4 rfl ?_
  refine x_imul dX3_readNumbers_6 ?_
  refine x_iconst dX3_readNumbers_7 ?_
  refine x_iadd dX3_readNumbers_8 ?_
  refine x_aload_n dX3_readNumbers_9 rfl ?_
  refine x_salen dX3_readNumbers_10 (by decide) (by decide) ?_
  refine x_top (show (((E.2.2.2.2.2 3).1 : Nat) : Int) = 6 by rw [hL.2.1.1]; rfl) ?_
  refine x_icmp_ge (tgt := 53) dX3_readNumbers_11 (by decide) (by omega) (fun h11 => ?_) (fun h11 => absurd (by omega) h11)
  exact x_vret dX3_readNumbers_53 (hP _ hg3 (show RC q N (pns q N (6 + 3 * w) [(0, 400), (60, 2000), (0, 2000)] X) (3 * w + 3) b c _ from hR3))

set_option maxRecDepth 20000 in
theorem s_rnB {E : xE} {f : Nat → Nat} {D : Nat → Nat × Nat} {n : Nat} {m : xM} {P : xPo} {PX : xPx} {q : Nat → Int} {N : Nat} {X : pX} {a b c : Nat} {w : Nat} (hL : eL E) (hw : w ≤ 5) (ha : a ≤ 18) (hc : c ≤ 48) (hR : RC q N X a (6 * w) c m) (hP : ∀ m', ag [80, 84] m m' → RC q N (pns q N (24 + 6 * w) [(0, 200), (100, 3000), (1, 20), (0, 300), (50, 150)] X) a (6 * w + 5) c m' → P none (gS f D n) m') : xC E (yX3_readNumbers, cX3_readNumbers, 5, none) 2 0 0 [vr E 80, vr E 84, vi ((6 * w : Nat) : Int), vr E 4] (gS f D n) m P PX := by
  refine x_enter (by decide) rfl rfl (Nat.le_of_ble_eq_true rfl) ?_
  refine x_iconst dX3_readNumbers_0 ?_
  refine x_istore dX3_readNumbers_1 ?_
  refine x_loc (lv' := [(0, vr E 80), (1, vr E 84), (2, vi ((6 * w : Nat) : Int)), (3, vr E 4), (4, vi 0)]) ⟨rfl, rfl, rfl, rfl, rfl, trivial⟩ ?_
  refine x_iconst dX3_readNumbers_3 ?_
  refine x_iload dX3_readNumbers_4 rfl ?_
  refine x_imul dX3_readNumbers_6 ?_
  refine x_iconst dX3_readNumbers_7 ?_
  refine x_iadd dX3_readNumbers_8 ?_
  refine x_aload_n dX3_readNumbers_9 rfl ?_
  refine x_salen dX3_readNumbers_10 (by decide) (by decide) ?_
  refine x_top (show (((E.2.2.2.2.2 4).1 : Nat) : Int) = 10 by rw [hL.2.2.1.1]; rfl) ?_
  refine x_icmp_ge (tgt := 53) dX3_readNumbers_11 (by decide) (by omega) (fun h11 => absurd h11 (by omega)) (fun h11 => ?_)
  refine x_iload_n dX3_readNumbers_14 rfl ?_
  refine x_iload dX3_readNumbers_15 rfl ?_
  refine x_iadd dX3_readNumbers_17 ?_
  refine x_aload_n dX3_readNumbers_18 rfl ?_
  refine x_alen (t := 8) (N := 36) dX3_readNumbers_19 rfl (by decide) rfl ?_
  refine x_icmp_ge (tgt := 53) dX3_readNumbers_20 (by decide) (by omega) (fun h20 => absurd h20 (by omega)) (fun h20 => ?_)
  refine x_aload_n dX3_readNumbers_23 rfl ?_
  refine x_iload_n dX3_readNumbers_24 rfl ?_
  refine x_iload dX3_readNumbers_25 rfl ?_
  refine x_iadd dX3_readNumbers_27 ?_
  refine x_aload_n dX3_readNumbers_28 rfl ?_
  refine x_aload_n dX3_readNumbers_29 rfl ?_
  refine x_iconst dX3_readNumbers_30 ?_
  refine x_iload dX3_readNumbers_31 rfl ?_
  refine x_imul dX3_readNumbers_33 ?_
  refine x_siald (j := 0) dX3_readNumbers_34 (by decide) (by decide) (by omega) (by rw [hL.2.2.1.1]; omega) (by omega) ?_
  refine x_top ((hL.2.2.1.2 0 (by omega)).trans (show _ = (0 : Int) from rfl)) ?_
  refine x_aload_n dX3_readNumbers_35 rfl ?_
  refine x_iconst dX3_readNumbers_36 ?_
  refine x_iload dX3_readNumbers_37 rfl ?_
  refine x_imul dX3_readNumbers_39 ?_
  refine x_iconst dX3_readNumbers_40 ?_
  refine x_iadd dX3_readNumbers_41 ?_
  refine x_siald (j := 1) dX3_readNumbers_42 (by decide) (by decide) (by omega) (by rw [hL.2.2.1.1]; omega) (by omega) ?_
  refine x_top ((hL.2.2.1.2 1 (by omega)).trans (show _ = (200 : Int) from rfl)) ?_
  refine x_V2 mX3_84 dX3_readNumbers_43 rfl (s_readNumber (by omega) (by omega) hR.1 (fun m1 v1 hc1 hS1 hv1 hb1 => ?_))
  refine x_iast (j := (6 * w)) dX3_readNumbers_46 rfl (by decide) (by omega) (show _ < 36 by omega) (by omega) ?_
  have hR1 : RC q N (pnum q N (24 + (6 * w)) 0 200 (X)) a (6 * w + 1) c (xu m1 84 (6 * w) v1) := (hR.leaf hS1 hc1 pnX_r pnX_0).r84 (by omega) (by omega) (by omega) (by omega) (fun z => hv1 z)
  have hg1 : ag [80, 84] m (xu m1 84 (6 * w) v1) := (hc1.1.wk (by decide)).u (by decide)
  refine x_iinc dX3_readNumbers_47 rfl ?_
  refine x_goto (tgt := 3) dX3_readNumbers_50 (by decide) ?_
  refine x_loc (lv' := [(0, vr E 80), (1, vr E 84), (2, vi ((6 * w : Nat) : Int)), (3, vr E 4), (4, vi 1)]) ⟨rfl, rfl, rfl, rfl, rfl, trivial⟩ ?_
  refine x_iconst dX3_readNumbers_3 ?_
  refine x_iload dX3_readNumbers_4 rfl ?_
  refine x_imul dX3_readNumbers_6 ?_
  refine x_iconst dX3_readNumbers_7 ?_
  refine x_iadd dX3_readNumbers_8 ?_
  refine x_aload_n dX3_readNumbers_9 rfl ?_
  refine x_salen dX3_readNumbers_10 (by decide) (by decide) ?_
  refine x_top (show (((E.2.2.2.2.2 4).1 : Nat) : Int) = 10 by rw [hL.2.2.1.1]; rfl) ?_
  refine x_icmp_ge (tgt := 53) dX3_readNumbers_11 (by decide) (by omega) (fun h11 => absurd h11 (by omega)) (fun h11 => ?_)
  refine x_iload_n dX3_readNumbers_14 rfl ?_
  refine x_iload dX3_readNumbers_15 rfl ?_
  refine x_iadd dX3_readNumbers_17 ?_
  refine x_aload_n dX3_readNumbers_18 rfl ?_
  refine x_alen (t := 8) (N := 36) dX3_readNumbers_19 rfl (by decide) rfl ?_
  refine x_icmp_ge (tgt := 53) dX3_readNumbers_20 (by decide) (by omega) (fun h20 => absurd h20 (by omega)) (fun h20 => ?_)
  refine x_aload_n dX3_readNumbers_23 rfl ?_
  refine x_iload_n dX3_readNumbers_24 rfl ?_
  refine x_iload dX3_readNumbers_25 rfl ?_
  refine x_iadd dX3_readNumbers_27 ?_
  refine x_aload_n dX3_readNumbers_28 rfl ?_
  refine x_aload_n dX3_readNumbers_29 rfl ?_
  refine x_iconst dX3_readNumbers_30 ?_
  refine x_iload dX3_readNumbers_31 rfl ?_
  refine x_imul dX3_readNumbers_33 ?_
  refine x_siald (j := 2) dX3_readNumbers_34 (by decide) (by decide) (by omega) (by rw [hL.2.2.1.1]; omega) (by omega) ?_
  refine x_top ((hL.2.2.1.2 2 (by omega)).trans (show _ = (100 : Int) from rfl)) ?_
  refine x_aload_n dX3_readNumbers_35 rfl ?_
  refine x_iconst dX3_readNumbers_36 ?_
  refine x_iload dX3_readNumbers_37 rfl ?_
  refine x_imul dX3_readNumbers_39 ?_
  refine x_iconst dX3_readNumbers_40 ?_
  refine x_iadd dX3_readNumbers_41 ?_
  refine x_siald (j := 3) dX3_readNumbers_42 (by decide) (by decide) (by omega) (by rw [hL.2.2.1.1]; omega) (by omega) ?_
  refine x_top ((hL.2.2.1.2 3 (by omega)).trans (show _ = (3000 : Int) from rfl)) ?_
  refine x_V2 mX3_84 dX3_readNumbers_43 rfl (s_readNumber (by omega) (by omega) hR1.1 (fun m2 v2 hc2 hS2 hv2 hb2 => ?_))
  refine x_iast (j := (6 * w + 1)) dX3_readNumbers_46 rfl (by decide) (by omega) (show _ < 36 by omega) (by omega) ?_
  have hR2 : RC q N (pnum q N (24 + (6 * w + 1)) 100 3000 (pnum q N (24 + (6 * w)) 0 200 (X))) a (6 * w + 2) c (xu m2 84 (6 * w + 1) v2) := (hR1.leaf hS2 hc2 pnX_r pnX_0).r84 (by omega) (by omega) (by omega) (by omega) (fun z => hv2 z)
  have hg2 : ag [80, 84] m (xu m2 84 (6 * w + 1) v2) := (hg1.tr1 (hc2.1.wk (by decide))).u (by decide)
  refine x_iinc dX3_readNumbers_47 rfl ?_
  refine x_goto (tgt := 3) dX3_readNumbers_50 (by decide) ?_
  refine x_loc (lv' := [(0, vr E 80), (1, vr E 84), (2, vi ((6 * w : Nat) : Int)), (3, vr E 4), (4, vi 2)]) ⟨rfl, rfl, rfl, rfl, rfl, trivial⟩ ?_
  refine x_iconst dX3_readNumbers_3 ?_
  refine x_iload dX3_readNumbers_4 rfl ?_
  refine x_imul dX3_readNumbers_6 ?_
  refine x_iconst dX3_readNumbers_7 ?_
  refine x_iadd dX3_readNumbers_8 ?_
  refine x_aload_n dX3_readNumbers_9 rfl ?_
  refine x_salen dX3_readNumbers_10 (by decide) (by decide) ?_
  refine x_top (show (((E.2.2.2.2.2 4).1 : Nat) : Int) = 10 by rw [hL.2.2.1.1]; rfl) ?_
  refine x_icmp_ge (tgt := 53) dX3_readNumbers_11 (by decide) (by omega) (fun h11 => absurd h11 (by omega)) (fun h11 => ?_)
  refine x_iload_n dX3_readNumbers_14 rfl ?_
  refine x_iload dX3_readNumbers_15 rfl ?_
  refine x_iadd dX3_readNumbers_17 ?_
  refine x_aload_n dX3_readNumbers_18 rfl ?_
  refine x_alen (t := 8) (N := 36) dX3_readNumbers_19 rfl (by decide) rfl ?_
  refine x_icmp_ge (tgt := 53) dX3_readNumbers_20 (by decide) (by omega) (fun h20 => absurd h20 (by omega)) (fun h20 => ?_)
  refine x_aload_n dX3_readNumbers_23 rfl ?_
  refine x_iload_n dX3_readNumbers_24 rfl ?_
  refine x_iload dX3_readNumbers_25 rfl ?_
  refine x_iadd dX3_readNumbers_27 ?_
  refine x_aload_n dX3_readNumbers_28 rfl ?_
  refine x_aload_n dX3_readNumbers_29 rfl ?_
  refine x_iconst dX3_readNumbers_30 ?_
  refine x_iload dX3_readNumbers_31 rfl ?_
  refine x_imul dX3_readNumbers_33 ?_
  refine x_siald (j := 4) dX3_readNumbers_34 (by decide) (by decide) (by omega) (by rw [hL.2.2.1.1]; omega) (by omega) ?_
  refine x_top ((hL.2.2.1.2 4 (by omega)).trans (show _ = (1 : Int) from rfl)) ?_
  refine x_aload_n dX3_readNumbers_35 rfl ?_
  refine x_iconst dX3_readNumbers_36 ?_
  refine x_iload dX3_readNumbers_37 rfl ?_
  refine x_imul dX3_readNumbers_39 ?_
  refine x_iconst dX3_readNumbers_40 ?_
  refine x_iadd dX3_readNumbers_41 ?_
  refine x_siald (j := 5) dX3_readNumbers_42 (by decide) (by decide) (by omega) (by rw [hL.2.2.1.1]; omega) (by omega) ?_
  refine x_top ((hL.2.2.1.2 5 (by omega)).trans (show _ = (20 : Int) from rfl)) ?_
  refine x_V2 mX3_84 dX3_readNumbers_43 rfl (s_readNumber (by omega) (by omega) hR2.1 (fun m3 v3 hc3 hS3 hv3 hb3 => ?_))
  refine x_iast (j := (6 * w + 2)) dX3_readNumbers_46 rfl (by decide) (by omega) (show _ < 36 by omega) (by omega) ?_
  have hR3 : RC q N (pnum q N (24 + (6 * w + 2)) 1 20 (pnum q N (24 + (6 * w + 1)) 100 3000 (pnum q N (24 + (6 * w)) 0 200 (X)))) a (6 * w + 3) c (xu m3 84 (6 * w + 2) v3) := (hR2.leaf hS3 hc3 pnX_r pnX_0).r84 (by omega) (by omega) (by omega) (by omega) (fun z => hv3 z)
  have hg3 : ag [80, 84] m (xu m3 84 (6 * w + 2) v3) := (hg2.tr1 (hc3.1.wk (by decide))).u (by decide)
  refine x_iinc dX3_readNumbers_47 rfl ?_
  refine x_goto (tgt := 3) dX3_readNumbers_50 (by decide) ?_
  refine x_loc (lv' := [(0, vr E 80), (1, vr E 84), (2, vi ((6 * w : Nat) : Int)), (3, vr E 4), (4, vi 3)]) ⟨rfl, rfl, rfl, rfl, rfl, trivial⟩ ?_
  refine x_iconst dX3_readNumbers_3 ?_
  refine x_iload dX3_readNumbers_4 rfl ?_
  refine x_imul dX3_readNumbers_6 ?_
  refine x_iconst dX3_readNumbers_7 ?_
  refine x_iadd dX3_readNumbers_8 ?_
  refine x_aload_n dX3_readNumbers_9 rfl ?_
  refine x_salen dX3_readNumbers_10 (by decide) (by decide) ?_
  refine x_top (show (((E.2.2.2.2.2 4).1 : Nat) : Int) = 10 by rw [hL.2.2.1.1]; rfl) ?_
  refine x_icmp_ge (tgt := 53) dX3_readNumbers_11 (by decide) (by omega) (fun h11 => absurd h11 (by omega)) (fun h11 => ?_)
  refine x_iload_n dX3_readNumbers_14 rfl ?_
  refine x_iload dX3_readNumbers_15 rfl ?_
  refine x_iadd dX3_readNumbers_17 ?_
  refine x_aload_n dX3_readNumbers_18 rfl ?_
  refine x_alen (t := 8) (N := 36) dX3_readNumbers_19 rfl (by decide) rfl ?_
  refine x_icmp_ge (tgt := 53) dX3_readNumbers_20 (by decide) (by omega) (fun h20 => absurd h20 (by omega)) (fun h20 => ?_)
  refine x_aload_n dX3_readNumbers_23 rfl ?_
  refine x_iload_n dX3_readNumbers_24 rfl ?_
  refine x_iload dX3_readNumbers_25 rfl ?_
  refine x_iadd dX3_readNumbers_27 ?_
  refine x_aload_n dX3_readNumbers_28 rfl ?_
  refine x_aload_n dX3_readNumbers_29 rfl ?_
  refine x_iconst dX3_readNumbers_30 ?_
  refine x_iload dX3_readNumbers_31 rfl ?_
  refine x_imul dX3_readNumbers_33 ?_
  refine x_siald (j := 6) dX3_readNumbers_34 (by decide) (by decide) (by omega) (by rw [hL.2.2.1.1]; omega) (by omega) ?_
  refine x_top ((hL.2.2.1.2 6 (by omega)).trans (show _ = (0 : Int) from rfl)) ?_
  refine x_aload_n dX3_readNumbers_35 rfl ?_
  refine x_iconst dX3_readNumbers_36 ?_
  refine x_iload dX3_readNumbers_37 rfl ?_
  refine x_imul dX3_readNumbers_39 ?_
  refine x_iconst dX3_readNumbers_40 ?_
  refine x_iadd dX3_readNumbers_41 ?_
  refine x_siald (j := 7) dX3_readNumbers_42 (by decide) (by decide) (by omega) (by rw [hL.2.2.1.1]; omega) (by omega) ?_
  refine x_top ((hL.2.2.1.2 7 (by omega)).trans (show _ = (300 : Int) from rfl)) ?_
  refine x_V2 mX3_84 dX3_readNumbers_43 rfl (s_readNumber (by omega) (by omega) hR3.1 (fun m4 v4 hc4 hS4 hv4 hb4 => ?_))
  refine x_iast (j := (6 * w + 3)) dX3_readNumbers_46 rfl (by decide) (by omega) (show _ < 36 by omega) (by omega) ?_
  have hR4 : RC q N (pnum q N (24 + (6 * w + 3)) 0 300 (pnum q N (24 + (6 * w + 2)) 1 20 (pnum q N (24 + (6 * w + 1)) 100 3000 (pnum q N (24 + (6 * w)) 0 200 (X))))) a (6 * w + 4) c (xu m4 84 (6 * w + 3) v4) := (hR3.leaf hS4 hc4 pnX_r pnX_0).r84 (by omega) (by omega) (by omega) (by omega) (fun z => hv4 z)
  have hg4 : ag [80, 84] m (xu m4 84 (6 * w + 3) v4) := (hg3.tr1 (hc4.1.wk (by decide))).u (by decide)
  refine x_iinc dX3_readNumbers_47 rfl ?_
  refine x_goto (tgt := 3) dX3_readNumbers_50 (by decide) ?_
  refine x_loc (lv' := [(0, vr E 80), (1, vr E 84), (2, vi ((6 * w : Nat) : Int)), (3, vr E 4), (4, vi 4)]) ⟨rfl, rfl, rfl, rfl, rfl, trivial⟩ ?_
  refine x_iconst dX3_readNumbers_3 ?_
  refine x_iload dX3_readNumbers_4 rfl ?_
  refine x_imul dX3_readNumbers_6 ?_
  refine x_iconst dX3_readNumbers_7 ?_
  refine x_iadd dX3_readNumbers_8 ?_
  refine x_aload_n dX3_readNumbers_9 rfl ?_
  refine x_salen dX3_readNumbers_10 (by decide) (by decide) ?_
  refine x_top (show (((E.2.2.2.2.2 4).1 : Nat) : Int) = 10 by rw [hL.2.2.1.1]; rfl) ?_
  refine x_icmp_ge (tgt := 53) dX3_readNumbers_11 (by decide) (by omega) (fun h11 => absurd h11 (by omega)) (fun h11 => ?_)
  refine x_iload_n dX3_readNumbers_14 rfl ?_
  refine x_iload dX3_readNumbers_15 rfl ?_
  refine x_iadd dX3_readNumbers_17 ?_
  refine x_aload_n dX3_readNumbers_18 rfl ?_
  refine x_alen (t := 8) (N := 36) dX3_readNumbers_19 rfl (by decide) rfl ?_
  refine x_icmp_ge (tgt := 53) dX3_readNumbers_20 (by decide) (by omega) (fun h20 => absurd h20 (by omega)) (fun h20 => ?_)
  refine x_aload_n dX3_readNumbers_23 rfl ?_
  refine x_iload_n dX3_readNumbers_24 rfl ?_
  refine x_iload dX3_readNumbers_25 rfl ?_
  refine x_iadd dX3_readNumbers_27 ?_
  refine x_aload_n dX3_readNumbers_28 rfl ?_
  refine x_aload_n dX3_readNumbers_29 rfl ?_
  refine x_iconst dX3_readNumbers_30 ?_
  refine x_iload dX3_readNumbers_31 rfl ?_
  refine x_imul dX3_readNumbers_33 ?_
  refine x_siald (j := 8) dX3_readNumbers_34 (by decide) (by decide) (by omega) (by rw [hL.2.2.1.1]; omega) (by omega) ?_
  refine x_top ((hL.2.2.1.2 8 (by omega)).trans (show _ = (50 : Int) from rfl)) ?_
  refine x_aload_n dX3_readNumbers_35 rfl ?_
  refine x_iconst dX3_readNumbers_36 ?_
  refine x_iload dX3_readNumbers_37 rfl ?_
  refine x_imul dX3_readNumbers_39 ?_
  refine x_iconst dX3_readNumbers_40 ?_
  refine x_iadd dX3_readNumbers_41 ?_
  refine x_siald (j := 9) dX3_readNumbers_42 (by decide) (by decide) (by omega) (by rw [hL.2.2.1.1]; omega) (by omega) ?_
  refine x_top ((hL.2.2.1.2 9 (by omega)).trans (show _ = (150 : Int) from rfl)) ?_
  refine x_V2 mX3_84 dX3_readNumbers_43 rfl (s_readNumber (by omega) (by omega) hR4.1 (fun m5 v5 hc5 hS5 hv5 hb5 => ?_))
  refine x_iast (j := (6 * w + 4)) dX3_readNumbers_46 rfl (by decide) (by omega) (show _ < 36 by omega) (by omega) ?_
  have hR5 : RC q N (pnum q N (24 + (6 * w + 4)) 50 150 (pnum q N (24 + (6 * w + 3)) 0 300 (pnum q N (24 + (6 * w + 2)) 1 20 (pnum q N (24 + (6 * w + 1)) 100 3000 (pnum q N (24 + (6 * w)) 0 200 (X)))))) a (6 * w + 5) c (xu m5 84 (6 * w + 4) v5) := (hR4.leaf hS5 hc5 pnX_r pnX_0).r84 (by omega) (by omega) (by omega) (by omega) (fun z => hv5 z)
  have hg5 : ag [80, 84] m (xu m5 84 (6 * w + 4) v5) := (hg4.tr1 (hc5.1.wk (by decide))).u (by decide)
  refine x_iinc dX3_readNumbers_47 rfl ?_
  refine x_goto (tgt := 3) dX3_readNumbers_50 (by decide) ?_
  refine x_loc (lv' := [(0, vr E 80), (1, vr E 84), (2, vi ((6 * w : Nat) : Int)), (3, vr E 4), (4, vi 5)]) ⟨rfl, rfl, rfl, rfl, rfl, trivial⟩ ?_
  refine x_iconst dX3_readNumbers_3 ?_
  refine x_iload dX3_readNumbers_4 rfl ?_
  refine x_imul dX3_readNumbers_6 ?_
  refine x_iconst dX3_readNumbers_7 ?_
  refine x_iadd dX3_readNumbers_8 ?_
  refine x_aload_n dX3_readNumbers_9 rfl ?_
  refine x_salen dX3_readNumbers_10 (by decide) (by decide) ?_
  refine x_top (show (((E.2.2.2.2.2 4).1 : Nat) : Int) = 10 by rw [hL.2.2.1.1]; rfl) ?_
  refine x_icmp_ge (tgt := 53) dX3_readNumbers_11 (by decide) (by omega) (fun h11 => ?_) (fun h11 => absurd (by omega) h11)
  exact x_vret dX3_readNumbers_53 (hP _ hg5 (show RC q N (pns q N (24 + 6 * w) [(0, 200), (100, 3000), (1, 20), (0, 300), (50, 150)] X) a (6 * w + 5) c _ from hR5))

set_option maxRecDepth 20000 in
theorem s_rnS {E : xE} {f : Nat → Nat} {D : Nat → Nat × Nat} {n : Nat} {m : xM} {P : xPo} {PX : xPx} {q : Nat → Int} {N : Nat} {X : pX} {a b c : Nat} {w : Nat} (hL : eL E) (hw : w ≤ 5) (ha : a ≤ 18) (hb : b ≤ 36) (hR : RC q N X a b (8 * w) m) (hP : ∀ m', ag [80, 85] m m' → RC q N (pns q N (60 + 8 * w) [(100, 2500), (40, 95), (0, 300), (4, 25)] X) a b (8 * w + 4) m' → (0 ≤ m' 85 (8 * w + 3) ∧ m' 85 (8 * w + 3) ≤ 1000000) → P none (gS f D n) m') : xC E (yX3_readNumbers, cX3_readNumbers, 5, none) 2 0 0 [vr E 80, vr E 85, vi ((8 * w : Nat) : Int), vr E 5] (gS f D n) m P PX := by
  refine x_enter (by decide) rfl rfl (Nat.le_of_ble_eq_true rfl) ?_
  refine x_iconst dX3_readNumbers_0 ?_
  refine x_istore dX3_readNumbers_1 ?_
  refine x_loc (lv' := [(0, vr E 80), (1, vr E 85), (2, vi ((8 * w : Nat) : Int)), (3, vr E 5), (4, vi 0)]) ⟨rfl, rfl, rfl, rfl, rfl, trivial⟩ ?_
  refine x_iconst dX3_readNumbers_3 ?_
  refine x_iload dX3_readNumbers_4 rfl ?_
  refine x_imul dX3_readNumbers_6 ?_
  refine x_iconst dX3_readNumbers_7 ?_
  refine x_iadd dX3_readNumbers_8 ?_
  refine x_aload_n dX3_readNumbers_9 rfl ?_
  refine x_salen dX3_readNumbers_10 (by decide) (by decide) ?_
  refine x_top (show (((E.2.2.2.2.2 5).1 : Nat) : Int) = 8 by rw [hL.2.2.2.1]; rfl) ?_
  refine x_icmp_ge (tgt := 53) dX3_readNumbers_11 (by decide) (by omega) (fun h11 => absurd h11 (by omega)) (fun h11 => ?_)
  refine x_iload_n dX3_readNumbers_14 rfl ?_
  refine x_iload dX3_readNumbers_15 rfl ?_
  refine x_iadd dX3_readNumbers_17 ?_
  refine x_aload_n dX3_readNumbers_18 rfl ?_
  refine x_alen (t := 8) (N := 48) dX3_readNumbers_19 rfl (by decide) rfl ?_
  refine x_icmp_ge (tgt := 53) dX3_readNumbers_20 (by decide) (by omega) (fun h20 => absurd h20 (by omega)) (fun h20 => ?_)
  refine x_aload_n dX3_readNumbers_23 rfl ?_
  refine x_iload_n dX3_readNumbers_24 rfl ?_
  refine x_iload dX3_readNumbers_25 rfl ?_
  refine x_iadd dX3_readNumbers_27 ?_
  refine x_aload_n dX3_readNumbers_28 rfl ?_
  refine x_aload_n dX3_readNumbers_29 rfl ?_
  refine x_iconst dX3_readNumbers_30 ?_
  refine x_iload dX3_readNumbers_31 rfl ?_
  refine x_imul dX3_readNumbers_33 ?_
  refine x_siald (j := 0) dX3_readNumbers_34 (by decide) (by decide) (by omega) (by rw [hL.2.2.2.1]; omega) (by omega) ?_
  refine x_top ((hL.2.2.2.2 0 (by omega)).trans (show _ = (100 : Int) from rfl)) ?_
  refine x_aload_n dX3_readNumbers_35 rfl ?_
  refine x_iconst dX3_readNumbers_36 ?_
  refine x_iload dX3_readNumbers_37 rfl ?_
  refine x_imul dX3_readNumbers_39 ?_
  refine x_iconst dX3_readNumbers_40 ?_
  refine x_iadd dX3_readNumbers_41 ?_
  refine x_siald (j := 1) dX3_readNumbers_42 (by decide) (by decide) (by omega) (by rw [hL.2.2.2.1]; omega) (by omega) ?_
  refine x_top ((hL.2.2.2.2 1 (by omega)).trans (show _ = (2500 : Int) from rfl)) ?_
  refine x_V2 mX3_84 dX3_readNumbers_43 rfl (s_readNumber (by omega) (by omega) hR.1 (fun m1 v1 hc1 hS1 hv1 hb1 => ?_))
  refine x_iast (j := (8 * w)) dX3_readNumbers_46 rfl (by decide) (by omega) (show _ < 48 by omega) (by omega) ?_
  have hR1 : RC q N (pnum q N (60 + (8 * w)) 100 2500 (X)) a b (8 * w + 1) (xu m1 85 (8 * w) v1) := (hR.leaf hS1 hc1 pnX_r pnX_0).r85 (by omega) (by omega) (by omega) (by omega) (fun z => hv1 z)
  have hg1 : ag [80, 85] m (xu m1 85 (8 * w) v1) := (hc1.1.wk (by decide)).u (by decide)
  refine x_iinc dX3_readNumbers_47 rfl ?_
  refine x_goto (tgt := 3) dX3_readNumbers_50 (by decide) ?_
  refine x_loc (lv' := [(0, vr E 80), (1, vr E 85), (2, vi ((8 * w : Nat) : Int)), (3, vr E 5), (4, vi 1)]) ⟨rfl, rfl, rfl, rfl, rfl, trivial⟩ ?_
  refine x_iconst dX3_readNumbers_3 ?_
  refine x_iload dX3_readNumbers_4 rfl ?_
  refine x_imul dX3_readNumbers_6 ?_
  refine x_iconst dX3_readNumbers_7 ?_
  refine x_iadd dX3_readNumbers_8 ?_
  refine x_aload_n dX3_readNumbers_9 rfl ?_
  refine x_salen dX3_readNumbers_10 (by decide) (by decide) ?_
  refine x_top (show (((E.2.2.2.2.2 5).1 : Nat) : Int) = 8 by rw [hL.2.2.2.1]; rfl) ?_
  refine x_icmp_ge (tgt := 53) dX3_readNumbers_11 (by decide) (by omega) (fun h11 => absurd h11 (by omega)) (fun h11 => ?_)
  refine x_iload_n dX3_readNumbers_14 rfl ?_
  refine x_iload dX3_readNumbers_15 rfl ?_
  refine x_iadd dX3_readNumbers_17 ?_
  refine x_aload_n dX3_readNumbers_18 rfl ?_
  refine x_alen (t := 8) (N := 48) dX3_readNumbers_19 rfl (by decide) rfl ?_
  refine x_icmp_ge (tgt := 53) dX3_readNumbers_20 (by decide) (by omega) (fun h20 => absurd h20 (by omega)) (fun h20 => ?_)
  refine x_aload_n dX3_readNumbers_23 rfl ?_
  refine x_iload_n dX3_readNumbers_24 rfl ?_
  refine x_iload dX3_readNumbers_25 rfl ?_
  refine x_iadd dX3_readNumbers_27 ?_
  refine x_aload_n dX3_readNumbers_28 rfl ?_
  refine x_aload_n dX3_readNumbers_29 rfl ?_
  refine x_iconst dX3_readNumbers_30 ?_
  refine x_iload dX3_readNumbers_31 rfl ?_
  refine x_imul dX3_readNumbers_33 ?_
  refine x_siald (j := 2) dX3_readNumbers_34 (by decide) (by decide) (by omega) (by rw [hL.2.2.2.1]; omega) (by omega) ?_
  refine x_top ((hL.2.2.2.2 2 (by omega)).trans (show _ = (40 : Int) from rfl)) ?_
  refine x_aload_n dX3_readNumbers_35 rfl ?_
  refine x_iconst dX3_readNumbers_36 ?_
  refine x_iload dX3_readNumbers_37 rfl ?_
  refine x_imul dX3_readNumbers_39 ?_
  refine x_iconst dX3_readNumbers_40 ?_
  refine x_iadd dX3_readNumbers_41 ?_
  refine x_siald (j := 3) dX3_readNumbers_42 (by decide) (by decide) (by omega) (by rw [hL.2.2.2.1]; omega) (by omega) ?_
  refine x_top ((hL.2.2.2.2 3 (by omega)).trans (show _ = (95 : Int) from rfl)) ?_
  refine x_V2 mX3_84 dX3_readNumbers_43 rfl (s_readNumber (by omega) (by omega) hR1.1 (fun m2 v2 hc2 hS2 hv2 hb2 => ?_))
  refine x_iast (j := (8 * w + 1)) dX3_readNumbers_46 rfl (by decide) (by omega) (show _ < 48 by omega) (by omega) ?_
  have hR2 : RC q N (pnum q N (60 + (8 * w + 1)) 40 95 (pnum q N (60 + (8 * w)) 100 2500 (X))) a b (8 * w + 2) (xu m2 85 (8 * w + 1) v2) := (hR1.leaf hS2 hc2 pnX_r pnX_0).r85 (by omega) (by omega) (by omega) (by omega) (fun z => hv2 z)
  have hg2 : ag [80, 85] m (xu m2 85 (8 * w + 1) v2) := (hg1.tr1 (hc2.1.wk (by decide))).u (by decide)
  refine x_iinc dX3_readNumbers_47 rfl ?_
  refine x_goto (tgt := 3) dX3_readNumbers_50 (by decide) ?_
  refine x_loc (lv' := [(0, vr E 80), (1, vr E 85), (2, vi ((8 * w : Nat) : Int)), (3, vr E 5), (4, vi 2)]) ⟨rfl, rfl, rfl, rfl, rfl, trivial⟩ ?_
  refine x_iconst dX3_readNumbers_3 ?_
  refine x_iload dX3_readNumbers_4 rfl ?_
  refine x_imul dX3_readNumbers_6 ?_
  refine x_iconst dX3_readNumbers_7 ?_
  refine x_iadd dX3_readNumbers_8 ?_
  refine x_aload_n dX3_readNumbers_9 rfl ?_
  refine x_salen dX3_readNumbers_10 (by decide) (by decide) ?_
  refine x_top (show (((E.2.2.2.2.2 5).1 : Nat) : Int) = 8 by rw [hL.2.2.2.1]; rfl) ?_
  refine x_icmp_ge (tgt := 53) dX3_readNumbers_11 (by decide) (by omega) (fun h11 => absurd h11 (by omega)) (fun h11 => ?_)
  refine x_iload_n dX3_readNumbers_14 rfl ?_
  refine x_iload dX3_readNumbers_15 rfl ?_
  refine x_iadd dX3_readNumbers_17 ?_
  refine x_aload_n dX3_readNumbers_18 rfl ?_
  refine x_alen (t := 8) (N := 48) dX3_readNumbers_19 rfl (by decide) rfl ?_
  refine x_icmp_ge (tgt := 53) dX3_readNumbers_20 (by decide) (by omega) (fun h20 => absurd h20 (by omega)) (fun h20 => ?_)
  refine x_aload_n dX3_readNumbers_23 rfl ?_
  refine x_iload_n dX3_readNumbers_24 rfl ?_
  refine x_iload dX3_readNumbers_25 rfl ?_
  refine x_iadd dX3_readNumbers_27 ?_
  refine x_aload_n dX3_readNumbers_28 rfl ?_
  refine x_aload_n dX3_readNumbers_29 rfl ?_
  refine x_iconst dX3_readNumbers_30 ?_
  refine x_iload dX3_readNumbers_31 rfl ?_
  refine x_imul dX3_readNumbers_33 ?_
  refine x_siald (j := 4) dX3_readNumbers_34 (by decide) (by decide) (by omega) (by rw [hL.2.2.2.1]; omega) (by omega) ?_
  refine x_top ((hL.2.2.2.2 4 (by omega)).trans (show _ = (0 : Int) from rfl)) ?_
  refine x_aload_n dX3_readNumbers_35 rfl ?_
  refine x_iconst dX3_readNumbers_36 ?_
  refine x_iload dX3_readNumbers_37 rfl ?_
  refine x_imul dX3_readNumbers_39 ?_
  refine x_iconst dX3_readNumbers_40 ?_
  refine x_iadd dX3_readNumbers_41 ?_
  refine x_siald (j := 5) dX3_readNumbers_42 (by decide) (by decide) (by omega) (by rw [hL.2.2.2.1]; omega) (by omega) ?_
  refine x_top ((hL.2.2.2.2 5 (by omega)).trans (show _ = (300 : Int) from rfl)) ?_
  refine x_V2 mX3_84 dX3_readNumbers_43 rfl (s_readNumber (by omega) (by omega) hR2.1 (fun m3 v3 hc3 hS3 hv3 hb3 => ?_))
  refine x_iast (j := (8 * w + 2)) dX3_readNumbers_46 rfl (by decide) (by omega) (show _ < 48 by omega) (by omega) ?_
  have hR3 : RC q N (pnum q N (60 + (8 * w + 2)) 0 300 (pnum q N (60 + (8 * w + 1)) 40 95 (pnum q N (60 + (8 * w)) 100 2500 (X)))) a b (8 * w + 3) (xu m3 85 (8 * w + 2) v3) := (hR2.leaf hS3 hc3 pnX_r pnX_0).r85 (by omega) (by omega) (by omega) (by omega) (fun z => hv3 z)
  have hg3 : ag [80, 85] m (xu m3 85 (8 * w + 2) v3) := (hg2.tr1 (hc3.1.wk (by decide))).u (by decide)
  refine x_iinc dX3_readNumbers_47 rfl ?_
  refine x_goto (tgt := 3) dX3_readNumbers_50 (by decide) ?_
  refine x_loc (lv' := [(0, vr E 80), (1, vr E 85), (2, vi ((8 * w : Nat) : Int)), (3, vr E 5), (4, vi 3)]) ⟨rfl, rfl, rfl, rfl, rfl, trivial⟩ ?_
  refine x_iconst dX3_readNumbers_3 ?_
  refine x_iload dX3_readNumbers_4 rfl ?_
  refine x_imul dX3_readNumbers_6 ?_
  refine x_iconst dX3_readNumbers_7 ?_
  refine x_iadd dX3_readNumbers_8 ?_
  refine x_aload_n dX3_readNumbers_9 rfl ?_
  refine x_salen dX3_readNumbers_10 (by decide) (by decide) ?_
  refine x_top (show (((E.2.2.2.2.2 5).1 : Nat) : Int) = 8 by rw [hL.2.2.2.1]; rfl) ?_
  refine x_icmp_ge (tgt := 53) dX3_readNumbers_11 (by decide) (by omega) (fun h11 => absurd h11 (by omega)) (fun h11 => ?_)
  refine x_iload_n dX3_readNumbers_14 rfl ?_
  refine x_iload dX3_readNumbers_15 rfl ?_
  refine x_iadd dX3_readNumbers_17 ?_
  refine x_aload_n dX3_readNumbers_18 rfl ?_
  refine x_alen (t := 8) (N := 48) dX3_readNumbers_19 rfl (by decide) rfl ?_
  refine x_icmp_ge (tgt := 53) dX3_readNumbers_20 (by decide) (by omega) (fun h20 => absurd h20 (by omega)) (fun h20 => ?_)
  refine x_aload_n dX3_readNumbers_23 rfl ?_
  refine x_iload_n dX3_readNumbers_24 rfl ?_
  refine x_iload dX3_readNumbers_25 rfl ?_
  refine x_iadd dX3_readNumbers_27 ?_
  refine x_aload_n dX3_readNumbers_28 rfl ?_
  refine x_aload_n dX3_readNumbers_29 rfl ?_
  refine x_iconst dX3_readNumbers_30 ?_
  refine x_iload dX3_readNumbers_31 rfl ?_
  refine x_imul dX3_readNumbers_33 ?_
  refine x_siald (j := 6) dX3_readNumbers_34 (by decide) (by decide) (by omega) (by rw [hL.2.2.2.1]; omega) (by omega) ?_
  refine x_top ((hL.2.2.2.2 6 (by omega)).trans (show _ = (4 : Int) from rfl)) ?_
  refine x_aload_n dX3_readNumbers_35 rfl ?_
  refine x_iconst dX3_readNumbers_36 ?_
  refine x_iload dX3_readNumbers_37 rfl ?_
  refine x_imul dX3_readNumbers_39 ?_
  refine x_iconst dX3_readNumbers_40 ?_
  refine x_iadd dX3_readNumbers_41 ?_
  refine x_siald (j := 7) dX3_readNumbers_42 (by decide) (by decide) (by omega) (by rw [hL.2.2.2.1]; omega) (by omega) ?_
  refine x_top ((hL.2.2.2.2 7 (by omega)).trans (show _ = (25 : Int) from rfl)) ?_
  refine x_V2 mX3_84 dX3_readNumbers_43 rfl (s_readNumber (by omega) (by omega) hR3.1 (fun m4 v4 hc4 hS4 hv4 hb4 => ?_))
  refine x_iast (j := (8 * w + 3)) dX3_readNumbers_46 rfl (by decide) (by omega) (show _ < 48 by omega) (by omega) ?_
  have hR4 : RC q N (pnum q N (60 + (8 * w + 3)) 4 25 (pnum q N (60 + (8 * w + 2)) 0 300 (pnum q N (60 + (8 * w + 1)) 40 95 (pnum q N (60 + (8 * w)) 100 2500 (X))))) a b (8 * w + 4) (xu m4 85 (8 * w + 3) v4) := (hR3.leaf hS4 hc4 pnX_r pnX_0).r85 (by omega) (by omega) (by omega) (by omega) (fun z => hv4 z)
  have hg4 : ag [80, 85] m (xu m4 85 (8 * w + 3) v4) := (hg3.tr1 (hc4.1.wk (by decide))).u (by decide)
  refine x_iinc dX3_readNumbers_47 rfl ?_
  refine x_goto (tgt := 3) dX3_readNumbers_50 (by decide) ?_
  refine x_loc (lv' := [(0, vr E 80), (1, vr E 85), (2, vi ((8 * w : Nat) : Int)), (3, vr E 5), (4, vi 4)]) ⟨rfl, rfl, rfl, rfl, rfl, trivial⟩ ?_
  refine x_iconst dX3_readNumbers_3 ?_
  refine x_iload dX3_readNumbers_4 rfl ?_
  refine x_imul dX3_readNumbers_6 ?_
  refine x_iconst dX3_readNumbers_7 ?_
  refine x_iadd dX3_readNumbers_8 ?_
  refine x_aload_n dX3_readNumbers_9 rfl ?_
  refine x_salen dX3_readNumbers_10 (by decide) (by decide) ?_
  refine x_top (show (((E.2.2.2.2.2 5).1 : Nat) : Int) = 8 by rw [hL.2.2.2.1]; rfl) ?_
  refine x_icmp_ge (tgt := 53) dX3_readNumbers_11 (by decide) (by omega) (fun h11 => ?_) (fun h11 => absurd (by omega) h11)
  exact x_vret dX3_readNumbers_53 (hP _ hg4 (show RC q N (pns q N (60 + 8 * w) [(100, 2500), (40, 95), (0, 300), (4, 25)] X) a b (8 * w + 4) _ from hR4) (by rw [xu_s]; omega))

end CRD
