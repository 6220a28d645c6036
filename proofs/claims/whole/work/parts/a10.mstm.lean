section MST
theorem pns_o {q : Nat → Int} {N : Nat} : ∀ (l : List (Int × Int)) (b : Nat) (X : pX) (k : Nat), k < b → (pns q N b l X).2.2.2 k = X.2.2.2 k := by
  intro l
  induction l with
  | nil => intro b X k hk; rfl
  | cons t l ih =>
    intro b X k hk
    show (pns q N (b + 1) l (pnum q N b t.1 t.2 X)).2.2.2 k = _
    rw [ih (b + 1) _ k (by omega), pnum_o (by omega)]
theorem or_3 : ∀ a : Nat, a < 8 → ∀ s : Nat, s < 3 → tb a s = 0 → Int32.ofInt (a : Int) ||| Int32.ofInt ((2 ^ s : Nat) : Int) = Int32.ofInt ((a + 2 ^ s : Nat) : Int) := by decide +kernel
theorem or_4 : ∀ a : Nat, a < 8 → ∀ s : Nat, s < 3 → tb a s = 1 → Int32.ofInt (a : Int) ||| Int32.ofInt ((2 ^ s : Nat) : Int) = Int32.ofInt (a : Int) := by decide +kernel
set_option maxRecDepth 20000 in
theorem s_waveRead {E : xE} {f : Nat → Nat} {D : Nat → Nat × Nat} {n : Nat} {m : xM} {P : xPo} {PX : xPx} {q : Nat → Int} {N : Nat} {X : pX} {w : Nat} (hX : X.1 = 0) (hN : X.2.2.1 ≤ N) (hw : X.2.2.2 3 = (w : Int)) (hw5 : w ≤ 5) (hR : MR q N X m) (hP : ∀ m', frM m m' → m' 96 15 = m 96 15 → MR q N (pwav q N X) m' → P none (gS f D n) m') : xC E (yX6_waveRead, cX6_waveRead, 2, none) 2 0 0 [vr E 96] (gS f D n) m P PX := by
  refine x_enter (by decide) rfl rfl (Nat.le_of_ble_eq_true rfl) ?_
  have hw9 : m 99 3 = (w : Int) := ((hR.2 hX).1 3 (by omega)).trans hw
  refine x_bipush dX6_waveRead_0 (h := ?_)
  refine x_iconst dX6_waveRead_2 ?_
  refine x_aload_n dX6_waveRead_3 rfl ?_
  refine x_getR (r := 99) fX6_20 dX6_waveRead_4 rfl rfl ?_
  refine x_iconst dX6_waveRead_7 ?_
  refine x_iald (j := 3) dX6_waveRead_8 rfl rfl (show 3 < 709 by omega) (by omega) ?_
  refine x_top (hw9) ?_
  refine x_imul dX6_waveRead_9 ?_
  refine x_iadd dX6_waveRead_10 ?_
  refine x_top (show (6 : Int) + 3 * (w : Int) = ((6 + 3 * w : Nat) : Int) by omega) ?_
  refine x_istore_n dX6_waveRead_11 ?_
  refine x_aload_n dX6_waveRead_12 rfl ?_
  refine x_getR (r := 99) fX6_20 dX6_waveRead_13 rfl rfl ?_
  refine x_iload_n dX6_waveRead_16 rfl ?_
  refine x_aload_n dX6_waveRead_17 rfl ?_
  refine x_iconst dX6_waveRead_18 ?_
  refine x_sipush dX6_waveRead_19 (h := ?_)
  refine x_V2 mX6_155 dX6_waveRead_22 rfl (s_number (by omega) (by omega) hR.1 (fun m1 v1 hc1 hS1 hv1 hb1 => ?_))
  refine x_iast (j := 6 + 3 * w) dX6_waveRead_25 rfl (by decide) (by omega) (show _ < 709 by omega) (by omega) ?_
  have hR1 : MR q N (pnum q N (6 + 3 * w) 0 400 (X)) (xu m1 99 (6 + 3 * w) v1) := (hR.leaf hS1 hc1 pnX_r pnX_0).st (by omega) (fun z => hv1 z)
  have hg1 : frM m (xu m1 99 (6 + 3 * w) v1) := ((frM.rf).tr (frM.cg hc1 (by decide))).u9
  have ho1 : (xu m1 99 (6 + 3 * w) v1) 96 15 = m 96 15 := by rw [xu_ne (by decide)]; exact (hc1.2 15 (by decide)).trans rfl
  refine x_aload_n dX6_waveRead_26 rfl ?_
  refine x_getR (r := 99) fX6_20 dX6_waveRead_27 rfl rfl ?_
  refine x_iload_n dX6_waveRead_30 rfl ?_
  refine x_iconst dX6_waveRead_31 ?_
  refine x_iadd dX6_waveRead_32 ?_
  refine x_aload_n dX6_waveRead_33 rfl ?_
  refine x_bipush dX6_waveRead_34 (h := ?_)
  refine x_sipush dX6_waveRead_36 (h := ?_)
  refine x_V2 mX6_155 dX6_waveRead_39 rfl (s_number (by omega) (by omega) hR1.1 (fun m2 v2 hc2 hS2 hv2 hb2 => ?_))
  refine x_iast (j := 6 + 3 * w + 1) dX6_waveRead_42 rfl (by decide) (by omega) (show _ < 709 by omega) (by omega) ?_
  have hR2 : MR q N (pnum q N (6 + 3 * w + 1) 60 2000 (pnum q N (6 + 3 * w) 0 400 (X))) (xu m2 99 (6 + 3 * w + 1) v2) := (hR1.leaf hS2 hc2 pnX_r pnX_0).st (by omega) (fun z => hv2 z)
  have hg2 : frM m (xu m2 99 (6 + 3 * w + 1) v2) := ((hg1).tr (frM.cg hc2 (by decide))).u9
  have ho2 : (xu m2 99 (6 + 3 * w + 1) v2) 96 15 = m 96 15 := by rw [xu_ne (by decide)]; exact (hc2.2 15 (by decide)).trans ho1
  refine x_aload_n dX6_waveRead_43 rfl ?_
  refine x_getR (r := 99) fX6_20 dX6_waveRead_44 rfl rfl ?_
  refine x_iload_n dX6_waveRead_47 rfl ?_
  refine x_iconst dX6_waveRead_48 ?_
  refine x_iadd dX6_waveRead_49 ?_
  refine x_aload_n dX6_waveRead_50 rfl ?_
  refine x_iconst dX6_waveRead_51 ?_
  refine x_sipush dX6_waveRead_52 (h := ?_)
  refine x_V2 mX6_155 dX6_waveRead_55 rfl (s_number (by omega) (by omega) hR2.1 (fun m3 v3 hc3 hS3 hv3 hb3 => ?_))
  refine x_iast (j := 6 + 3 * w + 2) dX6_waveRead_58 rfl (by decide) (by omega) (show _ < 709 by omega) (by omega) ?_
  have hR3 : MR q N (pnum q N (6 + 3 * w + 2) 0 2000 (pnum q N (6 + 3 * w + 1) 60 2000 (pnum q N (6 + 3 * w) 0 400 (X)))) (xu m3 99 (6 + 3 * w + 2) v3) := (hR2.leaf hS3 hc3 pnX_r pnX_0).st (by omega) (fun z => hv3 z)
  have hg3 : frM m (xu m3 99 (6 + 3 * w + 2) v3) := ((hg2).tr (frM.cg hc3 (by decide))).u9
  have ho3 : (xu m3 99 (6 + 3 * w + 2) v3) 96 15 = m 96 15 := by rw [xu_ne (by decide)]; exact (hc3.2 15 (by decide)).trans ho2
  refine x_aload_n dX6_waveRead_59 rfl ?_
  refine x_getR (r := 99) fX6_20 dX6_waveRead_60 rfl rfl ?_
  refine x_iconst dX6_waveRead_63 ?_
  refine x_dup2 dX6_waveRead_64 rfl vr_cat ?_
  refine x_iald (j := 3) dX6_waveRead_65 rfl rfl (show 3 < 709 by omega) (by omega) ?_
  refine x_iconst dX6_waveRead_66 ?_
  refine x_iadd dX6_waveRead_67 ?_
  refine x_iast (j := 3) dX6_waveRead_68 rfl (by decide) rfl (show 3 < 709 by omega) (by omega) ?_
  exact x_vret dX6_waveRead_69 (hP _ hg3.u9 (by rw [xu_ne (by decide)]; exact ho3) (by unfold pwav; rw [hw, Int.toNat_natCast]; exact (show MR q N (pns q N (6 + 3 * w) [(0, 400), (60, 2000), (0, 2000)] X) _ from hR3).st (by omega) (fun z => by rw [(hR3.2 z).1 3 (by omega), pnum_o (by omega), pnum_o (by omega), pnum_o (by omega), hw])))

set_option maxRecDepth 20000 in
theorem s_barRead {E : xE} {f : Nat → Nat} {D : Nat → Nat × Nat} {n : Nat} {m : xM} {P : xPo} {PX : xPx} {q : Nat → Int} {N : Nat} {X : pX} {w : Nat} (hX : X.1 = 0) (hN : X.2.2.1 ≤ N) (hw : X.2.2.2 4 = (w : Int)) (hw5 : w ≤ 5) (hR : MR q N X m) (hP : ∀ m', frM m m' → m' 96 15 = m 96 15 → MR q N (pbar q N X) m' → P none (gS f D n) m') : xC E (yX6_barRead, cX6_barRead, 2, none) 6 0 0 [vr E 96] (gS f D n) m P PX := by
  refine x_enter (by decide) rfl rfl (Nat.le_of_ble_eq_true rfl) ?_
  have hw9 : m 99 4 = (w : Int) := ((hR.2 hX).1 4 (by omega)).trans hw
  refine x_bipush dX6_barRead_0 (h := ?_)
  refine x_bipush dX6_barRead_2 (h := ?_)
  refine x_aload_n dX6_barRead_4 rfl ?_
  refine x_getR (r := 99) fX6_20 dX6_barRead_5 rfl rfl ?_
  refine x_iconst dX6_barRead_8 ?_
  refine x_iald (j := 4) dX6_barRead_9 rfl rfl (show 4 < 709 by omega) (by omega) ?_
  refine x_top (hw9) ?_
  refine x_imul dX6_barRead_10 ?_
  refine x_iadd dX6_barRead_11 ?_
  refine x_top (show (24 : Int) + 6 * (w : Int) = ((24 + 6 * w : Nat) : Int) by omega) ?_
  refine x_istore_n dX6_barRead_12 ?_
  refine x_aload_n dX6_barRead_13 rfl ?_
  refine x_getR (r := 99) fX6_20 dX6_barRead_14 rfl rfl ?_
  refine x_iload_n dX6_barRead_17 rfl ?_
  refine x_iconst dX6_barRead_18 ?_
  refine x_iadd dX6_barRead_19 ?_
  refine x_aload_n dX6_barRead_20 rfl ?_
  refine x_iconst dX6_barRead_21 ?_
  refine x_sipush dX6_barRead_22 (h := ?_)
  refine x_V2 mX6_155 dX6_barRead_25 rfl (s_number (by omega) (by omega) hR.1 (fun m1 v1 hc1 hS1 hv1 hb1 => ?_))
  refine x_iast (j := 24 + 6 * w) dX6_barRead_28 rfl (by decide) (by omega) (show _ < 709 by omega) (by omega) ?_
  have hR1 : MR q N (pnum q N (24 + 6 * w) 0 200 (X)) (xu m1 99 (24 + 6 * w) v1) := (hR.leaf hS1 hc1 pnX_r pnX_0).st (by omega) (fun z => hv1 z)
  have hg1 : frM m (xu m1 99 (24 + 6 * w) v1) := ((frM.rf).tr (frM.cg hc1 (by decide))).u9
  have ho1 : (xu m1 99 (24 + 6 * w) v1) 96 15 = m 96 15 := by rw [xu_ne (by decide)]; exact (hc1.2 15 (by decide)).trans rfl
  refine x_aload_n dX6_barRead_29 rfl ?_
  refine x_getR (r := 99) fX6_20 dX6_barRead_30 rfl rfl ?_
  refine x_iload_n dX6_barRead_33 rfl ?_
  refine x_iconst dX6_barRead_34 ?_
  refine x_iadd dX6_barRead_35 ?_
  refine x_aload_n dX6_barRead_36 rfl ?_
  refine x_bipush dX6_barRead_37 (h := ?_)
  refine x_sipush dX6_barRead_39 (h := ?_)
  refine x_V2 mX6_155 dX6_barRead_42 rfl (s_number (by omega) (by omega) hR1.1 (fun m2 v2 hc2 hS2 hv2 hb2 => ?_))
  refine x_iast (j := 24 + 6 * w + 1) dX6_barRead_45 rfl (by decide) (by omega) (show _ < 709 by omega) (by omega) ?_
  have hR2 : MR q N (pnum q N (24 + 6 * w + 1) 100 3000 (pnum q N (24 + 6 * w) 0 200 (X))) (xu m2 99 (24 + 6 * w + 1) v2) := (hR1.leaf hS2 hc2 pnX_r pnX_0).st (by omega) (fun z => hv2 z)
  have hg2 : frM m (xu m2 99 (24 + 6 * w + 1) v2) := ((hg1).tr (frM.cg hc2 (by decide))).u9
  have ho2 : (xu m2 99 (24 + 6 * w + 1) v2) 96 15 = m 96 15 := by rw [xu_ne (by decide)]; exact (hc2.2 15 (by decide)).trans ho1
  refine x_aload_n dX6_barRead_46 rfl ?_
  refine x_getR (r := 99) fX6_20 dX6_barRead_47 rfl rfl ?_
  refine x_iload_n dX6_barRead_50 rfl ?_
  refine x_iconst dX6_barRead_51 ?_
  refine x_iadd dX6_barRead_52 ?_
  refine x_aload_n dX6_barRead_53 rfl ?_
  refine x_iconst dX6_barRead_54 ?_
  refine x_bipush dX6_barRead_55 (h := ?_)
  refine x_V2 mX6_155 dX6_barRead_57 rfl (s_number (by omega) (by omega) hR2.1 (fun m3 v3 hc3 hS3 hv3 hb3 => ?_))
  refine x_iast (j := 24 + 6 * w + 2) dX6_barRead_60 rfl (by decide) (by omega) (show _ < 709 by omega) (by omega) ?_
  have hR3 : MR q N (pnum q N (24 + 6 * w + 2) 1 20 (pnum q N (24 + 6 * w + 1) 100 3000 (pnum q N (24 + 6 * w) 0 200 (X)))) (xu m3 99 (24 + 6 * w + 2) v3) := (hR2.leaf hS3 hc3 pnX_r pnX_0).st (by omega) (fun z => hv3 z)
  have hg3 : frM m (xu m3 99 (24 + 6 * w + 2) v3) := ((hg2).tr (frM.cg hc3 (by decide))).u9
  have ho3 : (xu m3 99 (24 + 6 * w + 2) v3) 96 15 = m 96 15 := by rw [xu_ne (by decide)]; exact (hc3.2 15 (by decide)).trans ho2
  refine x_aload_n dX6_barRead_61 rfl ?_
  refine x_getR (r := 99) fX6_20 dX6_barRead_62 rfl rfl ?_
  refine x_iload_n dX6_barRead_65 rfl ?_
  refine x_iconst dX6_barRead_66 ?_
  refine x_iadd dX6_barRead_67 ?_
  refine x_aload_n dX6_barRead_68 rfl ?_
  refine x_iconst dX6_barRead_69 ?_
  refine x_sipush dX6_barRead_70 (h := ?_)
  refine x_V2 mX6_155 dX6_barRead_73 rfl (s_number (by omega) (by omega) hR3.1 (fun m4 v4 hc4 hS4 hv4 hb4 => ?_))
  refine x_iast (j := 24 + 6 * w + 3) dX6_barRead_76 rfl (by decide) (by omega) (show _ < 709 by omega) (by omega) ?_
  have hR4 : MR q N (pnum q N (24 + 6 * w + 3) 0 300 (pnum q N (24 + 6 * w + 2) 1 20 (pnum q N (24 + 6 * w + 1) 100 3000 (pnum q N (24 + 6 * w) 0 200 (X))))) (xu m4 99 (24 + 6 * w + 3) v4) := (hR3.leaf hS4 hc4 pnX_r pnX_0).st (by omega) (fun z => hv4 z)
  have hg4 : frM m (xu m4 99 (24 + 6 * w + 3) v4) := ((hg3).tr (frM.cg hc4 (by decide))).u9
  have ho4 : (xu m4 99 (24 + 6 * w + 3) v4) 96 15 = m 96 15 := by rw [xu_ne (by decide)]; exact (hc4.2 15 (by decide)).trans ho3
  refine x_aload_n dX6_barRead_77 rfl ?_
  refine x_getR (r := 99) fX6_20 dX6_barRead_78 rfl rfl ?_
  refine x_iload_n dX6_barRead_81 rfl ?_
  refine x_iconst dX6_barRead_82 ?_
  refine x_iadd dX6_barRead_83 ?_
  refine x_aload_n dX6_barRead_84 rfl ?_
  refine x_bipush dX6_barRead_85 (h := ?_)
  refine x_sipush dX6_barRead_87 (h := ?_)
  refine x_V2 mX6_155 dX6_barRead_90 rfl (s_number (by omega) (by omega) hR4.1 (fun m5 v5 hc5 hS5 hv5 hb5 => ?_))
  refine x_iast (j := 24 + 6 * w + 4) dX6_barRead_93 rfl (by decide) (by omega) (show _ < 709 by omega) (by omega) ?_
  have hR5 : MR q N (pnum q N (24 + 6 * w + 4) 50 150 (pnum q N (24 + 6 * w + 3) 0 300 (pnum q N (24 + 6 * w + 2) 1 20 (pnum q N (24 + 6 * w + 1) 100 3000 (pnum q N (24 + 6 * w) 0 200 (X)))))) (xu m5 99 (24 + 6 * w + 4) v5) := (hR4.leaf hS5 hc5 pnX_r pnX_0).st (by omega) (fun z => hv5 z)
  have hg5 : frM m (xu m5 99 (24 + 6 * w + 4) v5) := ((hg4).tr (frM.cg hc5 (by decide))).u9
  have ho5 : (xu m5 99 (24 + 6 * w + 4) v5) 96 15 = m 96 15 := by rw [xu_ne (by decide)]; exact (hc5.2 15 (by decide)).trans ho4
  refine x_aload_n dX6_barRead_94 rfl ?_
  refine x_getR (r := 99) fX6_20 dX6_barRead_95 rfl rfl ?_
  refine x_iload_n dX6_barRead_98 rfl ?_
  refine x_iconst dX6_barRead_99 ?_
  refine x_iadd dX6_barRead_100 ?_
  refine x_aload_n dX6_barRead_101 rfl ?_
  refine x_ldcS kX6_158 dX6_barRead_102 ?_
  refine x_V1 mX6_146 dX6_barRead_104 rfl (s_passesWord (i := 3) (by omega) hR5.1 (fun m6 hc6 hS6 => ?_))
  have hR6 := hR5.leaf hS6 (hc6.wk (by decide)) pwX_r (fun z => pwX_0.symm.trans z)
  refine x_if_eq (tgt := 114) dX6_barRead_107 (by decide) (zi_r _) (fun h107 => ?_) (fun h107 => ?_)
  · have hy := zi_0.mp h107
    refine x_iconst dX6_barRead_114 ?_
    refine x_iast (j := 24 + 6 * w + 5) dX6_barRead_115 rfl (by decide) (by omega) (show _ < 709 by omega) (by omega) ?_
    have hR7 : MR q N (ptk q N (24 + 6 * w + 5) 3 (pns q N (24 + 6 * w) bL5 X)) (xu m6 99 (24 + 6 * w + 5) 0) := hR6.st (by omega) (fun _ => (zi_f hy).symm)
    have hg7 : frM m (xu m6 99 (24 + 6 * w + 5) 0) := (hg5.tr (frM.cg hc6 (by decide))).u9
    have ho7 : (xu m6 99 (24 + 6 * w + 5) 0) 96 15 = m 96 15 := by rw [xu_ne (by decide)]; exact (hc6.2 15 (by decide)).trans ho5
    refine x_aload_n dX6_barRead_116 rfl ?_
    refine x_getR (r := 99) fX6_20 dX6_barRead_117 rfl rfl ?_
    refine x_iconst dX6_barRead_120 ?_
    refine x_dup2 dX6_barRead_121 rfl vr_cat ?_
    refine x_iald (j := 4) dX6_barRead_122 rfl rfl (show 4 < 709 by omega) (by omega) ?_
    refine x_iconst dX6_barRead_123 ?_
    refine x_iadd dX6_barRead_124 ?_
    refine x_iast (j := 4) dX6_barRead_125 rfl (by decide) rfl (show 4 < 709 by omega) (by omega) ?_
    exact x_vret dX6_barRead_126 (hP _ hg7.u9 (by rw [xu_ne (by decide)]; exact ho7) (by rw [pbar_e hw]; exact hR7.st (by omega) (fun z => by rw [(hR7.2 z).1 4 (by omega)]; unfold ptk; rw [pset_ne (by omega), pwX_r, pns_o _ _ _ _ (by omega), hw])))
  · have hy := zi_1.mp h107
    refine x_iconst dX6_barRead_110 ?_
    refine x_goto (tgt := 115) dX6_barRead_111 (by decide) ?_
    refine x_iast (j := 24 + 6 * w + 5) dX6_barRead_115 rfl (by decide) (by omega) (show _ < 709 by omega) (by omega) ?_
    have hR7 : MR q N (ptk q N (24 + 6 * w + 5) 3 (pns q N (24 + 6 * w) bL5 X)) (xu m6 99 (24 + 6 * w + 5) 1) := hR6.st (by omega) (fun _ => (zi_t hy).symm)
    have hg7 : frM m (xu m6 99 (24 + 6 * w + 5) 1) := (hg5.tr (frM.cg hc6 (by decide))).u9
    have ho7 : (xu m6 99 (24 + 6 * w + 5) 1) 96 15 = m 96 15 := by rw [xu_ne (by decide)]; exact (hc6.2 15 (by decide)).trans ho5
    refine x_aload_n dX6_barRead_116 rfl ?_
    refine x_getR (r := 99) fX6_20 dX6_barRead_117 rfl rfl ?_
    refine x_iconst dX6_barRead_120 ?_
    refine x_dup2 dX6_barRead_121 rfl vr_cat ?_
    refine x_iald (j := 4) dX6_barRead_122 rfl rfl (show 4 < 709 by omega) (by omega) ?_
    refine x_iconst dX6_barRead_123 ?_
    refine x_iadd dX6_barRead_124 ?_
    refine x_iast (j := 4) dX6_barRead_125 rfl (by decide) rfl (show 4 < 709 by omega) (by omega) ?_
    exact x_vret dX6_barRead_126 (hP _ hg7.u9 (by rw [xu_ne (by decide)]; exact ho7) (by rw [pbar_e hw]; exact hR7.st (by omega) (fun z => by rw [(hR7.2 z).1 4 (by omega)]; unfold ptk; rw [pset_ne (by omega), pwX_r, pns_o _ _ _ _ (by omega), hw])))

set_option maxRecDepth 20000 in
theorem s_shipRead {E : xE} {f : Nat → Nat} {D : Nat → Nat × Nat} {n : Nat} {m : xM} {P : xPo} {PX : xPx} {q : Nat → Int} {N : Nat} {X : pX} {w : Nat} (hX : X.1 = 0) (hN : X.2.2.1 ≤ N) (hw : X.2.2.2 5 = (w : Int)) (hw5 : w ≤ 5) (hR : MR q N X m) (hP : ∀ m', frM m m' → m' 96 15 = m 96 15 → MR q N (pshp q N X) m' → P none (gS f D n) m') : xC E (yX6_shipRead, cX6_shipRead, 2, none) 6 0 0 [vr E 96] (gS f D n) m P PX := by
  refine x_enter (by decide) rfl rfl (Nat.le_of_ble_eq_true rfl) ?_
  have hw9 : m 99 5 = (w : Int) := ((hR.2 hX).1 5 (by omega)).trans hw
  refine x_bipush dX6_shipRead_0 (h := ?_)
  refine x_bipush dX6_shipRead_2 (h := ?_)
  refine x_aload_n dX6_shipRead_4 rfl ?_
  refine x_getR (r := 99) fX6_20 dX6_shipRead_5 rfl rfl ?_
  refine x_iconst dX6_shipRead_8 ?_
  refine x_iald (j := 5) dX6_shipRead_9 rfl rfl (show 5 < 709 by omega) (by omega) ?_
  refine x_top (hw9) ?_
  refine x_imul dX6_shipRead_10 ?_
  refine x_iadd dX6_shipRead_11 ?_
  refine x_top (show (60 : Int) + 8 * (w : Int) = ((60 + 8 * w : Nat) : Int) by omega) ?_
  refine x_istore_n dX6_shipRead_12 ?_
  refine x_aload_n dX6_shipRead_13 rfl ?_
  refine x_getR (r := 99) fX6_20 dX6_shipRead_14 rfl rfl ?_
  refine x_iload_n dX6_shipRead_17 rfl ?_
  refine x_iconst dX6_shipRead_18 ?_
  refine x_iadd dX6_shipRead_19 ?_
  refine x_aload_n dX6_shipRead_20 rfl ?_
  refine x_bipush dX6_shipRead_21 (h := ?_)
  refine x_sipush dX6_shipRead_23 (h := ?_)
  refine x_V2 mX6_155 dX6_shipRead_26 rfl (s_number (by omega) (by omega) hR.1 (fun m1 v1 hc1 hS1 hv1 hb1 => ?_))
  refine x_iast (j := 60 + 8 * w) dX6_shipRead_29 rfl (by decide) (by omega) (show _ < 709 by omega) (by omega) ?_
  have hR1 : MR q N (pnum q N (60 + 8 * w) 100 2500 (X)) (xu m1 99 (60 + 8 * w) v1) := (hR.leaf hS1 hc1 pnX_r pnX_0).st (by omega) (fun z => hv1 z)
  have hg1 : frM m (xu m1 99 (60 + 8 * w) v1) := ((frM.rf).tr (frM.cg hc1 (by decide))).u9
  have ho1 : (xu m1 99 (60 + 8 * w) v1) 96 15 = m 96 15 := by rw [xu_ne (by decide)]; exact (hc1.2 15 (by decide)).trans rfl
  refine x_aload_n dX6_shipRead_30 rfl ?_
  refine x_getR (r := 99) fX6_20 dX6_shipRead_31 rfl rfl ?_
  refine x_iload_n dX6_shipRead_34 rfl ?_
  refine x_iconst dX6_shipRead_35 ?_
  refine x_iadd dX6_shipRead_36 ?_
  refine x_aload_n dX6_shipRead_37 rfl ?_
  refine x_bipush dX6_shipRead_38 (h := ?_)
  refine x_bipush dX6_shipRead_40 (h := ?_)
  refine x_V2 mX6_155 dX6_shipRead_42 rfl (s_number (by omega) (by omega) hR1.1 (fun m2 v2 hc2 hS2 hv2 hb2 => ?_))
  refine x_iast (j := 60 + 8 * w + 1) dX6_shipRead_45 rfl (by decide) (by omega) (show _ < 709 by omega) (by omega) ?_
  have hR2 : MR q N (pnum q N (60 + 8 * w + 1) 40 95 (pnum q N (60 + 8 * w) 100 2500 (X))) (xu m2 99 (60 + 8 * w + 1) v2) := (hR1.leaf hS2 hc2 pnX_r pnX_0).st (by omega) (fun z => hv2 z)
  have hg2 : frM m (xu m2 99 (60 + 8 * w + 1) v2) := ((hg1).tr (frM.cg hc2 (by decide))).u9
  have ho2 : (xu m2 99 (60 + 8 * w + 1) v2) 96 15 = m 96 15 := by rw [xu_ne (by decide)]; exact (hc2.2 15 (by decide)).trans ho1
  refine x_aload_n dX6_shipRead_46 rfl ?_
  refine x_getR (r := 99) fX6_20 dX6_shipRead_47 rfl rfl ?_
  refine x_iload_n dX6_shipRead_50 rfl ?_
  refine x_iconst dX6_shipRead_51 ?_
  refine x_iadd dX6_shipRead_52 ?_
  refine x_aload_n dX6_shipRead_53 rfl ?_
  refine x_iconst dX6_shipRead_54 ?_
  refine x_sipush dX6_shipRead_55 (h := ?_)
  refine x_V2 mX6_155 dX6_shipRead_58 rfl (s_number (by omega) (by omega) hR2.1 (fun m3 v3 hc3 hS3 hv3 hb3 => ?_))
  refine x_iast (j := 60 + 8 * w + 2) dX6_shipRead_61 rfl (by decide) (by omega) (show _ < 709 by omega) (by omega) ?_
  have hR3 : MR q N (pnum q N (60 + 8 * w + 2) 0 300 (pnum q N (60 + 8 * w + 1) 40 95 (pnum q N (60 + 8 * w) 100 2500 (X)))) (xu m3 99 (60 + 8 * w + 2) v3) := (hR2.leaf hS3 hc3 pnX_r pnX_0).st (by omega) (fun z => hv3 z)
  have hg3 : frM m (xu m3 99 (60 + 8 * w + 2) v3) := ((hg2).tr (frM.cg hc3 (by decide))).u9
  have ho3 : (xu m3 99 (60 + 8 * w + 2) v3) 96 15 = m 96 15 := by rw [xu_ne (by decide)]; exact (hc3.2 15 (by decide)).trans ho2
  refine x_aload_n dX6_shipRead_62 rfl ?_
  refine x_getR (r := 99) fX6_20 dX6_shipRead_63 rfl rfl ?_
  refine x_iload_n dX6_shipRead_66 rfl ?_
  refine x_iconst dX6_shipRead_67 ?_
  refine x_iadd dX6_shipRead_68 ?_
  refine x_aload_n dX6_shipRead_69 rfl ?_
  refine x_iconst dX6_shipRead_70 ?_
  refine x_bipush dX6_shipRead_71 (h := ?_)
  refine x_V2 mX6_155 dX6_shipRead_73 rfl (s_number (by omega) (by omega) hR3.1 (fun m4 v4 hc4 hS4 hv4 hb4 => ?_))
  refine x_iast (j := 60 + 8 * w + 3) dX6_shipRead_76 rfl (by decide) (by omega) (show _ < 709 by omega) (by omega) ?_
  have hR4 : MR q N (pnum q N (60 + 8 * w + 3) 4 25 (pnum q N (60 + 8 * w + 2) 0 300 (pnum q N (60 + 8 * w + 1) 40 95 (pnum q N (60 + 8 * w) 100 2500 (X))))) (xu m4 99 (60 + 8 * w + 3) v4) := (hR3.leaf hS4 hc4 pnX_r pnX_0).st (by omega) (fun z => hv4 z)
  have hg4 : frM m (xu m4 99 (60 + 8 * w + 3) v4) := ((hg3).tr (frM.cg hc4 (by decide))).u9
  have ho4 : (xu m4 99 (60 + 8 * w + 3) v4) 96 15 = m 96 15 := by rw [xu_ne (by decide)]; exact (hc4.2 15 (by decide)).trans ho3
  refine x_aload_n dX6_shipRead_77 rfl ?_
  refine x_getR (r := 99) fX6_20 dX6_shipRead_78 rfl rfl ?_
  refine x_iload_n dX6_shipRead_81 rfl ?_
  refine x_iconst dX6_shipRead_82 ?_
  refine x_iadd dX6_shipRead_83 ?_
  refine x_aload_n dX6_shipRead_84 rfl ?_
  refine x_iconst dX6_shipRead_85 ?_
  refine x_aload_n dX6_shipRead_86 rfl ?_
  refine x_getR (r := 99) fX6_20 dX6_shipRead_87 rfl rfl ?_
  refine x_iload_n dX6_shipRead_90 rfl ?_
  refine x_iconst dX6_shipRead_91 ?_
  refine x_iadd dX6_shipRead_92 ?_
  refine x_iald (j := 60 + 8 * w + 3) dX6_shipRead_93 rfl (by omega) (show _ < 709 by omega) (by omega) ?_
  refine x_top (show (xu m4 99 (60 + 8 * w + 3) v4) 99 (60 + 8 * w + 3) = v4 from xu_s) ?_
  have hRY : MR q N (pns q N (60 + 8 * w) sL4 X) (xu m4 99 (60 + 8 * w + 3) v4) := hR4
  have hlo : (pns q N (60 + 8 * w) sL4 X).1 = 0 → v4 = ((pns q N (60 + 8 * w) sL4 X).2.2.2 (60 + 8 * w + 3)) := fun z => by rw [← (hRY.2 z).1 (60 + 8 * w + 3) (by omega)]; exact xu_s.symm
  refine x_S2 mX6_160 dX6_shipRead_94 (s_max (by omega) ?_)
  have e2 : pnX q N (max 4 v4) 25 (pns q N (60 + 8 * w) sL4 X) = pnX q N ((pns q N (60 + 8 * w) sL4 X).2.2.2 (60 + 8 * w + 3)) 25 (pns q N (60 + 8 * w) sL4 X) := by
    by_cases z : (pns q N (60 + 8 * w) sL4 X).1 = 0
    · have k := (pns_K sL4 (60 + 8 * w) X hN z).2.2.2.1 3 (by simp)
      simp at k
      rw [hlo z, show max 4 ((pns q N (60 + 8 * w) sL4 X).2.2.2 (60 + 8 * w + 3)) = ((pns q N (60 + 8 * w) sL4 X).2.2.2 (60 + 8 * w + 3)) by omega]
    · rw [pnX_n z, pnX_n z]
  refine x_bipush dX6_shipRead_97 (h := ?_)
  refine x_V2 mX6_155 dX6_shipRead_99 rfl (s_number (by omega) (by omega) hRY.1 (fun m5 v5 hc5 hS5 hv5 hb5 => ?_))
  rw [e2] at hS5 hv5
  refine x_iast (j := 60 + 8 * w + 4) dX6_shipRead_102 rfl (by decide) (by omega) (show _ < 709 by omega) (by omega) ?_
  have hR5 : MR q N (pnum q N (60 + 8 * w + 4) ((pns q N (60 + 8 * w) sL4 X).2.2.2 (60 + 8 * w + 3)) 25 (pns q N (60 + 8 * w) sL4 X)) (xu m5 99 (60 + 8 * w + 4) v5) := (hRY.leaf hS5 hc5 pnX_r pnX_0).st (by omega) (fun z => hv5 z)
  have hg5 : frM m (xu m5 99 (60 + 8 * w + 4) v5) := (hg4.tr (frM.cg hc5 (by decide))).u9
  have ho5 : (xu m5 99 (60 + 8 * w + 4) v5) 96 15 = m 96 15 := by rw [xu_ne (by decide)]; exact (hc5.2 15 (by decide)).trans ho4
  refine x_aload_n dX6_shipRead_103 rfl ?_
  refine x_getR (r := 99) fX6_20 dX6_shipRead_104 rfl rfl ?_
  refine x_iload_n dX6_shipRead_107 rfl ?_
  refine x_iconst dX6_shipRead_108 ?_
  refine x_iadd dX6_shipRead_109 ?_
  refine x_aload_n dX6_shipRead_110 rfl ?_
  refine x_ldcS kX6_163 dX6_shipRead_111 ?_
  refine x_V1 mX6_146 dX6_shipRead_113 rfl (s_passesWord (i := 5) (by omega) hR5.1 (fun m6 hc6 hS6 => ?_))
  have hR6 := hR5.leaf hS6 (hc6.wk (by decide)) pwX_r (fun z => pwX_0.symm.trans z)
  refine x_if_eq (tgt := 123) dX6_shipRead_116 (by decide) (zi_r _) (fun h116 => ?_) (fun h116 => ?_)
  · have hy := zi_0.mp h116
    refine x_iconst dX6_shipRead_123 ?_
    refine x_iast (j := 60 + 8 * w + 5) dX6_shipRead_124 rfl (by decide) (by omega) (show _ < 709 by omega) (by omega) ?_
    have hR7 : MR q N (ptk q N (60 + 8 * w + 5) 5 (pnum q N (60 + 8 * w + 4) ((pns q N (60 + 8 * w) sL4 X).2.2.2 (60 + 8 * w + 3)) 25 (pns q N (60 + 8 * w) sL4 X))) (xu m6 99 (60 + 8 * w + 5) 0) := hR6.st (by omega) (fun _ => (zi_f hy).symm)
    have hg7 : frM m (xu m6 99 (60 + 8 * w + 5) 0) := (hg5.tr (frM.cg hc6 (by decide))).u9
    have ho7 : (xu m6 99 (60 + 8 * w + 5) 0) 96 15 = m 96 15 := by rw [xu_ne (by decide)]; exact (hc6.2 15 (by decide)).trans ho5
    refine x_aload_n dX6_shipRead_125 rfl ?_
    refine x_getR (r := 99) fX6_20 dX6_shipRead_126 rfl rfl ?_
    refine x_iload_n dX6_shipRead_129 rfl ?_
    refine x_bipush dX6_shipRead_130 (h := ?_)
    refine x_iadd dX6_shipRead_132 ?_
    refine x_iconst dX6_shipRead_133 ?_
    refine x_iast (j := 60 + 8 * w + 6) dX6_shipRead_134 rfl (by decide) (by omega) (show _ < 709 by omega) (by omega) ?_
    refine x_aload_n dX6_shipRead_135 rfl ?_
    refine x_getR (r := 99) fX6_20 dX6_shipRead_136 rfl rfl ?_
    refine x_iload_n dX6_shipRead_139 rfl ?_
    refine x_bipush dX6_shipRead_140 (h := ?_)
    refine x_iadd dX6_shipRead_142 ?_
    refine x_iconst dX6_shipRead_143 ?_
    refine x_iast (j := 60 + 8 * w + 7) dX6_shipRead_144 rfl (by decide) (by omega) (show _ < 709 by omega) (by omega) ?_
    have hR8 := (hR7.st (k := 60 + 8 * w + 6) (z := -1) (z' := -1) (by omega) (fun _ => rfl)).st (k := 60 + 8 * w + 7) (z := -1) (z' := -1) (by omega) (fun _ => rfl)
    refine x_aload_n dX6_shipRead_145 rfl ?_
    refine x_getR (r := 99) fX6_20 dX6_shipRead_146 rfl rfl ?_
    refine x_iconst dX6_shipRead_149 ?_
    refine x_dup2 dX6_shipRead_150 rfl vr_cat ?_
    refine x_iald (j := 5) dX6_shipRead_151 rfl rfl (show 5 < 709 by omega) (by omega) ?_
    refine x_iconst dX6_shipRead_152 ?_
    refine x_iadd dX6_shipRead_153 ?_
    refine x_iast (j := 5) dX6_shipRead_154 rfl (by decide) rfl (show 5 < 709 by omega) (by omega) ?_
    exact x_vret dX6_shipRead_155 (hP _ hg7.u9.u9.u9 (by rw [xu_ne (by decide), xu_ne (by decide), xu_ne (by decide)]; exact ho7) (by rw [pshp_e hw]; exact hR8.st (by omega) (fun z => by rw [(hR8.2 z).1 5 (by omega), pset_ne (by omega), pset_ne (by omega)]; unfold ptk; rw [pset_ne (by omega), pwX_r, pnum_o (by omega), pns_o _ _ _ _ (by omega), hw])))
  · have hy := zi_1.mp h116
    refine x_iconst dX6_shipRead_119 ?_
    refine x_goto (tgt := 124) dX6_shipRead_120 (by decide) ?_
    refine x_iast (j := 60 + 8 * w + 5) dX6_shipRead_124 rfl (by decide) (by omega) (show _ < 709 by omega) (by omega) ?_
    have hR7 : MR q N (ptk q N (60 + 8 * w + 5) 5 (pnum q N (60 + 8 * w + 4) ((pns q N (60 + 8 * w) sL4 X).2.2.2 (60 + 8 * w + 3)) 25 (pns q N (60 + 8 * w) sL4 X))) (xu m6 99 (60 + 8 * w + 5) 1) := hR6.st (by omega) (fun _ => (zi_t hy).symm)
    have hg7 : frM m (xu m6 99 (60 + 8 * w + 5) 1) := (hg5.tr (frM.cg hc6 (by decide))).u9
    have ho7 : (xu m6 99 (60 + 8 * w + 5) 1) 96 15 = m 96 15 := by rw [xu_ne (by decide)]; exact (hc6.2 15 (by decide)).trans ho5
    refine x_aload_n dX6_shipRead_125 rfl ?_
    refine x_getR (r := 99) fX6_20 dX6_shipRead_126 rfl rfl ?_
    refine x_iload_n dX6_shipRead_129 rfl ?_
    refine x_bipush dX6_shipRead_130 (h := ?_)
    refine x_iadd dX6_shipRead_132 ?_
    refine x_iconst dX6_shipRead_133 ?_
    refine x_iast (j := 60 + 8 * w + 6) dX6_shipRead_134 rfl (by decide) (by omega) (show _ < 709 by omega) (by omega) ?_
    refine x_aload_n dX6_shipRead_135 rfl ?_
    refine x_getR (r := 99) fX6_20 dX6_shipRead_136 rfl rfl ?_
    refine x_iload_n dX6_shipRead_139 rfl ?_
    refine x_bipush dX6_shipRead_140 (h := ?_)
    refine x_iadd dX6_shipRead_142 ?_
    refine x_iconst dX6_shipRead_143 ?_
    refine x_iast (j := 60 + 8 * w + 7) dX6_shipRead_144 rfl (by decide) (by omega) (show _ < 709 by omega) (by omega) ?_
    have hR8 := (hR7.st (k := 60 + 8 * w + 6) (z := -1) (z' := -1) (by omega) (fun _ => rfl)).st (k := 60 + 8 * w + 7) (z := -1) (z' := -1) (by omega) (fun _ => rfl)
    refine x_aload_n dX6_shipRead_145 rfl ?_
    refine x_getR (r := 99) fX6_20 dX6_shipRead_146 rfl rfl ?_
    refine x_iconst dX6_shipRead_149 ?_
    refine x_dup2 dX6_shipRead_150 rfl vr_cat ?_
    refine x_iald (j := 5) dX6_shipRead_151 rfl rfl (show 5 < 709 by omega) (by omega) ?_
    refine x_iconst dX6_shipRead_152 ?_
    refine x_iadd dX6_shipRead_153 ?_
    refine x_iast (j := 5) dX6_shipRead_154 rfl (by decide) rfl (show 5 < 709 by omega) (by omega) ?_
    exact x_vret dX6_shipRead_155 (hP _ hg7.u9.u9.u9 (by rw [xu_ne (by decide), xu_ne (by decide), xu_ne (by decide)]; exact ho7) (by rw [pshp_e hw]; exact hR8.st (by omega) (fun z => by rw [(hR8.2 z).1 5 (by omega), pset_ne (by omega), pset_ne (by omega)]; unfold ptk; rw [pset_ne (by omega), pwX_r, pnum_o (by omega), pns_o _ _ _ _ (by omega), hw])))

set_option maxRecDepth 20000 in
theorem s_isOneMore {E : xE} {f : Nat → Nat} {D : Nat → Nat × Nat} {n : Nat} {m : xM} {P : xPo} {PX : xPx} {q : Nat → Int} {N : Nat} {X : pX} {i t : Nat} (hi : i < 13) (ht : t < 6) (hX : X.1 = 0) (hN : X.2.2.1 ≤ N) (hr : 0 ≤ X.2.2.2 t ∧ X.2.2.2 t ≤ 6) (hR : MR q N X m) (hP0 : ¬ pwT q N i X → ∀ m', frM m m' → m' 96 15 = m 96 15 → MR q N (pskip q N X) m' → P (some (vi 0)) (gS f D n) m') (hP1 : pwT q N i X → X.2.2.2 t < 6 → ∀ m', frM m m' → m' 96 15 = m 96 15 → MR q N (pwX q N i X) m' → P (some (vi 1)) (gS f D n) m') (hP2 : pwT q N i X → ¬ X.2.2.2 t < 6 → ∀ m', frM m m' → m' 96 15 = m 96 15 → MR q N (3, skp q N X.2.2.1, X.2.2) m' → P (some (vi 1)) (gS f D n) m') : xC E (yX6_isOneMore, cX6_isOneMore, 4, some .boolean) 6 0 0 [vr E 96, vr E (9 + i), vi (t : Int)] (gS f D n) m P PX := by
  refine x_enter (by decide) rfl rfl (by simp only [lg_sl, List.flatMap_cons, List.flatMap_nil, vr_cat]; exact Nat.le_of_ble_eq_true rfl) ?_
  have hle0 : lv_args 0 [vr E 96, vr E (9 + i), vi (t : Int)] = [(0, vr E 96), (1, vr E (9 + i)), (2, vi (t : Int))] := by simp only [lv_args, vr_cat]; rfl
  rw [hle0]
  refine x_aload_n dX6_isOneMore_0 rfl ?_
  refine x_V0 mX6_84 dX6_isOneMore_1 rfl (s_sign hR.1 (fun m1 r1 hc1 hS1 hr1 hs1 => ?_))
  have hR1 : MR q N (pskip q N X) m1 := hR.leaf hS1 (hc1.wk (by decide)) pskip_r (fun _ => hX)
  obtain ⟨⟨a1, ha1, haN1, hah1⟩, -⟩ := id hS1
  have haS : a1 = skp q N X.2.2.1 := (hah1 (pskip_1.trans hX)).trans (by rw [pskip_0 hX]; rfl)
  have hg1 : frM m m1 := frM.cg hc1 (by decide)
  have ho1 : m1 96 15 = m 96 15 := hc1.2 15 (by decide)
  refine x_pop dX6_isOneMore_4 rfl ?_
  refine x_aload_n dX6_isOneMore_5 rfl ?_
  refine x_getI fX6_78 dX6_isOneMore_6 rfl ?_
  refine x_top (ha1) ?_
  refine x_istore_n dX6_isOneMore_9 ?_
  refine x_loc (lv' := [(0, vr E 96), (1, vr E (9 + i)), (2, vi (t : Int)), (3, vi (a1 : Int))]) ⟨rfl, by rw [vr_pos (show 0 < 9 + i by omega)]; rfl, rfl, rfl, trivial⟩ ?_
  refine x_aload_n dX6_isOneMore_10 rfl ?_
  refine x_aload_n dX6_isOneMore_11 rfl ?_
  refine x_V1 mX6_146 dX6_isOneMore_12 rfl (s_passesWord (i := i) hi hS1 (fun m2 hc2 hS2 => ?_))
  rw [pwX_s hX hN] at hS2
  have hR2 : MR q N (pwX q N i X) m2 := hR1.leaf hS2 (hc2.wk (by decide)) (pwX_r.trans pskip_r.symm) (fun z => pskip_1.trans (pwX_0.symm.trans z))
  have hg2 : frM m m2 := hg1.tr (frM.cg hc2 (by decide))
  have ho2 : m2 96 15 = m 96 15 := (hc2.2 15 (by decide)).trans ho1
  refine x_if_ne (tgt := 20) dX6_isOneMore_15 (by decide) (zi_r _) (fun h15 => ?_) (fun h15 => ?_)
  · have hy := (pwT_s hX hN).mp (zi_1.mp h15)
    refine x_aload_n dX6_isOneMore_20 rfl ?_
    refine x_getR (r := 99) fX6_20 dX6_isOneMore_21 rfl rfl ?_
    refine x_iload_n dX6_isOneMore_24 rfl ?_
    refine x_iald (j := t) dX6_isOneMore_25 rfl (by omega) (show _ < 709 by omega) (by omega) ?_
    refine x_top (show m2 99 t = X.2.2.2 t by rw [(hR2.2 (pwX_0.trans hX)).1 t (by omega), pwX_r]) ?_
    refine x_bipush dX6_isOneMore_26 (h := ?_)
    refine x_icmp_ne (tgt := 37) dX6_isOneMore_28 (by decide) (by omega) (fun h28 => ?_) (fun h28 => ?_)
    · refine x_iconst dX6_isOneMore_37 ?_
      exact x_zret dX6_isOneMore_38 (Or.inr rfl) (hP1 hy (by omega) m2 hg2 ho2 hR2)
    · refine x_aload_n dX6_isOneMore_31 rfl ?_
      refine x_iconst dX6_isOneMore_32 ?_
      refine x_iload_n dX6_isOneMore_33 rfl ?_
      refine x_V2 mX6_111 dX6_isOneMore_34 rfl (s_wrong (k := 3) (p := a1) (by omega) hS2 (fun m3 hc3 hS3 => ?_))
      refine x_iconst dX6_isOneMore_37 ?_
      exact x_zret dX6_isOneMore_38 (Or.inr rfl) (hP2 hy (by omega) m3 (hg2.tr (frM.cg hc3 (by decide))) ((hc3.2 15 (by decide)).trans ho2) (by rw [← haS]; exact MR.of3 (pwX_0.trans hX) (by decide) hS3))
  · have hy := fun z => zi_0.mp h15 ((pwT_s hX hN).mpr z)
    refine x_iconst dX6_isOneMore_18 ?_
    exact x_zret dX6_isOneMore_19 (Or.inl rfl) (hP0 hy m2 hg2 ho2 (by rw [← pwX_f hy]; exact hR2))

theorem bit_3 : ∀ x : Nat, x < 2 → ∀ y : Nat, y < 2 → ∀ z : Nat, z < 2 → tb (x + 2 * y + 4 * z) 0 = x ∧ tb (x + 2 * y + 4 * z) 1 = y ∧ tb (x + 2 * y + 4 * z) 2 = z := by decide
/-- the marks as one number -/
theorem marks {r : Nat → Int} (h0 : r 900 = 0 ∨ r 900 = 1) (h1 : r 901 = 0 ∨ r 901 = 1) (h2 : r 902 = 0 ∨ r 902 = 1) : ∃ o : Nat, o < 8 ∧ r 900 + 2 * r 901 + 4 * r 902 = (o : Int) ∧ ∀ b, b < 3 → r (900 + b) = ((tb o b : Nat) : Int) := by
  obtain ⟨x, hx, ex⟩ : ∃ x : Nat, x < 2 ∧ r 900 = (x : Int) := ⟨(r 900).toNat, by omega, by omega⟩
  obtain ⟨y, hy, ey⟩ : ∃ x : Nat, x < 2 ∧ r 901 = (x : Int) := ⟨(r 901).toNat, by omega, by omega⟩
  obtain ⟨z, hz, ez⟩ : ∃ x : Nat, x < 2 ∧ r 902 = (x : Int) := ⟨(r 902).toNat, by omega, by omega⟩
  obtain ⟨b0, b1, b2⟩ := bit_3 x hx y hy z hz
  refine ⟨x + 2 * y + 4 * z, by omega, by omega, fun b hb => ?_⟩
  rcases (by omega : b = 0 ∨ b = 1 ∨ b = 2) with rfl | rfl | rfl
  · rw [b0]; exact ex
  · rw [b1]; exact ey
  · rw [b2]; exact ez
theorem MR.mk {q : Nat → Int} {N : Nat} {X : pX} {m : xM} (h : MR q N X m) {b : Nat} (hb : b < 3) {z : Int} (hz : X.1 = 0 → X.2.2.2 (900 + b) = 0 ∧ z = X.2.2.2 900 + 2 * X.2.2.2 901 + 4 * X.2.2.2 902 + ((2 ^ b : Nat) : Int)) : MR q N (pset (900 + b) 1 X) (xu m 96 16 z) := by
  refine ⟨(h.1.kp (J := [16]) (cg.rf.u (by decide)) (by decide) (by decide) (by decide) (by decide) (by decide)).c rfl rfl rfl, fun hX => ⟨fun i hi => ?_, ?_⟩⟩
  · rw [xu_ne (by decide), pset_ne (by omega)]; exact (h.2 hX).1 i hi
  · rw [xu_s]
    have k := hz hX
    rcases (by omega : b = 0 ∨ b = 1 ∨ b = 2) with rfl | rfl | rfl
    · rw [show (pset (900 + 0) 1 X).2.2.2 900 = 1 from pset_eq, pset_ne (by omega), pset_ne (by omega), k.2]; have : X.2.2.2 900 = 0 := k.1; omega
    · rw [pset_ne (by omega), show (pset (900 + 1) 1 X).2.2.2 901 = 1 from pset_eq, pset_ne (by omega), k.2]; have : X.2.2.2 901 = 0 := k.1; omega
    · rw [pset_ne (by omega), pset_ne (by omega), show (pset (900 + 2) 1 X).2.2.2 902 = 1 from pset_eq, k.2]; have : X.2.2.2 902 = 0 := k.1; omega
set_option maxRecDepth 20000 in
theorem s_isOnce {E : xE} {f : Nat → Nat} {D : Nat → Nat × Nat} {n : Nat} {m : xM} {P : xPo} {PX : xPx} {q : Nat → Int} {N : Nat} {X : pX} {i b : Nat} (hi : i < 13) (hb : b < 3) (hX : X.1 = 0) (hN : X.2.2.1 ≤ N) (hK : pK X.2.2.2) (hR : MR q N X m) (hP0 : ¬ pwT q N i X → ∀ m', frM m m' → m' 96 15 = m 96 15 → MR q N (pskip q N X) m' → P (some (vi 0)) (gS f D n) m') (hP1 : pwT q N i X → X.2.2.2 (900 + b) = 0 → ∀ m', frM m m' → m' 96 15 = m 96 15 → MR q N (pset (900 + b) 1 (pwX q N i X)) m' → P (some (vi 1)) (gS f D n) m') (hP2 : pwT q N i X → ¬ X.2.2.2 (900 + b) = 0 → ∀ m', frM m m' → m' 96 15 = m 96 15 → MR q N (1, skp q N X.2.2.1, X.2.2) m' → P (some (vi 1)) (gS f D n) m') : xC E (yX6_isOnce, cX6_isOnce, 4, some .boolean) 6 0 0 [vr E 96, vr E (9 + i), vi (b : Int)] (gS f D n) m P PX := by
  refine x_enter (by decide) rfl rfl (by simp only [lg_sl, List.flatMap_cons, List.flatMap_nil, vr_cat]; exact Nat.le_of_ble_eq_true rfl) ?_
  have hle0 : lv_args 0 [vr E 96, vr E (9 + i), vi (b : Int)] = [(0, vr E 96), (1, vr E (9 + i)), (2, vi (b : Int))] := by simp only [lv_args, vr_cat]; rfl
  rw [hle0]
  obtain ⟨o, hob, ho, ht⟩ := marks hK.2.1 hK.2.2.1 hK.2.2.2.1
  have hbt : ∀ b, b < 3 → tb o b ≤ 1 := fun b _ => by unfold tb; omega
  refine x_aload_n dX6_isOnce_0 rfl ?_
  refine x_V0 mX6_84 dX6_isOnce_1 rfl (s_sign hR.1 (fun m1 r1 hc1 hS1 hr1 hs1 => ?_))
  have hR1 : MR q N (pskip q N X) m1 := hR.leaf hS1 (hc1.wk (by decide)) pskip_r (fun _ => hX)
  obtain ⟨⟨a1, ha1, haN1, hah1⟩, -⟩ := id hS1
  have haS : a1 = skp q N X.2.2.1 := (hah1 (pskip_1.trans hX)).trans (by rw [pskip_0 hX]; rfl)
  have hg1 : frM m m1 := frM.cg hc1 (by decide)
  have ho1 : m1 96 15 = m 96 15 := hc1.2 15 (by decide)
  refine x_pop dX6_isOnce_4 rfl ?_
  refine x_aload_n dX6_isOnce_5 rfl ?_
  refine x_getI fX6_78 dX6_isOnce_6 rfl ?_
  refine x_top (ha1) ?_
  refine x_istore_n dX6_isOnce_9 ?_
  refine x_loc (lv' := [(0, vr E 96), (1, vr E (9 + i)), (2, vi (b : Int)), (3, vi (a1 : Int))]) ⟨rfl, by rw [vr_pos (show 0 < 9 + i by omega)]; rfl, rfl, rfl, trivial⟩ ?_
  refine x_aload_n dX6_isOnce_10 rfl ?_
  refine x_aload_n dX6_isOnce_11 rfl ?_
  refine x_V1 mX6_146 dX6_isOnce_12 rfl (s_passesWord (i := i) hi hS1 (fun m2 hc2 hS2 => ?_))
  rw [pwX_s hX hN] at hS2
  have hR2 : MR q N (pwX q N i X) m2 := hR1.leaf hS2 (hc2.wk (by decide)) (pwX_r.trans pskip_r.symm) (fun z => pskip_1.trans (pwX_0.symm.trans z))
  have hg2 : frM m m2 := hg1.tr (frM.cg hc2 (by decide))
  have ho2 : m2 96 15 = m 96 15 := (hc2.2 15 (by decide)).trans ho1
  refine x_if_ne (tgt := 20) dX6_isOnce_15 (by decide) (zi_r _) (fun h15 => ?_) (fun h15 => ?_)
  · have hy := (pwT_s hX hN).mp (zi_1.mp h15)
    refine x_aload_n dX6_isOnce_20 rfl ?_
    refine x_getI fX6_165 dX6_isOnce_21 rfl ?_
    refine x_top (show m2 96 16 = (o : Int) by rw [(hR2.2 (pwX_0.trans hX)).2, pwX_r]; exact ho) ?_
    refine x_iload_n dX6_isOnce_24 rfl ?_
    refine x_ishr (z := ((o / 2 ^ b : Nat) : Int)) dX6_isOnce_25 (b_shr o (by omega) b (by omega)) ?_
    refine x_iconst dX6_isOnce_26 ?_
    refine x_iand (z := ((tb o b : Nat) : Int)) dX6_isOnce_27 (b_one o (by omega) b (by omega)) ?_
    refine x_iconst dX6_isOnce_28 ?_
    refine x_icmp_ne (tgt := 38) dX6_isOnce_29 (by decide) (by have := hbt b hb; omega) (fun h29 => ?_) (fun h29 => ?_)
    · have hb0 : tb o b = 0 := by have := hbt b hb; omega
      refine x_aload_n dX6_isOnce_38 rfl ?_
      refine x_dup dX6_isOnce_39 vr_cat ?_
      refine x_getI fX6_165 dX6_isOnce_40 rfl ?_
      refine x_top (show m2 96 16 = (o : Int) by rw [(hR2.2 (pwX_0.trans hX)).2, pwX_r]; exact ho) ?_
      refine x_iconst dX6_isOnce_43 ?_
      refine x_iload_n dX6_isOnce_44 rfl ?_
      refine x_ishl (z := ((2 ^ b : Nat) : Int)) dX6_isOnce_45 (b_shl1 b (by omega)) ?_
      refine x_ior (z := ((o + 2 ^ b : Nat) : Int)) dX6_isOnce_46 (or_3 o hob b hb hb0) ?_
      refine x_putI fX6_165 dX6_isOnce_47 rfl (by decide) rfl rfl ?_
      refine x_iconst dX6_isOnce_50 ?_
      exact x_zret dX6_isOnce_51 (Or.inr rfl) (hP1 hy (by rw [ht b hb, hb0]; rfl) _ (hg2.tr (frM.cg (cg.rf.u (j := 16) (J := [16]) (by decide)) (by decide))) (by rw [xu_n (Or.inr (by decide))]; exact ho2) (hR2.mk hb (fun _ => by rw [pwX_r]; exact ⟨by rw [ht b hb, hb0]; rfl, by rw [ho]; omega⟩)))
    · have hb1 : tb o b = 1 := by omega
      refine x_aload_n dX6_isOnce_32 rfl ?_
      refine x_iconst dX6_isOnce_33 ?_
      refine x_iload_n dX6_isOnce_34 rfl ?_
      refine x_V2 mX6_111 dX6_isOnce_35 rfl (s_wrong (k := 1) (p := a1) (by omega) hS2 (fun m3 hc3 hS3 => ?_))
      refine x_aload_n dX6_isOnce_38 rfl ?_
      refine x_dup dX6_isOnce_39 vr_cat ?_
      refine x_getI fX6_165 dX6_isOnce_40 rfl ?_
      refine x_top (show m3 96 16 = (o : Int) by rw [hc3.2 16 (by decide)]; rw [(hR2.2 (pwX_0.trans hX)).2, pwX_r]; exact ho) ?_
      refine x_iconst dX6_isOnce_43 ?_
      refine x_iload_n dX6_isOnce_44 rfl ?_
      refine x_ishl (z := ((2 ^ b : Nat) : Int)) dX6_isOnce_45 (b_shl1 b (by omega)) ?_
      refine x_ior (z := (o : Int)) dX6_isOnce_46 (or_4 o hob b hb hb1) ?_
      refine x_putI fX6_165 dX6_isOnce_47 rfl (by decide) rfl rfl ?_
      refine x_iconst dX6_isOnce_50 ?_
      exact x_zret dX6_isOnce_51 (Or.inr rfl) (hP2 hy (by rw [ht b hb, hb1]; decide) _ ((hg2.tr (frM.cg hc3 (by decide))).tr (frM.cg (cg.rf.u (j := 16) (J := [16]) (by decide)) (by decide))) (by rw [xu_n (Or.inr (by decide))]; exact (hc3.2 15 (by decide)).trans ho2) (by rw [← haS]; exact ⟨((lC_k (pwX_0.trans hX) hS3).mk0 (by decide)).kp (J := [16]) (cg.rf.u (by decide)) (by decide) (by decide) (by decide) (by decide) (by decide), fun z => absurd z (by show (1 : Nat) ≠ 0; omega)⟩))
  · have hy := fun z => zi_0.mp h15 ((pwT_s hX hN).mpr z)
    refine x_iconst dX6_isOnce_18 ?_
    exact x_zret dX6_isOnce_19 (Or.inl rfl) (hP0 hy m2 hg2 ho2 (by rw [← pwX_f hy]; exact hR2))

end MST
