section CST
theorem RC.fl0 {q : Nat → Int} {N a b c k p h : Nat} {r : Nat → Int} {m : xM} (h9 : RC q N (k, p, h, r) a b c m) (hk : k ≠ 0) {a' b' c' h' : Nat} {r' : Nat → Int} : RC q N (k, p, h', r') a' b' c' m := ⟨h9.1.mk0 hk, h9.2.1, fun z => absurd z hk⟩
theorem RC.of3 {q : Nat → Int} {N a b c k p : Nat} {X : pX} {m m' : xM} (h : RC q N X a b c m) (h0 : X.1 = 0) (hk : k ≠ 0) (hS : lC q N (pfl k p X) m') (hc : cg 80 [5, 9] m m') {a' b' c' h' : Nat} {r' : Nat → Int} : RC q N (k, p, h', r') a' b' c' m' := ⟨(lC_k h0 hS).mk0 hk, by rw [hc.2 2 (by decide)]; exact h.2.1, fun z => absurd z hk⟩
set_option maxRecDepth 20000 in
theorem s_readWave {E : xE} {f : Nat → Nat} {D : Nat → Nat × Nat} {n : Nat} {m : xM} {P : xPo} {PX : xPx} {q : Nat → Int} {N : Nat} {X : pX} {a b c : Nat} {w p : Nat} (hL : eL E) (hX : X.1 = 0) (hw : X.2.2.2 3 = (w : Int)) (hw6 : w ≤ 6) (hb : b ≤ 36) (hc : c ≤ 48) (hR : RC q N X (3 * w) b c m) (hP : ∀ m', ag [80, 82, 83] m m' → (w < 6 → RC q N (pwav q N X) (3 * w + 3) b c m') → (w = 6 → ∀ (a' b' c' h' : Nat) (r' : Nat → Int), RC q N (3, p, h', r') a' b' c' m') → P none (gS f D n) m') : xC E (yX3_readWave, cX3_readWave, 2, none) 3 0 0 [vr E 80, vi (p : Int)] (gS f D n) m P PX := by
  refine x_enter (by decide) rfl rfl (Nat.le_of_ble_eq_true rfl) ?_
  have hw9 : m 82 3 = (w : Int) := ((hR.2.2 hX).2.2.2.2.2.1 3 (by omega)).trans hw
  refine x_aload_n dX3_readWave_0 rfl ?_
  refine x_getR (r := 82) fX3_18 dX3_readWave_1 rfl rfl ?_
  refine x_getI fX3_125 dX3_readWave_4 rfl ?_
  refine x_top (hw9) ?_
  refine x_bipush dX3_readWave_7 (h := ?_)
  refine x_icmp_lt (tgt := 19) dX3_readWave_9 (by decide) (by omega) (fun h9 => ?_) (fun h9 => ?_)
  · have hw5 : w ≤ 5 := by omega
    refine x_aload_n dX3_readWave_19 rfl ?_
    refine x_aload_n dX3_readWave_20 rfl ?_
    refine x_getR (r := 82) fX3_18 dX3_readWave_21 rfl rfl ?_
    refine x_getR (r := 83) fX3_128 dX3_readWave_24 rfl rfl ?_
    refine x_aload_n dX3_readWave_27 rfl ?_
    refine x_getR (r := 82) fX3_18 dX3_readWave_28 rfl rfl ?_
    refine x_getI fX3_125 dX3_readWave_31 rfl ?_
    refine x_top (hw9) ?_
    refine x_iconst dX3_readWave_34 ?_
    refine x_imul dX3_readWave_35 ?_
    refine x_top (show (w : Int) * 3 = ((3 * w : Nat) : Int) by omega) ?_
    refine x_gets (c := 2) (C := RX3) (f := "WAVE_LIMITS") (by simp [xstf]) sl_131 dX3_readWave_36 ?_
    refine x_V3 mX3_134 dX3_readWave_39 rfl (s_rnW (a := 0) (w := w) hL hw5 hb hc hR (fun m1 hg1 hR1 => ?_))
    refine x_aload_n dX3_readWave_42 rfl ?_
    refine x_getR (r := 82) fX3_18 dX3_readWave_43 rfl rfl ?_
    refine x_dup dX3_readWave_46 vr_cat ?_
    refine x_getI fX3_125 dX3_readWave_47 rfl ?_
    refine x_top (show m1 82 3 = (w : Int) by rw [hg1 82 (by decide)]; exact hw9) ?_
    refine x_iconst dX3_readWave_50 ?_
    refine x_iadd dX3_readWave_51 ?_
    refine x_putI fX3_125 dX3_readWave_52 rfl (by decide) rfl rfl ?_
    exact x_vret dX3_readWave_55 (hP _ ((hg1.wk (by decide)).u (by decide)) (fun _ => by unfold pwav; rw [hw, Int.toNat_natCast]; exact hR1.h82 (by omega) hb hc (by omega) (fun _ => rfl)) (fun z => by omega))
  · refine x_aload_n dX3_readWave_12 rfl ?_
    refine x_iconst dX3_readWave_13 ?_
    refine x_iload_n dX3_readWave_14 rfl ?_
    refine x_V2 mX3_80 dX3_readWave_15 rfl (s_note (k := 3) (p := p) (by omega) hR.1 (fun m1 hc1 hS1 => ?_))
    exact x_vret dX3_readWave_18 (hP m1 (hc1.1.wk (by decide)) (fun z => by omega) (fun _ _ _ _ _ _ => hR.of3 hX (by decide) hS1 hc1))

set_option maxRecDepth 20000 in
theorem s_readBar {E : xE} {f : Nat → Nat} {D : Nat → Nat × Nat} {n : Nat} {m : xM} {P : xPo} {PX : xPx} {q : Nat → Int} {N : Nat} {X : pX} {a b c : Nat} {w p : Nat} (hL : eL E) (hX : X.1 = 0) (hw : X.2.2.2 4 = (w : Int)) (hw6 : w ≤ 6) (ha : a ≤ 18) (hc : c ≤ 48) (hR : RC q N X a (6 * w) c m) (hP : ∀ m', ag [80, 82, 84] m m' → (w < 6 → RC q N (pbar q N X) a (6 * w + 6) c m') → (w = 6 → ∀ (a' b' c' h' : Nat) (r' : Nat → Int), RC q N (3, p, h', r') a' b' c' m') → P none (gS f D n) m') : xC E (yX3_readBar, cX3_readBar, 3, none) 5 0 0 [vr E 80, vi (p : Int)] (gS f D n) m P PX := by
  refine x_enter (by decide) rfl rfl (Nat.le_of_ble_eq_true rfl) ?_
  have hw9 : m 82 4 = (w : Int) := ((hR.2.2 hX).2.2.2.2.2.1 4 (by omega)).trans hw
  refine x_aload_n dX3_readBar_0 rfl ?_
  refine x_getR (r := 82) fX3_18 dX3_readBar_1 rfl rfl ?_
  refine x_getI fX3_138 dX3_readBar_4 rfl ?_
  refine x_top (hw9) ?_
  refine x_bipush dX3_readBar_7 (h := ?_)
  refine x_icmp_lt (tgt := 19) dX3_readBar_9 (by decide) (by omega) (fun h9 => ?_) (fun h9 => ?_)
  · have hw5 : w ≤ 5 := by omega
    refine x_aload_n dX3_readBar_19 rfl ?_
    refine x_getR (r := 82) fX3_18 dX3_readBar_20 rfl rfl ?_
    refine x_getI fX3_138 dX3_readBar_23 rfl ?_
    refine x_top (hw9) ?_
    refine x_bipush dX3_readBar_26 (h := ?_)
    refine x_imul dX3_readBar_28 ?_
    refine x_top (show (w : Int) * 6 = ((6 * w : Nat) : Int) by omega) ?_
    refine x_istore_n dX3_readBar_29 ?_
    refine x_aload_n dX3_readBar_30 rfl ?_
    refine x_aload_n dX3_readBar_31 rfl ?_
    refine x_getR (r := 82) fX3_18 dX3_readBar_32 rfl rfl ?_
    refine x_getR (r := 84) fX3_141 dX3_readBar_35 rfl rfl ?_
    refine x_iload_n dX3_readBar_38 rfl ?_
    refine x_gets (c := 3) (C := RX3) (f := "BAR_LIMITS") (by simp [xstf]) sl_144 dX3_readBar_39 ?_
    refine x_V3 mX3_134 dX3_readBar_42 rfl (s_rnB (b := 0) (w := w) hL hw5 ha hc hR (fun m1 hg1 hR1 => ?_))
    refine x_aload_n dX3_readBar_45 rfl ?_
    refine x_getR (r := 82) fX3_18 dX3_readBar_46 rfl rfl ?_
    refine x_getR (r := 84) fX3_141 dX3_readBar_49 rfl rfl ?_
    refine x_iload_n dX3_readBar_52 rfl ?_
    refine x_iconst dX3_readBar_53 ?_
    refine x_iadd dX3_readBar_54 ?_
    refine x_aload_n dX3_readBar_55 rfl ?_
    refine x_ldcS kX3_147 dX3_readBar_56 ?_
    refine x_V1 mX3_76 dX3_readBar_58 rfl (s_takesWord (i := 3) (by omega) hR1.1 (fun m2 hc2 hS2 => ?_))
    have hR2 := hR1.leaf hS2 (hc2.wk (by decide)) pwX_r (fun z => pwX_0.symm.trans z)
    refine x_if_eq (tgt := 68) dX3_readBar_61 (by decide) (zi_r _) (fun h61 => ?_) (fun h61 => ?_)
    · have hy := zi_0.mp h61
      refine x_iconst dX3_readBar_68 ?_
      refine x_iast (j := 6 * w + 5) dX3_readBar_69 rfl (by decide) (by omega) (show _ < 36 by omega) (by omega) ?_
      have hR3 := hR2.r84 (z := zi (pwT q N 3 (pns q N (24 + 6 * w) bL5 X))) (z' := 0) ha (by omega) hc (by omega) (fun _ => (zi_f hy).symm)
      have hg3 : ag [80, 82, 84] m (xu m2 84 (6 * w + 5) (0)) := ((hg1.wk (by decide)).tr1 (hc2.1.wk (by decide))).u (by decide)
      refine x_aload_n dX3_readBar_70 rfl ?_
      refine x_getR (r := 82) fX3_18 dX3_readBar_71 rfl rfl ?_
      refine x_dup dX3_readBar_74 vr_cat ?_
      refine x_getI fX3_138 dX3_readBar_75 rfl ?_
      refine x_top (show _ = (w : Int) by rw [xu_ne (by decide), hc2.1 82 (by decide), hg1 82 (by decide)]; exact hw9) ?_
      refine x_iconst dX3_readBar_78 ?_
      refine x_iadd dX3_readBar_79 ?_
      refine x_putI fX3_138 dX3_readBar_80 rfl (by decide) rfl rfl ?_
      exact x_vret dX3_readBar_83 (hP _ (hg3.u (by decide)) (fun _ => by rw [pbar_e hw]; exact hR3.h82 ha (by omega) hc (by omega) (fun _ => rfl)) (fun z => by omega))
    · have hy := zi_1.mp h61
      refine x_iconst dX3_readBar_64 ?_
      refine x_goto (tgt := 69) dX3_readBar_65 (by decide) ?_
      refine x_iast (j := 6 * w + 5) dX3_readBar_69 rfl (by decide) (by omega) (show _ < 36 by omega) (by omega) ?_
      have hR3 := hR2.r84 (z := zi (pwT q N 3 (pns q N (24 + 6 * w) bL5 X))) (z' := 1) ha (by omega) hc (by omega) (fun _ => (zi_t hy).symm)
      have hg3 : ag [80, 82, 84] m (xu m2 84 (6 * w + 5) (1)) := ((hg1.wk (by decide)).tr1 (hc2.1.wk (by decide))).u (by decide)
      refine x_aload_n dX3_readBar_70 rfl ?_
      refine x_getR (r := 82) fX3_18 dX3_readBar_71 rfl rfl ?_
      refine x_dup dX3_readBar_74 vr_cat ?_
      refine x_getI fX3_138 dX3_readBar_75 rfl ?_
      refine x_top (show _ = (w : Int) by rw [xu_ne (by decide), hc2.1 82 (by decide), hg1 82 (by decide)]; exact hw9) ?_
      refine x_iconst dX3_readBar_78 ?_
      refine x_iadd dX3_readBar_79 ?_
      refine x_putI fX3_138 dX3_readBar_80 rfl (by decide) rfl rfl ?_
      exact x_vret dX3_readBar_83 (hP _ (hg3.u (by decide)) (fun _ => by rw [pbar_e hw]; exact hR3.h82 ha (by omega) hc (by omega) (fun _ => rfl)) (fun z => by omega))
  · refine x_aload_n dX3_readBar_12 rfl ?_
    refine x_iconst dX3_readBar_13 ?_
    refine x_iload_n dX3_readBar_14 rfl ?_
    refine x_V2 mX3_80 dX3_readBar_15 rfl (s_note (k := 3) (p := p) (by omega) hR.1 (fun m1 hc1 hS1 => ?_))
    exact x_vret dX3_readBar_18 (hP m1 (hc1.1.wk (by decide)) (fun z => by omega) (fun _ _ _ _ _ _ => hR.of3 hX (by decide) hS1 hc1))

set_option maxRecDepth 20000 in
theorem s_putBk82 {E : xE} {f : Nat → Nat} {D : Nat → Nat × Nat} {n : Nat} {m : xM} {P : xPo} {PX : xPx} {s : Nat} {a b : Int} (hs : s < 6) (hP : P none (gS f D n) (xu (xu m 85 (8 * s + 6) a) 85 (8 * s + 7) b)) : xC E (yX0_putBooking, cX0_putBooking, 4, none) 0 0 0 [vr E 82, vi (s : Int), vi a, vi b] (gS f D n) m P PX := by
  refine x_enter (by decide) rfl rfl (Nat.le_of_ble_eq_true rfl) ?_
  refine x_aload_n dX0_putBooking_0 rfl ?_
  refine x_getR (r := 85) fX0_22 dX0_putBooking_1 rfl rfl ?_
  refine x_iload_n dX0_putBooking_4 rfl ?_
  refine x_bipush dX0_putBooking_5 (h := ?_)
  refine x_imul dX0_putBooking_7 ?_
  refine x_bipush dX0_putBooking_8 (h := ?_)
  refine x_iadd dX0_putBooking_10 ?_
  refine x_iload_n dX0_putBooking_11 rfl ?_
  refine x_iast (j := 8 * s + 6) dX0_putBooking_12 rfl (by decide) (by omega) (show _ < 48 by omega) (by omega) ?_
  refine x_aload_n dX0_putBooking_13 rfl ?_
  refine x_getR (r := 85) fX0_22 dX0_putBooking_14 rfl rfl ?_
  refine x_iload_n dX0_putBooking_17 rfl ?_
  refine x_bipush dX0_putBooking_18 (h := ?_)
  refine x_imul dX0_putBooking_20 ?_
  refine x_bipush dX0_putBooking_21 (h := ?_)
  refine x_iadd dX0_putBooking_23 ?_
  refine x_iload_n dX0_putBooking_24 rfl ?_
  refine x_iast (j := 8 * s + 7) dX0_putBooking_25 rfl (by decide) (by omega) (show _ < 48 by omega) (by omega) ?_
  exact x_vret dX0_putBooking_26 (hP)

set_option maxRecDepth 20000 in
theorem s_readShip {E : xE} {f : Nat → Nat} {D : Nat → Nat × Nat} {n : Nat} {m : xM} {P : xPo} {PX : xPx} {q : Nat → Int} {N : Nat} {X : pX} {a b c : Nat} {w p : Nat} (hL : eL E) (hX : X.1 = 0) (hw : X.2.2.2 5 = (w : Int)) (hw6 : w ≤ 6) (ha : a ≤ 18) (hb : b ≤ 36) (hR : RC q N X a b (8 * w) m) (hP : ∀ m', ag [80, 82, 85] m m' → (w < 6 → RC q N (pshp q N X) a b (8 * w + 8) m') → (w = 6 → ∀ (a' b' c' h' : Nat) (r' : Nat → Int), RC q N (3, p, h', r') a' b' c' m') → P none (gS f D n) m') : xC E (yX3_readShip, cX3_readShip, 3, none) 5 0 0 [vr E 80, vi (p : Int)] (gS f D n) m P PX := by
  refine x_enter (by decide) rfl rfl (Nat.le_of_ble_eq_true rfl) ?_
  have hw9 : m 82 5 = (w : Int) := ((hR.2.2 hX).2.2.2.2.2.1 5 (by omega)).trans hw
  refine x_aload_n dX3_readShip_0 rfl ?_
  refine x_getR (r := 82) fX3_18 dX3_readShip_1 rfl rfl ?_
  refine x_getI fX3_149 dX3_readShip_4 rfl ?_
  refine x_top (hw9) ?_
  refine x_bipush dX3_readShip_7 (h := ?_)
  refine x_icmp_lt (tgt := 19) dX3_readShip_9 (by decide) (by omega) (fun h9 => ?_) (fun h9 => ?_)
  · have hw5 : w ≤ 5 := by omega
    refine x_aload_n dX3_readShip_19 rfl ?_
    refine x_getR (r := 82) fX3_18 dX3_readShip_20 rfl rfl ?_
    refine x_getI fX3_149 dX3_readShip_23 rfl ?_
    refine x_top (hw9) ?_
    refine x_bipush dX3_readShip_26 (h := ?_)
    refine x_imul dX3_readShip_28 ?_
    refine x_top (show (w : Int) * 8 = ((8 * w : Nat) : Int) by omega) ?_
    refine x_istore_n dX3_readShip_29 ?_
    refine x_aload_n dX3_readShip_30 rfl ?_
    refine x_aload_n dX3_readShip_31 rfl ?_
    refine x_getR (r := 82) fX3_18 dX3_readShip_32 rfl rfl ?_
    refine x_getR (r := 85) fX3_152 dX3_readShip_35 rfl rfl ?_
    refine x_iload_n dX3_readShip_38 rfl ?_
    refine x_gets (c := 4) (C := RX3) (f := "SHIP_LIMITS") (by simp [xstf]) sl_155 dX3_readShip_39 ?_
    refine x_V3 mX3_134 dX3_readShip_42 rfl (s_rnS (c := 0) (w := w) hL hw5 ha hb hR (fun m1 hg1 hR1 hb3 => ?_))
    have hlo : (pns q N (60 + 8 * w) sL4 X).1 = 0 → m1 85 (8 * w + 3) = ((pns q N (60 + 8 * w) sL4 X).2.2.2 (60 + 8 * w + 3)) := fun z => (hR1.2.2 z).2.2.2.2.2.2.2.2.1 (8 * w + 3) (by omega)
    have e2 : pnX q N (m1 85 (8 * w + 3)) 25 (pns q N (60 + 8 * w) sL4 X) = pnX q N ((pns q N (60 + 8 * w) sL4 X).2.2.2 (60 + 8 * w + 3)) 25 (pns q N (60 + 8 * w) sL4 X) := by
      by_cases z : (pns q N (60 + 8 * w) sL4 X).1 = 0
      · rw [hlo z]
      · rw [pnX_n z, pnX_n z]
    refine x_aload_n dX3_readShip_45 rfl ?_
    refine x_getR (r := 82) fX3_18 dX3_readShip_46 rfl rfl ?_
    refine x_getR (r := 85) fX3_152 dX3_readShip_49 rfl rfl ?_
    refine x_iload_n dX3_readShip_52 rfl ?_
    refine x_iconst dX3_readShip_53 ?_
    refine x_iadd dX3_readShip_54 ?_
    refine x_aload_n dX3_readShip_55 rfl ?_
    refine x_aload_n dX3_readShip_56 rfl ?_
    refine x_getR (r := 82) fX3_18 dX3_readShip_57 rfl rfl ?_
    refine x_getR (r := 85) fX3_152 dX3_readShip_60 rfl rfl ?_
    refine x_iload_n dX3_readShip_63 rfl ?_
    refine x_iconst dX3_readShip_64 ?_
    refine x_iadd dX3_readShip_65 ?_
    refine x_iald (j := 8 * w + 3) dX3_readShip_66 rfl (by omega) (show _ < 48 by omega) (by omega) ?_
    refine x_bipush dX3_readShip_67 (h := ?_)
    refine x_V2 mX3_84 dX3_readShip_69 rfl (s_readNumber hb3 (by omega) hR1.1 (fun m2 v2 hc2 hS2 hv2 hb2 => ?_))
    rw [e2] at hS2 hv2
    have hR2 := hR1.leaf hS2 hc2 pnX_r pnX_0
    refine x_iast (j := 8 * w + 4) dX3_readShip_72 rfl (by decide) (by omega) (show _ < 48 by omega) (by omega) ?_
    have hR3 : RC q N (pnum q N (60 + 8 * w + 4) ((pns q N (60 + 8 * w) sL4 X).2.2.2 (60 + 8 * w + 3)) 25 (pns q N (60 + 8 * w) sL4 X)) a b (8 * w + 5) (xu m2 85 (8 * w + 4) v2) := hR2.r85 ha hb (by omega) (by omega) (fun z => hv2 z)
    refine x_aload_n dX3_readShip_73 rfl ?_
    refine x_getR (r := 82) fX3_18 dX3_readShip_74 rfl rfl ?_
    refine x_getR (r := 85) fX3_152 dX3_readShip_77 rfl rfl ?_
    refine x_iload_n dX3_readShip_80 rfl ?_
    refine x_iconst dX3_readShip_81 ?_
    refine x_iadd dX3_readShip_82 ?_
    refine x_aload_n dX3_readShip_83 rfl ?_
    refine x_ldcS kX3_158 dX3_readShip_84 ?_
    refine x_V1 mX3_76 dX3_readShip_86 rfl (s_takesWord (i := 5) (by omega) hR3.1 (fun m3 hc3 hS3 => ?_))
    have hR4 := hR3.leaf hS3 (hc3.wk (by decide)) pwX_r (fun z => pwX_0.symm.trans z)
    refine x_if_eq (tgt := 96) dX3_readShip_89 (by decide) (zi_r _) (fun h89 => ?_) (fun h89 => ?_)
    · have hy := zi_0.mp h89
      refine x_iconst dX3_readShip_96 ?_
      refine x_iast (j := 8 * w + 5) dX3_readShip_97 rfl (by decide) (by omega) (show _ < 48 by omega) (by omega) ?_
      have hR5 : RC q N (ptk q N (60 + 8 * w + 5) 5 (pnum q N (60 + 8 * w + 4) ((pns q N (60 + 8 * w) sL4 X).2.2.2 (60 + 8 * w + 3)) 25 (pns q N (60 + 8 * w) sL4 X))) a b (8 * w + 6) (xu m3 85 (8 * w + 5) 0) := hR4.r85 ha hb (by omega) (by omega) (fun _ => (zi_f hy).symm)
      refine x_aload_n dX3_readShip_98 rfl ?_
      refine x_getR (r := 82) fX3_18 dX3_readShip_99 rfl rfl ?_
      refine x_aload_n dX3_readShip_102 rfl ?_
      refine x_getR (r := 82) fX3_18 dX3_readShip_103 rfl rfl ?_
      refine x_getI fX3_149 dX3_readShip_106 rfl ?_
      refine x_top (show _ = (w : Int) by rw [xu_ne (by decide), hc3.1 82 (by decide), xu_ne (by decide), hc2.1 82 (by decide), hg1 82 (by decide)]; exact hw9) ?_
      refine x_iconst dX3_readShip_109 ?_
      refine x_iconst dX3_readShip_110 ?_
      refine x_V3 mX3_160 dX3_readShip_111 rfl (s_putBk82 (by omega) ?_)
      have hR6 := (hR5.r85 (z := -1) (z' := -1) ha hb (by omega) (by omega) (fun _ => rfl)).r85 (z := -1) (z' := -1) ha hb (by omega) (by omega) (fun _ => rfl)
      refine x_aload_n dX3_readShip_114 rfl ?_
      refine x_getR (r := 82) fX3_18 dX3_readShip_115 rfl rfl ?_
      refine x_dup dX3_readShip_118 vr_cat ?_
      refine x_getI fX3_149 dX3_readShip_119 rfl ?_
      refine x_top (show _ = (w : Int) by rw [xu_ne (by decide), xu_ne (by decide)]; rw [xu_ne (by decide), hc3.1 82 (by decide), xu_ne (by decide), hc2.1 82 (by decide), hg1 82 (by decide)]; exact hw9) ?_
      refine x_iconst dX3_readShip_122 ?_
      refine x_iadd dX3_readShip_123 ?_
      refine x_putI fX3_149 dX3_readShip_124 rfl (by decide) rfl rfl ?_
      exact x_vret dX3_readShip_127 (hP _ ((((((((hg1.wk (by decide)).tr1 (hc2.1.wk (by decide))).u (by decide)).tr1 (hc3.1.wk (by decide))).u (by decide)).u (by decide)).u (by decide)).u (by decide)) (fun _ => by rw [pshp_e hw]; exact hR6.h82 ha hb (by omega) (by omega) (fun _ => rfl)) (fun z => by omega))
    · have hy := zi_1.mp h89
      refine x_iconst dX3_readShip_92 ?_
      refine x_goto (tgt := 97) dX3_readShip_93 (by decide) ?_
      refine x_iast (j := 8 * w + 5) dX3_readShip_97 rfl (by decide) (by omega) (show _ < 48 by omega) (by omega) ?_
      have hR5 : RC q N (ptk q N (60 + 8 * w + 5) 5 (pnum q N (60 + 8 * w + 4) ((pns q N (60 + 8 * w) sL4 X).2.2.2 (60 + 8 * w + 3)) 25 (pns q N (60 + 8 * w) sL4 X))) a b (8 * w + 6) (xu m3 85 (8 * w + 5) 1) := hR4.r85 ha hb (by omega) (by omega) (fun _ => (zi_t hy).symm)
      refine x_aload_n dX3_readShip_98 rfl ?_
      refine x_getR (r := 82) fX3_18 dX3_readShip_99 rfl rfl ?_
      refine x_aload_n dX3_readShip_102 rfl ?_
      refine x_getR (r := 82) fX3_18 dX3_readShip_103 rfl rfl ?_
      refine x_getI fX3_149 dX3_readShip_106 rfl ?_
      refine x_top (show _ = (w : Int) by rw [xu_ne (by decide), hc3.1 82 (by decide), xu_ne (by decide), hc2.1 82 (by decide), hg1 82 (by decide)]; exact hw9) ?_
      refine x_iconst dX3_readShip_109 ?_
      refine x_iconst dX3_readShip_110 ?_
      refine x_V3 mX3_160 dX3_readShip_111 rfl (s_putBk82 (by omega) ?_)
      have hR6 := (hR5.r85 (z := -1) (z' := -1) ha hb (by omega) (by omega) (fun _ => rfl)).r85 (z := -1) (z' := -1) ha hb (by omega) (by omega) (fun _ => rfl)
      refine x_aload_n dX3_readShip_114 rfl ?_
      refine x_getR (r := 82) fX3_18 dX3_readShip_115 rfl rfl ?_
      refine x_dup dX3_readShip_118 vr_cat ?_
      refine x_getI fX3_149 dX3_readShip_119 rfl ?_
      refine x_top (show _ = (w : Int) by rw [xu_ne (by decide), xu_ne (by decide)]; rw [xu_ne (by decide), hc3.1 82 (by decide), xu_ne (by decide), hc2.1 82 (by decide), hg1 82 (by decide)]; exact hw9) ?_
      refine x_iconst dX3_readShip_122 ?_
      refine x_iadd dX3_readShip_123 ?_
      refine x_putI fX3_149 dX3_readShip_124 rfl (by decide) rfl rfl ?_
      exact x_vret dX3_readShip_127 (hP _ ((((((((hg1.wk (by decide)).tr1 (hc2.1.wk (by decide))).u (by decide)).tr1 (hc3.1.wk (by decide))).u (by decide)).u (by decide)).u (by decide)).u (by decide)) (fun _ => by rw [pshp_e hw]; exact hR6.h82 ha hb (by omega) (by omega) (fun _ => rfl)) (fun z => by omega))
  · refine x_aload_n dX3_readShip_12 rfl ?_
    refine x_iconst dX3_readShip_13 ?_
    refine x_iload_n dX3_readShip_14 rfl ?_
    refine x_V2 mX3_80 dX3_readShip_15 rfl (s_note (k := 3) (p := p) (by omega) hR.1 (fun m1 hc1 hS1 => ?_))
    exact x_vret dX3_readShip_18 (hP m1 (hc1.1.wk (by decide)) (fun z => by omega) (fun _ _ _ _ _ _ => hR.of3 hX (by decide) hS1 hc1))

set_option maxRecDepth 20000 in
theorem s_readSurge {E : xE} {f : Nat → Nat} {D : Nat → Nat × Nat} {n : Nat} {m : xM} {P : xPo} {PX : xPx} {q : Nat → Int} {N : Nat} {X : pX} {a b c : Nat} (ha : a ≤ 18) (hb : b ≤ 36) (hc : c ≤ 48) (hR : RC q N X a b c m) (hP : ∀ m', ag [80, 82] m m' → RC q N (psrg q N X) a b c m' → P none (gS f D n) m') : xC E (yX3_readSurge, cX3_readSurge, 3, none) 2 0 0 [vr E 80] (gS f D n) m P PX := by
  refine x_enter (by decide) rfl rfl (Nat.le_of_ble_eq_true rfl) ?_
  refine x_aload_n dX3_readSurge_0 rfl ?_
  refine x_bipush dX3_readSurge_1 (h := ?_)
  refine x_V1 mX3_164 dX3_readSurge_3 rfl (s_takesSign (by omega) hR.1 (fun m1 hc1 hS1 => ?_))
  have hR1 := hR.leaf hS1 (hc1.wk (by decide)) psX_r (fun z => psX_0.symm.trans z)
  refine x_istore_n dX3_readSurge_6 ?_
  refine x_aload_n dX3_readSurge_7 rfl ?_
  refine x_iconst dX3_readSurge_8 ?_
  refine x_sipush dX3_readSurge_9 (h := ?_)
  refine x_V2 mX3_84 dX3_readSurge_12 rfl (s_readNumber (by omega) (by omega) hR1.1 (fun m2 v2 hc2 hS2 hv2 hb2 => ?_))
  have hR2 := hR1.leaf hS2 hc2 pnX_r pnX_0
  refine x_istore_n dX3_readSurge_15 ?_
  refine x_aload_n dX3_readSurge_16 rfl ?_
  refine x_getR (r := 82) fX3_18 dX3_readSurge_17 rfl rfl ?_
  refine x_iload_n dX3_readSurge_20 rfl ?_
  refine x_if_eq (tgt := 29) dX3_readSurge_21 (by decide) (zi_r _) (fun h21 => ?_) (fun h21 => ?_)
  · have hy := zi_0.mp h21
    refine x_iload_n dX3_readSurge_29 rfl ?_
    refine x_putI fX3_168 dX3_readSurge_30 rfl (by decide) rfl rfl ?_
    exact x_vret dX3_readSurge_33 (hP _ (((hc1.1.wk (by decide)).tr1 (hc2.1.wk (by decide))).u (by decide)) (hR2.h82 (z := (1 - 2 * zi (psT q N 45 X)) * pnV q N (psX q N 45 X)) ha hb hc (by omega) (fun z => by rw [zi_f hy, ← hv2 z]; omega)))
  · have hy := zi_1.mp h21
    refine x_iload_n dX3_readSurge_24 rfl ?_
    refine x_ineg dX3_readSurge_25 ?_
    refine x_goto (tgt := 30) dX3_readSurge_26 (by decide) ?_
    refine x_putI fX3_168 dX3_readSurge_30 rfl (by decide) rfl rfl ?_
    exact x_vret dX3_readSurge_33 (hP _ (((hc1.1.wk (by decide)).tr1 (hc2.1.wk (by decide))).u (by decide)) (hR2.h82 (z := (1 - 2 * zi (psT q N 45 X)) * pnV q N (psX q N 45 X)) ha hb hc (by omega) (fun z => by rw [zi_t hy, ← hv2 z]; omega)))

theorem pnum_o {q : Nat → Int} {N i k : Nat} {lo hi : Int} {X : pX} (h : k ≠ i) : (pnum q N i lo hi X).2.2.2 k = X.2.2.2 k := by unfold pnum; rw [pset_ne h, pnX_r]
theorem psrg_o {q : Nat → Int} {N k : Nat} {X : pX} (h : k ≠ 2) : (psrg q N X).2.2.2 k = X.2.2.2 k := by unfold psrg; rw [pset_ne h, pnX_r, psX_r]
theorem pm0_t {q : Nat → Int} {N : Nat} (h : pwT q N 0 (0, 0, 0, pr0)) : pm0 q N = pwX q N 0 (0, 0, 0, pr0) := by rw [pwX_t h]; exact if_pos h.2
theorem pm0_f {q : Nat → Int} {N : Nat} (h : ¬ pwT q N 0 (0, 0, 0, pr0)) : pm0 q N = (1, skp q N 0, skp q N 0, pr0) := if_neg (fun z => h ⟨rfl, z⟩)
set_option maxRecDepth 20000 in
theorem s_readMean {E : xE} {f : Nat → Nat} {D : Nat → Nat × Nat} {n : Nat} {m : xM} {P : xPo} {PX : xPx} {q : Nat → Int} {N : Nat}  (hR : RC q N (0, 0, 0, pr0) 0 0 0 m) (hP : ∀ m', ag [80, 82] m m' → RC q N (pmn q N) 0 0 0 m' → P none (gS f D n) m') : xC E (yX3_readMean, cX3_readMean, 1, none) 5 0 0 [vr E 80] (gS f D n) m P PX := by
  refine x_enter (by decide) rfl rfl (Nat.le_of_ble_eq_true rfl) ?_
  refine x_aload_n dX3_readMean_0 rfl ?_
  refine x_ldcS kX3_74 dX3_readMean_1 ?_
  refine x_V1 mX3_76 dX3_readMean_3 rfl (s_takesWord (i := 0) (by omega) hR.1 (fun m1 hc1 hS1 => ?_))
  have hR1 := hR.leaf hS1 (hc1.wk (by decide)) pwX_r (fun z => pwX_0.symm.trans z)
  refine x_if_ne (tgt := 18) dX3_readMean_6 (by decide) (zi_r _) (fun h6 => ?_) (fun h6 => ?_)
  · have hy := zi_1.mp h6
    have hR2 : RC q N (pm0 q N) 0 0 0 m1 := by rw [pm0_t hy]; exact hR1
    have hg2 : ag [80, 82] m m1 := hc1.1.wk (by decide)
    refine x_aload_n dX3_readMean_18 rfl ?_
    refine x_getR (r := 82) fX3_18 dX3_readMean_19 rfl rfl ?_
    refine x_aload_n dX3_readMean_22 rfl ?_
    refine x_iconst dX3_readMean_23 ?_
    refine x_sipush dX3_readMean_24 (h := ?_)
    refine x_V2 mX3_84 dX3_readMean_27 rfl (s_readNumber (by omega) (by omega) hR2.1 (fun m3 v3 hc3 hS3 hv3 hb3 => ?_))
    have hR3 := hR2.leaf hS3 hc3 pnX_r pnX_0
    refine x_putI fX3_87 dX3_readMean_30 rfl (by decide) rfl rfl ?_
    have hR4 : RC q N (pnum q N 0 0 1000 (pm0 q N)) 0 0 0 (xu m3 82 0 v3) := hR3.h82 (by omega) (by omega) (by omega) (by omega) (fun z => hv3 z)
    refine x_aload_n dX3_readMean_33 rfl ?_
    refine x_bipush dX3_readMean_34 (h := ?_)
    refine x_V1 mX3_89 dX3_readMean_36 rfl (s_needSign (by omega) hR4.1 (fun m5 hc5 hS5 => ?_))
    exact x_vret dX3_readMean_39 (hP m5 (((hg2.tr1 (hc3.1.wk (by decide))).u (by decide)).tr1 (hc5.1.wk (by decide))) (hR4.leaf hS5 hc5 pnd_r pnd_0))
  · have hy := zi_0.mp h6
    rw [pwX_f hy] at hS1 hR1
    obtain ⟨⟨a1, ha1, haN1, hah1⟩, -⟩ := id hS1
    have haS : a1 = skp q N 0 := hah1 rfl
    refine x_aload_n dX3_readMean_9 rfl ?_
    refine x_iconst dX3_readMean_10 ?_
    refine x_aload_n dX3_readMean_11 rfl ?_
    refine x_getI fX3_26 dX3_readMean_12 rfl ?_
    refine x_top (ha1) ?_
    refine x_V2 mX3_80 dX3_readMean_15 rfl (s_note (k := 1) (p := a1) (by omega) hS1 (fun m2 hc2 hS2 => ?_))
    have hR2 : RC q N (pm0 q N) 0 0 0 m2 := by rw [pm0_f hy, ← haS]; exact hR1.of3 rfl (by decide) hS2 hc2
    have hg2 : ag [80, 82] m m2 := (hc1.1.wk (by decide)).tr1 (hc2.1.wk (by decide))
    refine x_aload_n dX3_readMean_18 rfl ?_
    refine x_getR (r := 82) fX3_18 dX3_readMean_19 rfl rfl ?_
    refine x_aload_n dX3_readMean_22 rfl ?_
    refine x_iconst dX3_readMean_23 ?_
    refine x_sipush dX3_readMean_24 (h := ?_)
    refine x_V2 mX3_84 dX3_readMean_27 rfl (s_readNumber (by omega) (by omega) hR2.1 (fun m3 v3 hc3 hS3 hv3 hb3 => ?_))
    have hR3 := hR2.leaf hS3 hc3 pnX_r pnX_0
    refine x_putI fX3_87 dX3_readMean_30 rfl (by decide) rfl rfl ?_
    have hR4 : RC q N (pnum q N 0 0 1000 (pm0 q N)) 0 0 0 (xu m3 82 0 v3) := hR3.h82 (by omega) (by omega) (by omega) (by omega) (fun z => hv3 z)
    refine x_aload_n dX3_readMean_33 rfl ?_
    refine x_bipush dX3_readMean_34 (h := ?_)
    refine x_V1 mX3_89 dX3_readMean_36 rfl (s_needSign (by omega) hR4.1 (fun m5 hc5 hS5 => ?_))
    exact x_vret dX3_readMean_39 (hP m5 (((hg2.tr1 (hc3.1.wk (by decide))).u (by decide)).tr1 (hc5.1.wk (by decide))) (hR4.leaf hS5 hc5 pnd_r pnd_0))

theorem RC.cs {q : Nat → Int} {N a b c a' b' c' : Nat} {X : pX} {m : xM} (h : RC q N X a b c m) (he : X.1 = 0 → a = a' ∧ b = b' ∧ c = c') : RC q N X a' b' c' m := by
  by_cases z : X.1 = 0
  · obtain ⟨rfl, rfl, rfl⟩ := he z; exact h
  · exact h.no z
/-- the reader's state, its rows as far as its counts say -/
def RS (q : Nat → Int) (N : Nat) (Y : pX) (m : xM) : Prop := ∀ u3 u4 u5 : Nat, (Y.1 = 0 → Y.2.2.2 3 = (u3 : Int) ∧ Y.2.2.2 4 = (u4 : Int) ∧ Y.2.2.2 5 = (u5 : Int)) → RC q N Y (3 * u3) (6 * u4) (8 * u5) m
theorem RS.of {q : Nat → Int} {N a b c : Nat} {Y : pX} {m : xM} (h : RC q N Y a b c m) (he : Y.1 = 0 → (a : Int) = 3 * Y.2.2.2 3 ∧ (b : Int) = 6 * Y.2.2.2 4 ∧ (c : Int) = 8 * Y.2.2.2 5) : RS q N Y m := fun u3 u4 u5 hu => h.cs (fun z => by
  have h1 := he z
  have h2 := hu z
  omega)
def nn3 (Y : pX) : Prop := Y.1 = 0 → 0 ≤ Y.2.2.2 3 ∧ 0 ≤ Y.2.2.2 4 ∧ 0 ≤ Y.2.2.2 5
theorem RS.get {q : Nat → Int} {N : Nat} {Y : pX} {m : xM} (h : RS q N Y m) (hn : nn3 Y) : RC q N Y (3 * (Y.2.2.2 3).toNat) (6 * (Y.2.2.2 4).toNat) (8 * (Y.2.2.2 5).toNat) m := h _ _ _ (fun z => by have := hn z; omega)
theorem RS.leaf {q : Nat → Int} {N : Nat} {X X' : pX} {m m' : xM} (h : RS q N X m) (hn : nn3 X) (hS : lC q N X' m') (hc : cg 80 [3, 5, 9] m m') (hr : X'.2.2.2 = X.2.2.2) (h0 : X'.1 = 0 → X.1 = 0) : RS q N X' m' := by
  have h1 := (h.get hn).leaf hS hc hr h0
  refine RS.of h1 (fun z => ?_)
  have := hn (h0 z)
  rw [hr]
  omega
set_option maxRecDepth 20000 in
theorem st_157 {E : xE} {f : Nat → Nat} {D : Nat → Nat × Nat} {n : Nat} {m : xM} {P : xPo} {PX : xPx} {q : Nat → Int} {N : Nat} {X : pX}  {mY : xM} (hn : nn3 (pst q N X)) (hRY : RS q N (pst q N X) mY) (hg : ag [80, 81, 82, 83, 84, 85] m mY) (hP : ∀ m', ag [80, 81, 82, 83, 84, 85] m m' → RS q N (pnd q N 59 (pst q N X)) m' → P none (gS f D n) m') : xX E (("readStatement", none, []), (20, 0, 0), P, PX) RX3 cX3_readStatement 2 0 0 157 [(0, vr E 80)] [] (gS f D n) mY := by
  refine x_aload_n dX3_readStatement_157 rfl ?_
  refine x_bipush dX3_readStatement_158 (h := ?_)
  refine x_V1 mX3_89 dX3_readStatement_160 rfl (s_needSign (by omega) (hRY.get hn).1 (fun m5 hc5 hS5 => ?_))
  exact x_vret dX3_readStatement_163 (hP m5 (hg.tr1 (hc5.1.wk (by decide))) (hRY.leaf hn hS5 hc5 pnd_r pnd_0))

set_option maxRecDepth 20000 in
theorem s_readStatement {E : xE} {f : Nat → Nat} {D : Nat → Nat × Nat} {n : Nat} {m : xM} {P : xPo} {PX : xPx} {q : Nat → Int} {N : Nat} {X : pX}  {w3 w4 w5 : Nat} (hL : eL E) (hX : X.1 = 0) (hN : X.2.2.1 ≤ N) (hN6 : N ≤ 600) (hh2 : 2 ≤ X.2.2.1) (hK : pK X.2.2.2) (hw3 : X.2.2.2 3 = (w3 : Int)) (hw4 : X.2.2.2 4 = (w4 : Int)) (hw5 : X.2.2.2 5 = (w5 : Int)) (hR : RC q N X (3 * w3) (6 * w4) (8 * w5) m) (hP : ∀ m', ag [80, 81, 82, 83, 84, 85] m m' → RS q N (pnd q N 59 (pst q N X)) m' → P none (gS f D n) m') : xC E (yX3_readStatement, cX3_readStatement, 2, none) 20 0 0 [vr E 80] (gS f D n) m P PX := by
  refine x_enter (by decide) rfl rfl (Nat.le_of_ble_eq_true rfl) ?_
  have hww : ((3 * w3 : Nat) : Int) = 3 * X.2.2.2 3 ∧ ((6 * w4 : Nat) : Int) = 6 * X.2.2.2 4 ∧ ((8 * w5 : Nat) : Int) = 8 * X.2.2.2 5 := by omega
  have hv3 := hK.1.1.2.2.2.1.1
  have hv4 := hK.1.1.2.2.2.2.1.1
  have hv5 := hK.1.1.2.2.2.2.2.1
  obtain ⟨-, k0, k1, k2, k3, k4⟩ := id hK
  have hnn : nn3 (pst q N X) := fun z => by have kk := (pst_K hX hN hN6 hK z).1.1.1; exact ⟨kk.2.2.2.1.1.1, kk.2.2.2.2.1.1.1, kk.2.2.2.2.2.1.1⟩
  obtain ⟨p0, -, -, p3, p4, -⟩ := hR.2.2 hX
  refine x_aload_n dX3_readStatement_0 rfl ?_
  refine x_V0 mX3_93 dX3_readStatement_1 rfl (s_skipBlanks hR.1 (fun m1 hc1 hS1 => ?_))
  have hR1 : RC q N (pskip q N X) (3 * w3) (6 * w4) (8 * w5) m1 := hR.leaf hS1 (hc1.wk (by decide)) pskip_r (fun _ => hX)
  have hg1 : ag [80, 81, 82, 83, 84, 85] m m1 := hc1.1.wk (by decide)
  obtain ⟨⟨a1, ha1, haN1, hah1⟩, -⟩ := id hS1
  have haS : a1 = skp q N X.2.2.1 := (hah1 (pskip_1.trans hX)).trans (by rw [pskip_0 hX]; rfl)
  refine x_aload_n dX3_readStatement_4 rfl ?_
  refine x_getI fX3_26 dX3_readStatement_5 rfl ?_
  refine x_top (ha1) ?_
  refine x_istore_n dX3_readStatement_8 ?_
  refine x_aload_n dX3_readStatement_9 rfl ?_
  refine x_ldcS kX3_96 dX3_readStatement_10 ?_
  refine x_V1 mX3_76 dX3_readStatement_12 rfl (s_takesWord (i := 1) (by omega) hS1 (fun m2 hc2 hS2 => ?_))
  rw [pwX_s hX hN] at hS2
  have hR2 : RC q N (pwX q N 1 X) (3 * w3) (6 * w4) (8 * w5) m2 := hR1.leaf hS2 (hc2.wk (by decide)) (pwX_r.trans pskip_r.symm) (fun z => pskip_1.trans (pwX_0.symm.trans z))
  have hg2 : ag [80, 81, 82, 83, 84, 85] m m2 := hg1.tr1 (hc2.1.wk (by decide))
  refine x_if_eq (tgt := 26) dX3_readStatement_15 (by decide) (zi_r _) (fun h15 => ?_) (fun h15 => ?_)
  · have hn1 := fun z => zi_0.mp h15 ((pwT_s hX hN).mpr z)
    rw [pwX_f hn1] at hS2 hR2
    refine x_aload_n dX3_readStatement_26 rfl ?_
    refine x_ldcS kX3_101 dX3_readStatement_27 ?_
    refine x_V1 mX3_76 dX3_readStatement_29 rfl (s_takesWord (i := 2) (by omega) hS2 (fun m3 hc3 hS3 => ?_))
    rw [pwX_s hX hN] at hS3
    have hR3 : RC q N (pwX q N 2 X) (3 * w3) (6 * w4) (8 * w5) m3 := hR2.leaf hS3 (hc3.wk (by decide)) (pwX_r.trans pskip_r.symm) (fun z => pskip_1.trans (pwX_0.symm.trans z))
    have hg3 : ag [80, 81, 82, 83, 84, 85] m m3 := hg2.tr1 (hc3.1.wk (by decide))
    refine x_if_eq (tgt := 43) dX3_readStatement_32 (by decide) (zi_r _) (fun h32 => ?_) (fun h32 => ?_)
    · have hn2 := fun z => zi_0.mp h32 ((pwT_s hX hN).mpr z)
      rw [pwX_f hn2] at hS3 hR3
      refine x_aload_n dX3_readStatement_43 rfl ?_
      refine x_ldcS kX3_106 dX3_readStatement_44 ?_
      refine x_V1 mX3_76 dX3_readStatement_46 rfl (s_takesWord (i := 4) (by omega) hS3 (fun m4 hc4 hS4 => ?_))
      rw [pwX_s hX hN] at hS4
      have hR4 : RC q N (pwX q N 4 X) (3 * w3) (6 * w4) (8 * w5) m4 := hR3.leaf hS4 (hc4.wk (by decide)) (pwX_r.trans pskip_r.symm) (fun z => pskip_1.trans (pwX_0.symm.trans z))
      have hg4 : ag [80, 81, 82, 83, 84, 85] m m4 := hg3.tr1 (hc4.1.wk (by decide))
      refine x_if_eq (tgt := 60) dX3_readStatement_49 (by decide) (zi_r _) (fun h49 => ?_) (fun h49 => ?_)
      · have hn4 := fun z => zi_0.mp h49 ((pwT_s hX hN).mpr z)
        rw [pwX_f hn4] at hS4 hR4
        refine x_aload_n dX3_readStatement_60 rfl ?_
        refine x_getI fX3_42 dX3_readStatement_61 rfl ?_
        refine x_top (((hR4.2.2 (pskip_1.trans hX)).1).trans (by rw [pskip_r])) ?_
        refine x_if_ne (tgt := 84) dX3_readStatement_64 (by decide) (by have := hK.1.2.1; omega) (fun h64 => ?_) (fun h64 => ?_)
        · have c4 : ¬ (X.2.2.2 900 = 0 ∧ pwT q N 6 X) := fun z => h64 (k3 z.1)
          refine x_aload_n dX3_readStatement_84 rfl ?_
          refine x_getI fX3_45 dX3_readStatement_85 rfl ?_
          refine x_top (((hR4.2.2 (pskip_1.trans hX)).2.2.2.1).trans (by rw [pskip_r])) ?_
          refine x_if_ne (tgt := 123) dX3_readStatement_88 (by decide) (by omega) (fun h88 => ?_) (fun h88 => ?_)
          · have c5 : ¬ (X.2.2.2 901 = 0 ∧ pwT q N 11 X) := fun z => h88 z.1
            refine x_aload_n dX3_readStatement_123 rfl ?_
            refine x_getI fX3_49 dX3_readStatement_124 rfl ?_
            refine x_top (((hR4.2.2 (pskip_1.trans hX)).2.2.2.2.1).trans (by rw [pskip_r])) ?_
            refine x_if_ne (tgt := 151) dX3_readStatement_127 (by decide) (by omega) (fun h127 => ?_) (fun h127 => ?_)
            · have c6 : ¬ (X.2.2.2 902 = 0 ∧ pwT q N 12 X) := fun z => h127 z.1
              refine x_aload_n dX3_readStatement_151 rfl ?_
              refine x_iconst dX3_readStatement_152 ?_
              refine x_iload_n dX3_readStatement_153 rfl ?_
              refine x_V2 mX3_80 dX3_readStatement_154 rfl (s_note (k := 1) (p := a1) (by omega) hS4 (fun m9 hc9 hS9 => ?_))
              exact x_loc (lv' := [(0, vr E 80)]) ⟨rfl, trivial⟩ (st_157 hnn (mY := m9) (by rw [pst_7 hX hn1 hn2 hn4 c4 c5 c6, ← haS]; exact RS.of (hR4.of3 (pskip_1.trans hX) (by decide) hS9 hc9 (a' := 0) (b' := 0) (c' := 0)) (fun z => absurd z (by show (1 : Nat) ≠ 0; omega))) (hg4.tr1 (hc9.1.wk (by decide))) hP)
            · have h902 : X.2.2.2 902 = 0 := h127
              refine x_aload_n dX3_readStatement_130 rfl ?_
              refine x_ldcS kX3_120 dX3_readStatement_131 ?_
              refine x_V1 mX3_76 dX3_readStatement_133 rfl (s_takesWord (i := 12) (by omega) hS4 (fun m7 hc7 hS7 => ?_))
              rw [pwX_s hX hN] at hS7
              have hR7 : RC q N (pwX q N 12 X) (3 * w3) (6 * w4) (8 * w5) m7 := hR4.leaf hS7 (hc7.wk (by decide)) (pwX_r.trans pskip_r.symm) (fun z => pskip_1.trans (pwX_0.symm.trans z))
              have hg7 : ag [80, 81, 82, 83, 84, 85] m m7 := hg4.tr1 (hc7.1.wk (by decide))
              refine x_if_eq (tgt := 151) dX3_readStatement_136 (by decide) (zi_r _) (fun h136 => ?_) (fun h136 => ?_)
              · have hn12 := fun z => zi_0.mp h136 ((pwT_s hX hN).mpr z)
                rw [pwX_f hn12] at hS7 hR7
                have c6 : ¬ (X.2.2.2 902 = 0 ∧ pwT q N 12 X) := fun z => hn12 z.2
                refine x_aload_n dX3_readStatement_151 rfl ?_
                refine x_iconst dX3_readStatement_152 ?_
                refine x_iload_n dX3_readStatement_153 rfl ?_
                refine x_V2 mX3_80 dX3_readStatement_154 rfl (s_note (k := 1) (p := a1) (by omega) hS7 (fun m9 hc9 hS9 => ?_))
                exact x_loc (lv' := [(0, vr E 80)]) ⟨rfl, trivial⟩ (st_157 hnn (mY := m9) (by rw [pst_7 hX hn1 hn2 hn4 c4 c5 c6, ← haS]; exact RS.of (hR7.of3 (pskip_1.trans hX) (by decide) hS9 hc9 (a' := 0) (b' := 0) (c' := 0)) (fun z => absurd z (by show (1 : Nat) ≠ 0; omega))) (hg7.tr1 (hc9.1.wk (by decide))) hP)
              · have hy12 := (pwT_s hX hN).mp (zi_1.mp h136)
                refine x_aload_n dX3_readStatement_139 rfl ?_
                refine x_iconst dX3_readStatement_140 ?_
                refine x_putZ fX3_49 dX3_readStatement_141 rfl (by decide) rfl rfl (by omega) ?_
                have hR9 := hR7.tl (by omega) (by omega) (by omega) (Or.inr ⟨rfl, rfl⟩)
                have hgg : ag [80, 81, 82, 83, 84, 85] m (xu m7 80 7 1) := hg7.u (by decide)
                refine x_aload_n dX3_readStatement_144 rfl ?_
                refine x_V0 mX3_122 dX3_readStatement_145 rfl (s_readSurge (by omega) (by omega) (by omega) hR9 (fun m8 hg8 hR8 => ?_))
                refine x_goto (tgt := 157) dX3_readStatement_148 (by decide) ?_
                exact x_loc (lv' := [(0, vr E 80)]) ⟨rfl, trivial⟩ (st_157 hnn (mY := m8) (by rw [pst_6 hn1 hn2 hn4 c4 c5 h902 hy12]; exact RS.of hR8 (fun z => by rw [psrg_o (by omega), psrg_o (by omega), psrg_o (by omega), pset_ne (by omega), pset_ne (by omega), pset_ne (by omega), pwX_r]; exact hww)) (hgg.tr1 (hg8.wk (by decide))) hP)
          · have h901 : X.2.2.2 901 = 0 := h88
            refine x_aload_n dX3_readStatement_91 rfl ?_
            refine x_ldcS kX3_116 dX3_readStatement_92 ?_
            refine x_V1 mX3_76 dX3_readStatement_94 rfl (s_takesWord (i := 11) (by omega) hS4 (fun m6 hc6 hS6 => ?_))
            rw [pwX_s hX hN] at hS6
            have hR6 : RC q N (pwX q N 11 X) (3 * w3) (6 * w4) (8 * w5) m6 := hR4.leaf hS6 (hc6.wk (by decide)) (pwX_r.trans pskip_r.symm) (fun z => pskip_1.trans (pwX_0.symm.trans z))
            have hg6 : ag [80, 81, 82, 83, 84, 85] m m6 := hg4.tr1 (hc6.1.wk (by decide))
            refine x_if_eq (tgt := 123) dX3_readStatement_97 (by decide) (zi_r _) (fun h97 => ?_) (fun h97 => ?_)
            · have hn11 := fun z => zi_0.mp h97 ((pwT_s hX hN).mpr z)
              rw [pwX_f hn11] at hS6 hR6
              have c5 : ¬ (X.2.2.2 901 = 0 ∧ pwT q N 11 X) := fun z => hn11 z.2
              refine x_aload_n dX3_readStatement_123 rfl ?_
              refine x_getI fX3_49 dX3_readStatement_124 rfl ?_
              refine x_top (((hR6.2.2 (pskip_1.trans hX)).2.2.2.2.1).trans (by rw [pskip_r])) ?_
              refine x_if_ne (tgt := 151) dX3_readStatement_127 (by decide) (by omega) (fun h127 => ?_) (fun h127 => ?_)
              · have c6 : ¬ (X.2.2.2 902 = 0 ∧ pwT q N 12 X) := fun z => h127 z.1
                refine x_aload_n dX3_readStatement_151 rfl ?_
                refine x_iconst dX3_readStatement_152 ?_
                refine x_iload_n dX3_readStatement_153 rfl ?_
                refine x_V2 mX3_80 dX3_readStatement_154 rfl (s_note (k := 1) (p := a1) (by omega) hS6 (fun m9 hc9 hS9 => ?_))
                exact x_loc (lv' := [(0, vr E 80)]) ⟨rfl, trivial⟩ (st_157 hnn (mY := m9) (by rw [pst_7 hX hn1 hn2 hn4 c4 c5 c6, ← haS]; exact RS.of (hR6.of3 (pskip_1.trans hX) (by decide) hS9 hc9 (a' := 0) (b' := 0) (c' := 0)) (fun z => absurd z (by show (1 : Nat) ≠ 0; omega))) (hg6.tr1 (hc9.1.wk (by decide))) hP)
              · have h902 : X.2.2.2 902 = 0 := h127
                refine x_aload_n dX3_readStatement_130 rfl ?_
                refine x_ldcS kX3_120 dX3_readStatement_131 ?_
                refine x_V1 mX3_76 dX3_readStatement_133 rfl (s_takesWord (i := 12) (by omega) hS6 (fun m7 hc7 hS7 => ?_))
                rw [pwX_s hX hN] at hS7
                have hR7 : RC q N (pwX q N 12 X) (3 * w3) (6 * w4) (8 * w5) m7 := hR6.leaf hS7 (hc7.wk (by decide)) (pwX_r.trans pskip_r.symm) (fun z => pskip_1.trans (pwX_0.symm.trans z))
                have hg7 : ag [80, 81, 82, 83, 84, 85] m m7 := hg6.tr1 (hc7.1.wk (by decide))
                refine x_if_eq (tgt := 151) dX3_readStatement_136 (by decide) (zi_r _) (fun h136 => ?_) (fun h136 => ?_)
                · have hn12 := fun z => zi_0.mp h136 ((pwT_s hX hN).mpr z)
                  rw [pwX_f hn12] at hS7 hR7
                  have c6 : ¬ (X.2.2.2 902 = 0 ∧ pwT q N 12 X) := fun z => hn12 z.2
                  refine x_aload_n dX3_readStatement_151 rfl ?_
                  refine x_iconst dX3_readStatement_152 ?_
                  refine x_iload_n dX3_readStatement_153 rfl ?_
                  refine x_V2 mX3_80 dX3_readStatement_154 rfl (s_note (k := 1) (p := a1) (by omega) hS7 (fun m9 hc9 hS9 => ?_))
                  exact x_loc (lv' := [(0, vr E 80)]) ⟨rfl, trivial⟩ (st_157 hnn (mY := m9) (by rw [pst_7 hX hn1 hn2 hn4 c4 c5 c6, ← haS]; exact RS.of (hR7.of3 (pskip_1.trans hX) (by decide) hS9 hc9 (a' := 0) (b' := 0) (c' := 0)) (fun z => absurd z (by show (1 : Nat) ≠ 0; omega))) (hg7.tr1 (hc9.1.wk (by decide))) hP)
                · have hy12 := (pwT_s hX hN).mp (zi_1.mp h136)
                  refine x_aload_n dX3_readStatement_139 rfl ?_
                  refine x_iconst dX3_readStatement_140 ?_
                  refine x_putZ fX3_49 dX3_readStatement_141 rfl (by decide) rfl rfl (by omega) ?_
                  have hR9 := hR7.tl (by omega) (by omega) (by omega) (Or.inr ⟨rfl, rfl⟩)
                  have hgg : ag [80, 81, 82, 83, 84, 85] m (xu m7 80 7 1) := hg7.u (by decide)
                  refine x_aload_n dX3_readStatement_144 rfl ?_
                  refine x_V0 mX3_122 dX3_readStatement_145 rfl (s_readSurge (by omega) (by omega) (by omega) hR9 (fun m8 hg8 hR8 => ?_))
                  refine x_goto (tgt := 157) dX3_readStatement_148 (by decide) ?_
                  exact x_loc (lv' := [(0, vr E 80)]) ⟨rfl, trivial⟩ (st_157 hnn (mY := m8) (by rw [pst_6 hn1 hn2 hn4 c4 c5 h902 hy12]; exact RS.of hR8 (fun z => by rw [psrg_o (by omega), psrg_o (by omega), psrg_o (by omega), pset_ne (by omega), pset_ne (by omega), pset_ne (by omega), pwX_r]; exact hww)) (hgg.tr1 (hg8.wk (by decide))) hP)
            · have hy11 := (pwT_s hX hN).mp (zi_1.mp h97)
              refine x_aload_n dX3_readStatement_100 rfl ?_
              refine x_iconst dX3_readStatement_101 ?_
              refine x_putZ fX3_45 dX3_readStatement_102 rfl (by decide) rfl rfl (by omega) ?_
              have hR7 := hR6.tl (by omega) (by omega) (by omega) (Or.inl ⟨rfl, rfl⟩)
              have hgg : ag [80, 81, 82, 83, 84, 85] m (xu m6 80 6 1) := hg6.u (by decide)
              refine x_aload_n dX3_readStatement_105 rfl ?_
              refine x_getR (r := 82) fX3_18 dX3_readStatement_106 rfl rfl ?_
              refine x_aload_n dX3_readStatement_109 rfl ?_
              refine x_iconst dX3_readStatement_110 ?_
              refine x_sipush dX3_readStatement_111 (h := ?_)
              refine x_V2 mX3_84 dX3_readStatement_114 rfl (s_readNumber (by omega) (by omega) hR7.1 (fun m8 v8 hc8 hS8 hv8 hb8 => ?_))
              have hR8 := hR7.leaf hS8 hc8 pnX_r pnX_0
              refine x_putI fX3_118 dX3_readStatement_117 rfl (by decide) rfl rfl ?_
              refine x_goto (tgt := 157) dX3_readStatement_120 (by decide) ?_
              exact x_loc (lv' := [(0, vr E 80)]) ⟨rfl, trivial⟩ (st_157 hnn (mY := _) (by rw [pst_5 hn1 hn2 hn4 c4 h901 hy11]; exact RS.of (hR8.h82 (z := pnV q N (pset 901 1 (pwX q N 11 X))) (z' := v8) (by omega) (by omega) (by omega) (by omega) (fun z => hv8 z)) (fun z => by rw [pnum_o (by omega), pnum_o (by omega), pnum_o (by omega), pset_ne (by omega), pset_ne (by omega), pset_ne (by omega), pwX_r]; exact hww)) ((hgg.tr1 (hc8.1.wk (by decide))).u (by decide)) hP)
        · have h108 : X.2.2.2 108 = 0 := h64
          have h900 : X.2.2.2 900 = 0 := by rcases k0 with z | z; exact z; (have := k4 z; omega)
          refine x_aload_n dX3_readStatement_67 rfl ?_
          refine x_ldcS kX3_111 dX3_readStatement_68 ?_
          refine x_V1 mX3_76 dX3_readStatement_70 rfl (s_takesWord (i := 6) (by omega) hS4 (fun m5 hc5 hS5 => ?_))
          rw [pwX_s hX hN] at hS5
          have hR5 : RC q N (pwX q N 6 X) (3 * w3) (6 * w4) (8 * w5) m5 := hR4.leaf hS5 (hc5.wk (by decide)) (pwX_r.trans pskip_r.symm) (fun z => pskip_1.trans (pwX_0.symm.trans z))
          have hg5 : ag [80, 81, 82, 83, 84, 85] m m5 := hg4.tr1 (hc5.1.wk (by decide))
          refine x_if_eq (tgt := 84) dX3_readStatement_73 (by decide) (zi_r _) (fun h73 => ?_) (fun h73 => ?_)
          · have hn6 := fun z => zi_0.mp h73 ((pwT_s hX hN).mpr z)
            rw [pwX_f hn6] at hS5 hR5
            have c4 : ¬ (X.2.2.2 900 = 0 ∧ pwT q N 6 X) := fun z => hn6 z.2
            refine x_aload_n dX3_readStatement_84 rfl ?_
            refine x_getI fX3_45 dX3_readStatement_85 rfl ?_
            refine x_top (((hR5.2.2 (pskip_1.trans hX)).2.2.2.1).trans (by rw [pskip_r])) ?_
            refine x_if_ne (tgt := 123) dX3_readStatement_88 (by decide) (by omega) (fun h88 => ?_) (fun h88 => ?_)
            · have c5 : ¬ (X.2.2.2 901 = 0 ∧ pwT q N 11 X) := fun z => h88 z.1
              refine x_aload_n dX3_readStatement_123 rfl ?_
              refine x_getI fX3_49 dX3_readStatement_124 rfl ?_
              refine x_top (((hR5.2.2 (pskip_1.trans hX)).2.2.2.2.1).trans (by rw [pskip_r])) ?_
              refine x_if_ne (tgt := 151) dX3_readStatement_127 (by decide) (by omega) (fun h127 => ?_) (fun h127 => ?_)
              · have c6 : ¬ (X.2.2.2 902 = 0 ∧ pwT q N 12 X) := fun z => h127 z.1
                refine x_aload_n dX3_readStatement_151 rfl ?_
                refine x_iconst dX3_readStatement_152 ?_
                refine x_iload_n dX3_readStatement_153 rfl ?_
                refine x_V2 mX3_80 dX3_readStatement_154 rfl (s_note (k := 1) (p := a1) (by omega) hS5 (fun m9 hc9 hS9 => ?_))
                exact x_loc (lv' := [(0, vr E 80)]) ⟨rfl, trivial⟩ (st_157 hnn (mY := m9) (by rw [pst_7 hX hn1 hn2 hn4 c4 c5 c6, ← haS]; exact RS.of (hR5.of3 (pskip_1.trans hX) (by decide) hS9 hc9 (a' := 0) (b' := 0) (c' := 0)) (fun z => absurd z (by show (1 : Nat) ≠ 0; omega))) (hg5.tr1 (hc9.1.wk (by decide))) hP)
              · have h902 : X.2.2.2 902 = 0 := h127
                refine x_aload_n dX3_readStatement_130 rfl ?_
                refine x_ldcS kX3_120 dX3_readStatement_131 ?_
                refine x_V1 mX3_76 dX3_readStatement_133 rfl (s_takesWord (i := 12) (by omega) hS5 (fun m7 hc7 hS7 => ?_))
                rw [pwX_s hX hN] at hS7
                have hR7 : RC q N (pwX q N 12 X) (3 * w3) (6 * w4) (8 * w5) m7 := hR5.leaf hS7 (hc7.wk (by decide)) (pwX_r.trans pskip_r.symm) (fun z => pskip_1.trans (pwX_0.symm.trans z))
                have hg7 : ag [80, 81, 82, 83, 84, 85] m m7 := hg5.tr1 (hc7.1.wk (by decide))
                refine x_if_eq (tgt := 151) dX3_readStatement_136 (by decide) (zi_r _) (fun h136 => ?_) (fun h136 => ?_)
                · have hn12 := fun z => zi_0.mp h136 ((pwT_s hX hN).mpr z)
                  rw [pwX_f hn12] at hS7 hR7
                  have c6 : ¬ (X.2.2.2 902 = 0 ∧ pwT q N 12 X) := fun z => hn12 z.2
                  refine x_aload_n dX3_readStatement_151 rfl ?_
                  refine x_iconst dX3_readStatement_152 ?_
                  refine x_iload_n dX3_readStatement_153 rfl ?_
                  refine x_V2 mX3_80 dX3_readStatement_154 rfl (s_note (k := 1) (p := a1) (by omega) hS7 (fun m9 hc9 hS9 => ?_))
                  exact x_loc (lv' := [(0, vr E 80)]) ⟨rfl, trivial⟩ (st_157 hnn (mY := m9) (by rw [pst_7 hX hn1 hn2 hn4 c4 c5 c6, ← haS]; exact RS.of (hR7.of3 (pskip_1.trans hX) (by decide) hS9 hc9 (a' := 0) (b' := 0) (c' := 0)) (fun z => absurd z (by show (1 : Nat) ≠ 0; omega))) (hg7.tr1 (hc9.1.wk (by decide))) hP)
                · have hy12 := (pwT_s hX hN).mp (zi_1.mp h136)
                  refine x_aload_n dX3_readStatement_139 rfl ?_
                  refine x_iconst dX3_readStatement_140 ?_
                  refine x_putZ fX3_49 dX3_readStatement_141 rfl (by decide) rfl rfl (by omega) ?_
                  have hR9 := hR7.tl (by omega) (by omega) (by omega) (Or.inr ⟨rfl, rfl⟩)
                  have hgg : ag [80, 81, 82, 83, 84, 85] m (xu m7 80 7 1) := hg7.u (by decide)
                  refine x_aload_n dX3_readStatement_144 rfl ?_
                  refine x_V0 mX3_122 dX3_readStatement_145 rfl (s_readSurge (by omega) (by omega) (by omega) hR9 (fun m8 hg8 hR8 => ?_))
                  refine x_goto (tgt := 157) dX3_readStatement_148 (by decide) ?_
                  exact x_loc (lv' := [(0, vr E 80)]) ⟨rfl, trivial⟩ (st_157 hnn (mY := m8) (by rw [pst_6 hn1 hn2 hn4 c4 c5 h902 hy12]; exact RS.of hR8 (fun z => by rw [psrg_o (by omega), psrg_o (by omega), psrg_o (by omega), pset_ne (by omega), pset_ne (by omega), pset_ne (by omega), pwX_r]; exact hww)) (hgg.tr1 (hg8.wk (by decide))) hP)
            · have h901 : X.2.2.2 901 = 0 := h88
              refine x_aload_n dX3_readStatement_91 rfl ?_
              refine x_ldcS kX3_116 dX3_readStatement_92 ?_
              refine x_V1 mX3_76 dX3_readStatement_94 rfl (s_takesWord (i := 11) (by omega) hS5 (fun m6 hc6 hS6 => ?_))
              rw [pwX_s hX hN] at hS6
              have hR6 : RC q N (pwX q N 11 X) (3 * w3) (6 * w4) (8 * w5) m6 := hR5.leaf hS6 (hc6.wk (by decide)) (pwX_r.trans pskip_r.symm) (fun z => pskip_1.trans (pwX_0.symm.trans z))
              have hg6 : ag [80, 81, 82, 83, 84, 85] m m6 := hg5.tr1 (hc6.1.wk (by decide))
              refine x_if_eq (tgt := 123) dX3_readStatement_97 (by decide) (zi_r _) (fun h97 => ?_) (fun h97 => ?_)
              · have hn11 := fun z => zi_0.mp h97 ((pwT_s hX hN).mpr z)
                rw [pwX_f hn11] at hS6 hR6
                have c5 : ¬ (X.2.2.2 901 = 0 ∧ pwT q N 11 X) := fun z => hn11 z.2
                refine x_aload_n dX3_readStatement_123 rfl ?_
                refine x_getI fX3_49 dX3_readStatement_124 rfl ?_
                refine x_top (((hR6.2.2 (pskip_1.trans hX)).2.2.2.2.1).trans (by rw [pskip_r])) ?_
                refine x_if_ne (tgt := 151) dX3_readStatement_127 (by decide) (by omega) (fun h127 => ?_) (fun h127 => ?_)
                · have c6 : ¬ (X.2.2.2 902 = 0 ∧ pwT q N 12 X) := fun z => h127 z.1
                  refine x_aload_n dX3_readStatement_151 rfl ?_
                  refine x_iconst dX3_readStatement_152 ?_
                  refine x_iload_n dX3_readStatement_153 rfl ?_
                  refine x_V2 mX3_80 dX3_readStatement_154 rfl (s_note (k := 1) (p := a1) (by omega) hS6 (fun m9 hc9 hS9 => ?_))
                  exact x_loc (lv' := [(0, vr E 80)]) ⟨rfl, trivial⟩ (st_157 hnn (mY := m9) (by rw [pst_7 hX hn1 hn2 hn4 c4 c5 c6, ← haS]; exact RS.of (hR6.of3 (pskip_1.trans hX) (by decide) hS9 hc9 (a' := 0) (b' := 0) (c' := 0)) (fun z => absurd z (by show (1 : Nat) ≠ 0; omega))) (hg6.tr1 (hc9.1.wk (by decide))) hP)
                · have h902 : X.2.2.2 902 = 0 := h127
                  refine x_aload_n dX3_readStatement_130 rfl ?_
                  refine x_ldcS kX3_120 dX3_readStatement_131 ?_
                  refine x_V1 mX3_76 dX3_readStatement_133 rfl (s_takesWord (i := 12) (by omega) hS6 (fun m7 hc7 hS7 => ?_))
                  rw [pwX_s hX hN] at hS7
                  have hR7 : RC q N (pwX q N 12 X) (3 * w3) (6 * w4) (8 * w5) m7 := hR6.leaf hS7 (hc7.wk (by decide)) (pwX_r.trans pskip_r.symm) (fun z => pskip_1.trans (pwX_0.symm.trans z))
                  have hg7 : ag [80, 81, 82, 83, 84, 85] m m7 := hg6.tr1 (hc7.1.wk (by decide))
                  refine x_if_eq (tgt := 151) dX3_readStatement_136 (by decide) (zi_r _) (fun h136 => ?_) (fun h136 => ?_)
                  · have hn12 := fun z => zi_0.mp h136 ((pwT_s hX hN).mpr z)
                    rw [pwX_f hn12] at hS7 hR7
                    have c6 : ¬ (X.2.2.2 902 = 0 ∧ pwT q N 12 X) := fun z => hn12 z.2
                    refine x_aload_n dX3_readStatement_151 rfl ?_
                    refine x_iconst dX3_readStatement_152 ?_
                    refine x_iload_n dX3_readStatement_153 rfl ?_
                    refine x_V2 mX3_80 dX3_readStatement_154 rfl (s_note (k := 1) (p := a1) (by omega) hS7 (fun m9 hc9 hS9 => ?_))
                    exact x_loc (lv' := [(0, vr E 80)]) ⟨rfl, trivial⟩ (st_157 hnn (mY := m9) (by rw [pst_7 hX hn1 hn2 hn4 c4 c5 c6, ← haS]; exact RS.of (hR7.of3 (pskip_1.trans hX) (by decide) hS9 hc9 (a' := 0) (b' := 0) (c' := 0)) (fun z => absurd z (by show (1 : Nat) ≠ 0; omega))) (hg7.tr1 (hc9.1.wk (by decide))) hP)
                  · have hy12 := (pwT_s hX hN).mp (zi_1.mp h136)
                    refine x_aload_n dX3_readStatement_139 rfl ?_
                    refine x_iconst dX3_readStatement_140 ?_
                    refine x_putZ fX3_49 dX3_readStatement_141 rfl (by decide) rfl rfl (by omega) ?_
                    have hR9 := hR7.tl (by omega) (by omega) (by omega) (Or.inr ⟨rfl, rfl⟩)
                    have hgg : ag [80, 81, 82, 83, 84, 85] m (xu m7 80 7 1) := hg7.u (by decide)
                    refine x_aload_n dX3_readStatement_144 rfl ?_
                    refine x_V0 mX3_122 dX3_readStatement_145 rfl (s_readSurge (by omega) (by omega) (by omega) hR9 (fun m8 hg8 hR8 => ?_))
                    refine x_goto (tgt := 157) dX3_readStatement_148 (by decide) ?_
                    exact x_loc (lv' := [(0, vr E 80)]) ⟨rfl, trivial⟩ (st_157 hnn (mY := m8) (by rw [pst_6 hn1 hn2 hn4 c4 c5 h902 hy12]; exact RS.of hR8 (fun z => by rw [psrg_o (by omega), psrg_o (by omega), psrg_o (by omega), pset_ne (by omega), pset_ne (by omega), pset_ne (by omega), pwX_r]; exact hww)) (hgg.tr1 (hg8.wk (by decide))) hP)
              · have hy11 := (pwT_s hX hN).mp (zi_1.mp h97)
                refine x_aload_n dX3_readStatement_100 rfl ?_
                refine x_iconst dX3_readStatement_101 ?_
                refine x_putZ fX3_45 dX3_readStatement_102 rfl (by decide) rfl rfl (by omega) ?_
                have hR7 := hR6.tl (by omega) (by omega) (by omega) (Or.inl ⟨rfl, rfl⟩)
                have hgg : ag [80, 81, 82, 83, 84, 85] m (xu m6 80 6 1) := hg6.u (by decide)
                refine x_aload_n dX3_readStatement_105 rfl ?_
                refine x_getR (r := 82) fX3_18 dX3_readStatement_106 rfl rfl ?_
                refine x_aload_n dX3_readStatement_109 rfl ?_
                refine x_iconst dX3_readStatement_110 ?_
                refine x_sipush dX3_readStatement_111 (h := ?_)
                refine x_V2 mX3_84 dX3_readStatement_114 rfl (s_readNumber (by omega) (by omega) hR7.1 (fun m8 v8 hc8 hS8 hv8 hb8 => ?_))
                have hR8 := hR7.leaf hS8 hc8 pnX_r pnX_0
                refine x_putI fX3_118 dX3_readStatement_117 rfl (by decide) rfl rfl ?_
                refine x_goto (tgt := 157) dX3_readStatement_120 (by decide) ?_
                exact x_loc (lv' := [(0, vr E 80)]) ⟨rfl, trivial⟩ (st_157 hnn (mY := _) (by rw [pst_5 hn1 hn2 hn4 c4 h901 hy11]; exact RS.of (hR8.h82 (z := pnV q N (pset 901 1 (pwX q N 11 X))) (z' := v8) (by omega) (by omega) (by omega) (by omega) (fun z => hv8 z)) (fun z => by rw [pnum_o (by omega), pnum_o (by omega), pnum_o (by omega), pset_ne (by omega), pset_ne (by omega), pset_ne (by omega), pwX_r]; exact hww)) ((hgg.tr1 (hc8.1.wk (by decide))).u (by decide)) hP)
          · have hy6 := (pwT_s hX hN).mp (zi_1.mp h73)
            refine x_aload_n dX3_readStatement_76 rfl ?_
            refine x_iconst dX3_readStatement_77 ?_
            refine x_top (show (0 : Int) = 4 - ((4 : Nat) : Int) by omega) ?_
            refine x_V1 mX3_113 dX3_readStatement_78 rfl (s_readSum4 (pset 900 1 (pwX q N 6 X)) (3 * w3) (6 * w4) (8 * w5) m5 _ _ (pwX_0.trans hX) ⟨by have := pwX_p (by omega) hN hy6; exact this.2, by rw [pset_ne (by omega), pwX_r]; omega, by rw [pset_ne (by omega), pwX_r]; have := (pwX_p (by omega) hN hy6).1; show _ ≤ 600 + ((pwX q N 6 X).2.2.1 : Int); omega⟩ (by omega) (by omega) (by omega) (hR5.t0 (by omega) (by omega) (by omega)) (fun m8 hg8 hR8 => ?_))
            refine x_goto (tgt := 157) dX3_readStatement_81 (by decide) ?_
            exact x_loc (lv' := [(0, vr E 80)]) ⟨rfl, trivial⟩ (st_157 hnn (mY := m8) (by rw [pst_4 hn1 hn2 hn4 h900 hy6]; exact RS.of hR8 (fun z => by obtain ⟨-, -, -, n1, n2, -, -, -, -, e5, -, -⟩ := psm4_q (q := q) (N := N) (X := pset 900 1 (pwX q N 6 X)) (pwX_0.trans hX) (by rw [pwX_t hy6]; exact hy6.2.1) (by rw [pset_ne (by omega), pwX_r]; exact h108) z; rw [e5 3 (by omega) (by omega), e5 4 (by omega) (by omega), e5 5 (by omega) (by omega), pset_ne (by omega), pset_ne (by omega), pset_ne (by omega), pwX_r]; omega)) (hg5.tr1 (hg8.wk (by decide))) hP)
      · have hy4 := (pwT_s hX hN).mp (zi_1.mp h49)
        refine x_aload_n dX3_readStatement_52 rfl ?_
        refine x_iload_n dX3_readStatement_53 rfl ?_
        refine x_V1 mX3_108 dX3_readStatement_54 rfl (s_readShip (c := 0) (w := w5) (p := a1) hL (pwX_0.trans hX) (by rw [pwX_r]; exact hw5) (by omega) (by omega) (by omega) hR4 (fun m8 hg8 hA8 hB8 => ?_))
        refine x_goto (tgt := 157) dX3_readStatement_57 (by decide) ?_
        exact x_loc (lv' := [(0, vr E 80)]) ⟨rfl, trivial⟩ (st_157 hnn (mY := m8) (by rw [pst_3 hn1 hn2 hy4]; by_cases c : X.2.2.2 5 < 6; (rw [if_pos c]; exact RS.of (hA8 (by omega)) (fun z => by have k := pshp_K (by rw [pwX_t hy4]; exact hy4.2.1) (by rw [pwX_r]; exact hK.1) (by rw [pwX_r]; exact c) z; rw [k.2.2.2.1, k.2.2.2.2 3 (by omega) (by omega), k.2.2.2.2 4 (by omega) (by omega), pwX_r]; omega)); (rw [if_neg c, ← haS]; exact RS.of (hB8 (by omega) 0 0 0 _ _) (fun z => absurd z (by show (3 : Nat) ≠ 0; omega)))) (hg4.tr1 (hg8.wk (by decide))) hP)
    · have hy2 := (pwT_s hX hN).mp (zi_1.mp h32)
      refine x_aload_n dX3_readStatement_35 rfl ?_
      refine x_iload_n dX3_readStatement_36 rfl ?_
      refine x_V1 mX3_103 dX3_readStatement_37 rfl (s_readBar (b := 0) (w := w4) (p := a1) hL (pwX_0.trans hX) (by rw [pwX_r]; exact hw4) (by omega) (by omega) (by omega) hR3 (fun m8 hg8 hA8 hB8 => ?_))
      refine x_goto (tgt := 157) dX3_readStatement_40 (by decide) ?_
      exact x_loc (lv' := [(0, vr E 80)]) ⟨rfl, trivial⟩ (st_157 hnn (mY := m8) (by rw [pst_2 hn1 hy2]; by_cases c : X.2.2.2 4 < 6; (rw [if_pos c]; exact RS.of (hA8 (by omega)) (fun z => by have k := pbar_K (by rw [pwX_t hy2]; exact hy2.2.1) (by rw [pwX_r]; exact hK.1) (by rw [pwX_r]; exact c) z; rw [k.2.2.2.1, k.2.2.2.2 3 (by omega) (by omega), k.2.2.2.2 5 (by omega) (by omega), pwX_r]; omega)); (rw [if_neg c, ← haS]; exact RS.of (hB8 (by omega) 0 0 0 _ _) (fun z => absurd z (by show (3 : Nat) ≠ 0; omega)))) (hg3.tr1 (hg8.wk (by decide))) hP)
  · have hy1 := (pwT_s hX hN).mp (zi_1.mp h15)
    refine x_aload_n dX3_readStatement_18 rfl ?_
    refine x_iload_n dX3_readStatement_19 rfl ?_
    refine x_V1 mX3_98 dX3_readStatement_20 rfl (s_readWave (a := 0) (w := w3) (p := a1) hL (pwX_0.trans hX) (by rw [pwX_r]; exact hw3) (by omega) (by omega) (by omega) hR2 (fun m8 hg8 hA8 hB8 => ?_))
    refine x_goto (tgt := 157) dX3_readStatement_23 (by decide) ?_
    exact x_loc (lv' := [(0, vr E 80)]) ⟨rfl, trivial⟩ (st_157 hnn (mY := m8) (by rw [pst_1 hy1]; by_cases c : X.2.2.2 3 < 6; (rw [if_pos c]; exact RS.of (hA8 (by omega)) (fun z => by have k := pwav_K (by rw [pwX_t hy1]; exact hy1.2.1) (by rw [pwX_r]; exact hK.1) (by rw [pwX_r]; exact c) z; rw [k.2.2.2.1, k.2.2.2.2 4 (by omega) (by omega), k.2.2.2.2 5 (by omega) (by omega), pwX_r]; omega)); (rw [if_neg c, ← haS]; exact RS.of (hB8 (by omega) 0 0 0 _ _) (fun z => absurd z (by show (3 : Nat) ≠ 0; omega)))) (hg2.tr1 (hg8.wk (by decide))) hP)

end CST
