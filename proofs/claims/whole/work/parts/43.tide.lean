section TI
/-- the chart's cells hold what v tells -/
def cA (v : Nat → Int) (m : xM) : Prop := m 41 0 = v 0 ∧ m 41 1 = v 1 ∧ m 41 2 = v 2
def cW (v : Nat → Int) (m : xM) : Prop := m 41 3 = v 3 ∧ ∀ i : Nat, (i : Int) < 3 * v 3 → m 42 i = v (6 + i)
def cB (v : Nat → Int) (m : xM) : Prop := m 41 4 = v 4 ∧ ∀ i : Nat, (i : Int) < 6 * v 4 → m 43 i = v (24 + i)
def cS (v : Nat → Int) (m : xM) : Prop := m 41 5 = v 5 ∧ ∀ i : Nat, (i : Int) < 8 * v 5 → m 44 i = v (60 + i)
def cC (v : Nat → Int) (m : xM) : Prop := cA v m ∧ cW v m ∧ cB v m ∧ cS v m
/-- the waves by their tellings: they lie in v behind what is told, 24 numbers each -/
def gw (v : Nat → Int) (t : Int) : Nat → Int := fun k => v (1000 + 24 * t.toNat + k)
def gws (v : Nat → Int) (t x : Int) : Int := wsum (gw v t) x (gw v t 3).toNat
def cK (v : Nat → Int) (m : xM) : Prop := (∀ p : Nat, p < 15000 → m 87 p = 0 ∨ m 87 p = gws v (m 86 2) ((p : Int) - 300) + 100000) ∧ ∀ x, gws v (m 41 11) x = wsum v x (v 3).toNat
theorem cK.old {v : Nat → Int} {m : xM} (h : cK v m) (e : m 86 2 = m 41 11) (p : Nat) (hp : p < 15000) : m 87 p = 0 ∨ m 87 p = wsum v ((p : Int) - 300) (v 3).toNat + 100000 := by
  rcases h.1 p hp with q | q
  · exact Or.inl q
  · right; rw [q, e, h.2]
theorem cW.w {v : Nat → Int} {m : xM} (h : cW v m) {w j : Nat} (hw : (w : Int) < v 3) (hj : j < 3) : m 42 (3 * w + j) = wv v w j := by
  rw [h.2 (3 * w + j) (by omega)]
  unfold wv
  congr 1
  omega
theorem cB.b {v : Nat → Int} {m : xM} (h : cB v m) {b j : Nat} (hb : (b : Int) < v 4) (hj : j < 6) : m 43 (6 * b + j) = br v b j := by
  rw [h.2 (6 * b + j) (by omega)]
  unfold br
  congr 1
  omega
theorem cS.s {v : Nat → Int} {m : xM} (h : cS v m) {s j : Nat} (hs : (s : Int) < v 5) (hj : j < 8) : m 44 (8 * s + j) = sh v s j := by
  rw [h.2 (8 * s + j) (by omega)]
  unfold sh
  congr 1
  omega
theorem cC.ag {v : Nat → Int} {m m' : xM} {S : List Nat} (h : cC v m) (ha : ag S m m') (h1 : 41 ∉ S) (h2 : 42 ∉ S) (h3 : 43 ∉ S) (h4 : 44 ∉ S) : cC v m' := by
  unfold cC cA cW cB cS at *
  rw [ha 41 h1, ha 42 h2, ha 43 h3, ha 44 h4]
  exact h
set_option maxRecDepth 20000 in
theorem s_partOf {E : xE} {g : xG} {m : xM} {P : xPo} {PX : xPx} {x : Int} (h0 : 0 ≤ x) (h1 : x < 3600) (hP : P (some (vi (prt x))) g m) : xC E (yX4_partOf, cX4_partOf, 4, some .int) 0 0 0 [vi x] g m P PX := by
  refine x_enter (by decide) rfl rfl (Nat.le_of_ble_eq_true rfl) ?_
  refine x_iload_n dX4_partOf_0 rfl ?_
  refine x_sipush dX4_partOf_1 (h := ?_)
  refine x_icmp_ge (tgt := 11) dX4_partOf_4 (by decide) (by omega) (fun h4 => ?_) (fun h4 => ?_)
  · have hb := bow_in (h := x - 1800) (by omega) (by omega)
    refine x_iload_n dX4_partOf_11 rfl ?_
    refine x_sipush dX4_partOf_12 (h := ?_)
    refine x_isub dX4_partOf_15 ?_
    refine x_istore_n dX4_partOf_16 ?_
    refine x_iload_n dX4_partOf_17 rfl ?_
    refine x_sipush dX4_partOf_18 (h := ?_)
    refine x_iload_n dX4_partOf_21 rfl ?_
    refine x_isub dX4_partOf_22 ?_
    refine x_imul dX4_partOf_23 ?_
    refine x_istore_n dX4_partOf_24 ?_
    refine x_ldc2_w kX4_69 dX4_partOf_25 ?_
    refine x_iload_n dX4_partOf_28 rfl ?_
    refine x_i2l dX4_partOf_29 (by omega) ?_
    refine x_lmul dX4_partOf_30 ?_
    refine x_ldc kX4_71 dX4_partOf_31 ?_
    refine x_iload_n dX4_partOf_33 rfl ?_
    refine x_isub dX4_partOf_34 ?_
    refine x_i2l dX4_partOf_35 (by omega) ?_
    refine x_ldiv dX4_partOf_36 (by omega) (by omega) ?_
    refine x_l2i dX4_partOf_37 ?_
    refine x_istore_n dX4_partOf_38 ?_
    refine x_iload_n dX4_partOf_39 rfl ?_
    refine x_sipush dX4_partOf_40 (h := ?_)
    refine x_icmp_ge (tgt := 50) dX4_partOf_43 (by decide) (by omega) (fun h43 => ?_) (fun h43 => ?_)
    · refine x_iload_n dX4_partOf_50 rfl ?_
      refine x_ineg dX4_partOf_51 ?_
      exact x_iret dX4_partOf_52  ((by unfold prt at hP; first | (rw [if_pos (by omega)] at hP; exact hP) | (rw [if_neg (by omega)] at hP; exact hP) | omega))
    · refine x_iload_n dX4_partOf_46 rfl ?_
      refine x_goto (tgt := 52) dX4_partOf_47 (by decide) ?_
      exact x_iret dX4_partOf_52  ((by unfold prt at hP; first | (rw [if_pos (by omega)] at hP; exact hP) | (rw [if_neg (by omega)] at hP; exact hP) | omega))
  · have hb := bow_in (h := x) (by omega) (by omega)
    refine x_iload_n dX4_partOf_7 rfl ?_
    refine x_goto (tgt := 16) dX4_partOf_8 (by decide) ?_
    refine x_istore_n dX4_partOf_16 ?_
    refine x_iload_n dX4_partOf_17 rfl ?_
    refine x_sipush dX4_partOf_18 (h := ?_)
    refine x_iload_n dX4_partOf_21 rfl ?_
    refine x_isub dX4_partOf_22 ?_
    refine x_imul dX4_partOf_23 ?_
    refine x_istore_n dX4_partOf_24 ?_
    refine x_ldc2_w kX4_69 dX4_partOf_25 ?_
    refine x_iload_n dX4_partOf_28 rfl ?_
    refine x_i2l dX4_partOf_29 (by omega) ?_
    refine x_lmul dX4_partOf_30 ?_
    refine x_ldc kX4_71 dX4_partOf_31 ?_
    refine x_iload_n dX4_partOf_33 rfl ?_
    refine x_isub dX4_partOf_34 ?_
    refine x_i2l dX4_partOf_35 (by omega) ?_
    refine x_ldiv dX4_partOf_36 (by omega) (by omega) ?_
    refine x_l2i dX4_partOf_37 ?_
    refine x_istore_n dX4_partOf_38 ?_
    refine x_iload_n dX4_partOf_39 rfl ?_
    refine x_sipush dX4_partOf_40 (h := ?_)
    refine x_icmp_ge (tgt := 50) dX4_partOf_43 (by decide) (by omega) (fun h43 => ?_) (fun h43 => ?_)
    · refine x_iload_n dX4_partOf_50 rfl ?_
      refine x_ineg dX4_partOf_51 ?_
      exact x_iret dX4_partOf_52  ((by unfold prt at hP; first | (rw [if_pos (by omega)] at hP; exact hP) | (rw [if_neg (by omega)] at hP; exact hP) | omega))
    · refine x_iload_n dX4_partOf_46 rfl ?_
      refine x_goto (tgt := 52) dX4_partOf_47 (by decide) ?_
      exact x_iret dX4_partOf_52  ((by unfold prt at hP; first | (rw [if_pos (by omega)] at hP; exact hP) | (rw [if_neg (by omega)] at hP; exact hP) | omega))

set_option maxRecDepth 20000 in
theorem s_sumOfWaves {E : xE} {f : Nat → Nat} {D : Nat → Nat × Nat} {n : Nat} {m : xM} {P : xPo} {PX : xPx} {v : Nat → Int} {t : Int} (hv : wOk v) (hc : cW v m) (ht : -1000 ≤ t ∧ t ≤ 100000) (hP : P (some (vi (wsum v t (v 3).toNat))) (gS f D n) m) : xC E (yX4_sumOfWaves, cX4_sumOfWaves, 6, some .int) 1 0 0 [vr E 86, vi t] (gS f D n) m P PX := by
  refine x_enter (by decide) rfl rfl (Nat.le_of_ble_eq_true rfl) ?_
  have hv3 := hv.1
  have loop : ∀ (j w : Nat), (w : Int) ≤ v 3 → v 3 < (w : Int) + j → xX E (("sumOfWaves", some .int, []), (1, 0, 0), P, PX) RX4 cX4_sumOfWaves 6 0 0 4 [(0, vr E 86), (1, vi t), (2, vi (wsum v t w)), (3, vi (w : Int))] [] (gS f D n) m := by
    intro j
    induction j with
    | zero => intro w h1 h2; omega
    | succ j ih =>
      intro w h1 h2
      refine x_iload_n dX4_sumOfWaves_4 rfl ?_
      refine x_aload_n dX4_sumOfWaves_5 rfl ?_
      refine x_getR (r := 41) fX4_15 dX4_sumOfWaves_6 rfl rfl ?_
      refine x_getI fX4_52 dX4_sumOfWaves_9 rfl ?_
      refine x_top (hc.1) ?_
      refine x_icmp_ge (tgt := 83) dX4_sumOfWaves_12 (by decide) (by omega) (fun h12 => ?_) (fun h12 => ?_)
      · have hw : w = (v 3).toNat := by omega
        refine x_iload_n dX4_sumOfWaves_83 rfl ?_
        exact x_iret dX4_sumOfWaves_84  ((by rw [← hw] at hP; exact hP))
      · have hw : (w : Int) < v 3 := by omega
        obtain ⟨ha, hp, hl⟩ := hv.2 w hw
        have hx := wx_b (a := t - wv v w 2) hp
        have hq := wterm_b (t := t) hv hw
        have hs := wsum_b (t := t) hv w (by omega)
        refine x_iconst dX4_sumOfWaves_15 ?_
        refine x_aload_n dX4_sumOfWaves_16 rfl ?_
        refine x_getR (r := 41) fX4_15 dX4_sumOfWaves_17 rfl rfl ?_
        refine x_iload_n dX4_sumOfWaves_20 rfl ?_
        refine x_iconst dX4_sumOfWaves_21 ?_
        refine x_V2 mX4_55 dX4_sumOfWaves_22 rfl (s_waveOf (3 * w + 1) (by omega) (by omega) ?_)
        refine x_top (hc.w hw (by omega)) ?_
        refine x_S2 mX4_58 dX4_sumOfWaves_25 (s_max (by omega) ?_)
        refine x_top (show max 1 (wv v w 1) = wv v w 1 by omega) ?_
        refine x_istore dX4_sumOfWaves_28 ?_
        refine x_iload_n dX4_sumOfWaves_30 rfl ?_
        refine x_aload_n dX4_sumOfWaves_31 rfl ?_
        refine x_getR (r := 41) fX4_15 dX4_sumOfWaves_32 rfl rfl ?_
        refine x_iload_n dX4_sumOfWaves_35 rfl ?_
        refine x_iconst dX4_sumOfWaves_36 ?_
        refine x_V2 mX4_55 dX4_sumOfWaves_37 rfl (s_waveOf (3 * w + 2) (by omega) (by omega) ?_)
        refine x_top (hc.w hw (by omega)) ?_
        refine x_isub dX4_sumOfWaves_40 ?_
        refine x_iload dX4_sumOfWaves_41 rfl ?_
        refine x_S2 mX4_63 dX4_sumOfWaves_43 (s_floorMod (by omega) (by omega) ?_)
        refine x_istore dX4_sumOfWaves_46 ?_
        refine x_iload_n dX4_sumOfWaves_48 rfl ?_
        refine x_aload_n dX4_sumOfWaves_49 rfl ?_
        refine x_getR (r := 41) fX4_15 dX4_sumOfWaves_50 rfl rfl ?_
        refine x_iload_n dX4_sumOfWaves_53 rfl ?_
        refine x_iconst dX4_sumOfWaves_54 ?_
        refine x_V2 mX4_55 dX4_sumOfWaves_55 rfl (s_waveOf (3 * w + 0) (by omega) (by omega) ?_)
        refine x_top (hc.w hw (by omega)) ?_
        refine x_iload dX4_sumOfWaves_58 rfl ?_
        refine x_sipush dX4_sumOfWaves_60 (h := ?_)
        refine x_imul dX4_sumOfWaves_63 ?_
        refine x_iload dX4_sumOfWaves_64 rfl ?_
        refine x_idiv dX4_sumOfWaves_66 (by omega) (by omega) ?_
        refine x_S1 mX4_66 dX4_sumOfWaves_67 (s_partOf hx.2.2.1 hx.2.2.2 ?_)
        refine x_imul dX4_sumOfWaves_70 ?_
        refine x_sipush dX4_sumOfWaves_71 (h := ?_)
        refine x_idiv dX4_sumOfWaves_74 (by have := hq; unfold wpt at this; omega) (by omega) ?_
        refine x_iadd dX4_sumOfWaves_75 ?_
        refine x_istore_n dX4_sumOfWaves_76 ?_
        refine x_iinc dX4_sumOfWaves_77 rfl ?_
        refine x_goto (tgt := 4) dX4_sumOfWaves_80 (by decide) ?_
        exact x_loc (lv' := [(0, vr E 86), (1, vi t), (2, vi (wsum v t (w + 1))), (3, vi ((w + 1 : Nat) : Int))]) ⟨rfl, rfl, xl_i rfl (by rfl), xl_i rfl (by omega), trivial⟩ (ih (w + 1) (by omega) (by omega))
  refine x_iconst dX4_sumOfWaves_0 ?_
  refine x_istore_n dX4_sumOfWaves_1 ?_
  refine x_iconst dX4_sumOfWaves_2 ?_
  refine x_istore_n dX4_sumOfWaves_3 ?_
  exact x_loc (lv' := [(0, vr E 86), (1, vi t), (2, vi (wsum v t 0)), (3, vi ((0 : Nat) : Int))]) ⟨rfl, rfl, rfl, rfl, trivial⟩ (loop (v 3).toNat.succ 0 (by omega) (by omega))

end TI
