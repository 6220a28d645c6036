section MP
/-! the way by its i-th bars -/
def fo (v : Nat → Int) (s i : Nat) : Int := if sh v s 5 = 1 then (if i = 0 then 0 else br v ((v 4).toNat - i) 0) else br v i 0
theorem tk_0 {sp : Int} (h : 4 ≤ sp ∧ sp ≤ 25) : tk 0 sp = 0 := by
  unfold tk
  rw [Int.tdiv_eq_ediv_of_nonneg (by omega)]
  exact Int.ediv_eq_zero_of_lt (by omega) (by omega)
theorem fr_fo {v : Nat → Int} {s i : Nat} {sp : Int} (h : 4 ≤ sp ∧ sp ≤ 25) : tk (fo v s i) sp = fr v s i sp := by
  unfold fo fr
  split
  · split
    · exact tk_0 h
    · rfl
  · rfl
theorem fo_b {v : Nat → Int} {s i : Nat} (hv : bOk v) (hi : (i : Int) < v 4) : 0 ≤ fo v s i ∧ fo v s i ≤ 200 := by
  have h4 := hv.1
  unfold fo
  split
  · split
    · omega
    · have := (hv.2 ((v 4).toNat - i) (by omega)).1; omega
  · exact (hv.2 i hi).1
/-- how long behind its start a ship has left the bar ahead of the k-th -/
def pa (v : Nat → Int) (s : Nat) (sp : Int) : Nat → Int
  | 0 => 0
  | k + 1 => cm v s sp (bo v s k) + tk (br v (bo v s k) 2) sp
theorem cm_pa {v : Nat → Int} {s : Nat} {sp : Int} (h4 : 0 ≤ v 4) {k : Nat} (hk : (k : Int) < v 4) : cm v s sp (bo v s k) = pa v s sp k + fr v s k sp := by
  cases k with
  | zero =>
    show _ = 0 + _
    unfold cm bo fr
    by_cases c : sh v s 5 = 1
    · rw [if_pos c, if_pos c, if_pos c, if_pos rfl, show (v 4).toNat - 1 - 0 + 1 = (v 4).toNat by omega]; omega
    · rw [if_neg c, if_neg c, if_neg c]; show 0 + _ = _; rfl
  | succ k =>
    show _ = cm v s sp (bo v s k) + tk (br v (bo v s k) 2) sp + _
    unfold cm bo fr
    by_cases c : sh v s 5 = 1
    · simp only [if_pos c]
      rw [if_neg (by omega), show (v 4).toNat - 1 - k + 1 = (v 4).toNat - 1 - (k + 1) + 1 + 1 by omega, show (v 4).toNat - (k + 1) = (v 4).toNat - 1 - (k + 1) + 1 by omega]
      have e : Tm v sp ((v 4).toNat - 1 - (k + 1) + 1 + 1) = Tm v sp ((v 4).toNat - 1 - (k + 1) + 1) + sg v sp ((v 4).toNat - 1 - (k + 1) + 1) := rfl
      rw [e, show (v 4).toNat - 1 - k = (v 4).toNat - 1 - (k + 1) + 1 by omega]
      unfold sg
      omega
    · simp only [if_neg c]
      show Tm v sp k + sg v sp k + _ = _
      unfold sg
      omega
theorem bo_bo {v : Nat → Int} {s b : Nat} (hb : (b : Int) < v 4) : bo v s (bo v s b) = b := by unfold bo; split <;> omega
theorem good_bo {v : Nat → Int} {s : Nat} {dr st sp : Int} (h4 : 0 ≤ v 4) : good v s dr st sp ↔ ∀ i : Nat, (i : Int) < v 4 → pas v s dr (bo v s i) (st + cm v s sp (bo v s i)) sp := by
  constructor
  · intro h i hi; exact h (bo v s i) (bo_b h4 hi)
  · intro h b hb
    have := h (bo v s b) (bo_b h4 hb)
    rw [bo_bo hb] at this
    exact this
theorem pt_pa {v : Nat → Int} {s : Nat} {sp : Int} (h4 : 0 ≤ v 4) : pt v s sp = pa v s sp (v 4).toNat := by
  unfold pt
  by_cases c : v 4 = 0
  · rw [if_pos c, c]; rfl
  · rw [if_neg c]
    obtain ⟨k, hk⟩ : ∃ k, (v 4).toNat = k + 1 := ⟨(v 4).toNat - 1, by omega⟩
    rw [hk]
    show _ = cm v s sp (bo v s k) + tk (br v (bo v s k) 2) sp
    unfold bo
    by_cases o : sh v s 5 = 1
    · rw [if_pos o, if_pos o, hk, show k + 1 - 1 - k = 0 by omega]
    · rw [if_neg o, if_neg o, show k + 1 - 1 = k by omega]
theorem pa_b {v : Nat → Int} {s : Nat} {sp : Int} (hv : bOk v) (hs : 4 ≤ sp ∧ sp ≤ 25) {k : Nat} (hk : (k : Int) ≤ v 4) : 0 ≤ pa v s sp k ∧ pa v s sp k ≤ 2030 := by
  cases k with
  | zero => exact ⟨Int.le_refl _, by show (0 : Int) ≤ _; omega⟩
  | succ k =>
    have h1 := cm_b (s := s) (b := bo v s k) hv hs (bo_b hv.1.1 (by omega))
    have h2 := sg_b (p := bo v s k) hv (bo_b (s := s) hv.1.1 (by omega)) hs
    show 0 ≤ cm v s sp (bo v s k) + tk (br v (bo v s k) 2) sp ∧ cm v s sp (bo v s k) + tk (br v (bo v s k) 2) sp ≤ _
    omega
set_option maxRecDepth 20000 in
theorem s_leftBy {E : xE} {f : Nat → Nat} {D : Nat → Nat × Nat} {n : Nat} {m : xM} {P : xPo} {PX : xPx} {v : Nat → Int} {s b : Nat} {dr t sp : Int} (hv : vOk v) (hN : mN v m) (hs : (s : Int) < v 5) (hb : (b : Int) < v 4) (hdr : 0 ≤ dr ∧ dr ≤ 3000) (ht : 0 ≤ t ∧ t ≤ 40000) (hsp : 4 ≤ sp ∧ sp ≤ 25) (hP : ∀ m', ag [103] m m' → P (some (vi (lfw v s dr (wa v b t) sp))) (gS f D n) m') : xC E (yX6_leftBy, cX6_leftBy, 7, some .int) 4 0 0 [vr E 96, vi (s : Int), vi dr, vi (b : Int), vi t, vi sp] (gS f D n) m P PX := by
  refine x_enter (by decide) rfl rfl (Nat.le_of_ble_eq_true rfl) ?_
  have hwb := wa_b (t := t) hv.1 hb
  refine x_aload_n dX6_leftBy_0 rfl ?_
  refine x_iload_n dX6_leftBy_1 rfl ?_
  refine x_iload dX6_leftBy_2 rfl ?_
  refine x_V2 mX6_250 dX6_leftBy_4 rfl (s_mwaterAt hv.1 hN hb ht ?_)
  refine x_istore dX6_leftBy_7 ?_
  refine x_iload dX6_leftBy_9 rfl ?_
  refine x_iload_n dX6_leftBy_11 rfl ?_
  refine x_isub dX6_leftBy_12 ?_
  refine x_aload_n dX6_leftBy_13 rfl ?_
  refine x_iload_n dX6_leftBy_14 rfl ?_
  refine x_iload_n dX6_leftBy_15 rfl ?_
  refine x_iload dX6_leftBy_16 rfl ?_
  refine x_iload dX6_leftBy_18 rfl ?_
  refine x_V4 mX6_253 dX6_leftBy_20 rfl (s_msinks hv hN hs hsp hdr (by omega) (fun m1 ha => ?_))
  refine x_isub dX6_leftBy_23 ?_
  exact x_iret dX6_leftBy_24  (hP m1 ha)

set_option maxRecDepth 20000 in
theorem s_misClear {E : xE} {f : Nat → Nat} {D : Nat → Nat × Nat} {n : Nat} {m : xM} {P : xPo} {PX : xPx} {v : Nat → Int} {s b : Nat} {dr t sp : Int} (hv : vOk v) (hN : mN v m) (hs : (s : Int) < v 5) (hb : (b : Int) < v 4) (hdr : 0 ≤ dr ∧ dr ≤ 3000) (ht : 0 ≤ t ∧ t ≤ 40000) (hsp : 4 ≤ sp ∧ sp ≤ 25) (hP : ∀ m', ag [103] m m' → P (some (vi (zi (clr v s dr (wa v b t) sp)))) (gS f D n) m') : xC E (yX6_isClear, cX6_isClear, 6, some .boolean) 5 0 0 [vr E 96, vi (s : Int), vi dr, vi (b : Int), vi t, vi sp] (gS f D n) m P PX := by
  refine x_enter (by decide) rfl rfl (Nat.le_of_ble_eq_true rfl) ?_
  have hv5 := hv.1.2.2.2.2.2.1
  have hv4 := hv.1.2.2.2.2.1.1
  have hwb := wa_b (t := t) hv.1 hb
  have hlb := lfw_b (dr := dr) (w := wa v b t) hv hs hsp hdr (by omega)
  obtain ⟨-, -, hkp, -⟩ := hv.1.2.2.2.2.2.2 s hs
  refine x_aload_n dX6_isClear_0 rfl ?_
  refine x_iload_n dX6_isClear_1 rfl ?_
  refine x_iload_n dX6_isClear_2 rfl ?_
  refine x_iload_n dX6_isClear_3 rfl ?_
  refine x_iload dX6_isClear_4 rfl ?_
  refine x_iload dX6_isClear_6 rfl ?_
  refine x_V5 mX6_257 dX6_isClear_8 rfl (s_leftBy hv hN hs hb hdr ht hsp (fun m1 ha => ?_))
  refine x_aload_n dX6_isClear_11 rfl ?_
  refine x_iload_n dX6_isClear_12 rfl ?_
  refine x_iconst dX6_isClear_13 ?_
  refine x_V2 mX6_241 dX6_isClear_14 rfl (s_ofShip (60 + 8 * s + 2) (by omega) (by omega) ?_)
  refine x_top ((hN.ag ha (by decide)).s (s := s) (by omega) (by omega)) ?_
  refine x_icmp_lt (tgt := 24) dX6_isClear_17 (by decide) (by omega) (fun h17 => ?_) (fun h17 => ?_)
  · refine x_iconst dX6_isClear_24 ?_
    exact x_zret dX6_isClear_25 (Or.inl rfl) ((by have hP := hP m1 ha; rw [zi_f (by unfold clr; omega)] at hP; exact hP))
  · refine x_iconst dX6_isClear_20 ?_
    refine x_goto (tgt := 25) dX6_isClear_21 (by decide) ?_
    exact x_zret dX6_isClear_25 (Or.inr rfl) ((by have hP := hP m1 ha; rw [zi_t (by unfold clr; omega)] at hP; exact hP))

set_option maxRecDepth 20000 in
theorem s_canPass {E : xE} {f : Nat → Nat} {D : Nat → Nat × Nat} {n : Nat} {m : xM} {P : xPo} {PX : xPx} {v : Nat → Int} {s b : Nat} {dr t sp : Int} (hv : vOk v) (hN : mN v m) (hs : (s : Int) < v 5) (hb : (b : Int) < v 4) (hdr : 0 ≤ dr ∧ dr ≤ 3000) (ht : 0 ≤ t ∧ t ≤ 30000) (hsp : 4 ≤ sp ∧ sp ≤ 25) (hP : ∀ m', ag [103] m m' → P (some (vi (zi (pas v s dr b t sp)))) (gS f D n) m') : xC E (yX6_canPass, cX6_canPass, 7, some .boolean) 6 0 0 [vr E 96, vi (s : Int), vi dr, vi (b : Int), vi t, vi sp] (gS f D n) m P PX := by
  refine x_enter (by decide) rfl rfl (Nat.le_of_ble_eq_true rfl) ?_
  have hv5 := hv.1.2.2.2.2.2.1
  have hv4 := hv.1.2.2.2.2.1.1
  have hsg := sg_b hv.1.2.2.2.2.1 hb hsp
  obtain ⟨-, -, hlg, -⟩ := hv.1.2.2.2.2.1.2 b hb
  have loop : ∀ (j k : Nat) (m1 : xM), tk (br v b 2) sp + 1 < (k : Int) + j → (k : Int) ≤ tk (br v b 2) sp + 1 → ag [103] m m1 → (∀ q, q < k → clr v s dr (wa v b (t + (q : Nat))) sp) → xX E (("canPass", some .boolean, []), (6, 0, 0), P, PX) RX6 cX6_canPass 7 0 0 3 [(0, vr E 96), (1, vi (s : Int)), (2, vi dr), (3, vi (b : Int)), (4, vi t), (5, vi sp), (6, vi (k : Int))] [] (gS f D n) m1 := by
    intro j
    induction j with
    | zero => intro k m1 h1 h2; omega
    | succ j ih =>
      intro k m1 h1 h2 ha1 hc
      refine x_iload dX6_canPass_3 rfl ?_
      refine x_aload_n dX6_canPass_5 rfl ?_
      refine x_iload_n dX6_canPass_6 rfl ?_
      refine x_iconst dX6_canPass_7 ?_
      refine x_V2 mX6_222 dX6_canPass_8 rfl (s_ofBar (24 + 6 * b + 2) (by omega) (by omega) ?_)
      refine x_top ((hN.ag ha1 (by decide)).b (b := b) (by omega) (by omega)) ?_
      refine x_iload dX6_canPass_11 rfl ?_
      refine x_S2 mX6_261 dX6_canPass_13 (s_takes (by omega) (by omega) ?_)
      refine x_icmp_gt (tgt := 44) dX6_canPass_16 (by decide) (by omega) (fun h16 => ?_) (fun h16 => ?_)
      · refine x_iconst dX6_canPass_44 ?_
        exact x_zret dX6_canPass_45 (Or.inr rfl) (by have hP := hP m1 ha1; rw [zi_t (show pas v s dr b t sp from fun q hq => hc q (by omega))] at hP; exact hP)
      · refine x_aload_n dX6_canPass_19 rfl ?_
        refine x_iload_n dX6_canPass_20 rfl ?_
        refine x_iload_n dX6_canPass_21 rfl ?_
        refine x_iload_n dX6_canPass_22 rfl ?_
        refine x_iload dX6_canPass_23 rfl ?_
        refine x_iload dX6_canPass_25 rfl ?_
        refine x_iadd dX6_canPass_27 ?_
        refine x_iload dX6_canPass_28 rfl ?_
        refine x_V5 mX6_264 dX6_canPass_30 rfl (s_misClear hv (hN.ag ha1 (by decide)) hs hb hdr (by omega) hsp (fun m2 ha2 => ?_))
        refine x_if_ne (tgt := 38) dX6_canPass_33 (by decide) (zi_r _) (fun h33 => ?_) (fun h33 => ?_)
        · have hx := zi_1.mp h33
          refine x_iinc dX6_canPass_38 rfl ?_
          refine x_goto (tgt := 3) dX6_canPass_41 (by decide) ?_
          exact x_loc (lv' := [(0, vr E 96), (1, vi (s : Int)), (2, vi dr), (3, vi (b : Int)), (4, vi t), (5, vi sp), (6, vi ((k + 1 : Nat) : Int))]) ⟨rfl, rfl, rfl, rfl, rfl, rfl, xl_i rfl (by omega), trivial⟩ (ih (k + 1) m2 (by omega) (by omega) (ha1.tr1 ha2) (fun q hq => by rcases (by omega : q < k ∨ q = k) with z | z; exact hc q z; exact z ▸ hx))
        · have hx := zi_0.mp h33
          refine x_iconst dX6_canPass_36 ?_
          exact x_zret dX6_canPass_37 (Or.inl rfl) (by have hP := hP m2 (ha1.tr1 ha2); rw [zi_f (fun z => hx (z k (by omega)))] at hP; exact hP)
  refine x_iconst dX6_canPass_0 ?_
  refine x_istore dX6_canPass_1 ?_
  exact x_loc (lv' := [(0, vr E 96), (1, vi (s : Int)), (2, vi dr), (3, vi (b : Int)), (4, vi t), (5, vi sp), (6, vi ((0 : Nat) : Int))]) ⟨rfl, rfl, rfl, rfl, rfl, rfl, rfl, trivial⟩ (loop 40 0 m (by omega) (by omega) ag.rf (fun q hq => absurd hq (Nat.not_lt_zero q)))

set_option maxRecDepth 20000 in
theorem s_barOn {E : xE} {f : Nat → Nat} {D : Nat → Nat × Nat} {n : Nat} {m : xM} {P : xPo} {PX : xPx} {v : Nat → Int} {s i : Nat} (hv : vOk v) (hN : mN v m) (hs : (s : Int) < v 5) (hi : (i : Int) < v 4) (hP : P (some (vi ((bo v s i : Nat) : Int))) (gS f D n) m) : xC E (yX6_barOn, cX6_barOn, 3, some .int) 1 0 0 [vr E 96, vi (s : Int), vi (i : Int)] (gS f D n) m P PX := by
  refine x_enter (by decide) rfl rfl (Nat.le_of_ble_eq_true rfl) ?_
  have hv5 := hv.1.2.2.2.2.2.1
  have hv4 := hv.1.2.2.2.2.1.1
  obtain ⟨-, -, -, -, hou, -⟩ := hv.1.2.2.2.2.2.2 s hs
  refine x_aload_n dX6_barOn_0 rfl ?_
  refine x_iload_n dX6_barOn_1 rfl ?_
  refine x_iconst dX6_barOn_2 ?_
  refine x_V2 mX6_241 dX6_barOn_3 rfl (s_ofShip (60 + 8 * s + 5) (by omega) (by omega) ?_)
  refine x_top (hN.s (s := s) (by omega) (by omega)) ?_
  refine x_iconst dX6_barOn_6 ?_
  refine x_icmp_ne (tgt := 23) dX6_barOn_7 (by decide) (by omega) (fun h7 => ?_) (fun h7 => ?_)
  · refine x_iload_n dX6_barOn_23 rfl ?_
    exact x_iret dX6_barOn_24  (by rw [show ((bo v s i : Nat) : Int) = (i : Int) by unfold bo; rw [if_neg h7]] at hP; exact hP)
  · refine x_aload_n dX6_barOn_10 rfl ?_
    refine x_getR (r := 98) fX6_17 dX6_barOn_11 rfl rfl ?_
    refine x_iconst dX6_barOn_14 ?_
    refine x_iald (j := 4) dX6_barOn_15 rfl rfl (show 4 < 709 by omega) (by omega) ?_
    refine x_top (hN 4 (by omega)) ?_
    refine x_iconst dX6_barOn_16 ?_
    refine x_isub dX6_barOn_17 ?_
    refine x_iload_n dX6_barOn_18 rfl ?_
    refine x_isub dX6_barOn_19 ?_
    refine x_goto (tgt := 24) dX6_barOn_20 (by decide) ?_
    exact x_iret dX6_barOn_24  (by rw [show ((bo v s i : Nat) : Int) = v 4 - 1 - (i : Int) by unfold bo; rw [if_pos (by omega)]; omega] at hP; exact hP)

set_option maxRecDepth 20000 in
theorem s_farOn {E : xE} {f : Nat → Nat} {D : Nat → Nat × Nat} {n : Nat} {m : xM} {P : xPo} {PX : xPx} {v : Nat → Int} {s i : Nat} (hv : vOk v) (hN : mN v m) (hs : (s : Int) < v 5) (hi : (i : Int) < v 4) (hP : P (some (vi (fo v s i))) (gS f D n) m) : xC E (yX6_farOn, cX6_farOn, 3, some .int) 1 0 0 [vr E 96, vi (s : Int), vi (i : Int)] (gS f D n) m P PX := by
  refine x_enter (by decide) rfl rfl (Nat.le_of_ble_eq_true rfl) ?_
  have hv5 := hv.1.2.2.2.2.2.1
  have hv4 := hv.1.2.2.2.2.1.1
  obtain ⟨-, -, -, -, hou, -⟩ := hv.1.2.2.2.2.2.2 s hs
  unfold fo at hP
  refine x_aload_n dX6_farOn_0 rfl ?_
  refine x_iload_n dX6_farOn_1 rfl ?_
  refine x_iconst dX6_farOn_2 ?_
  refine x_V2 mX6_241 dX6_farOn_3 rfl (s_ofShip (60 + 8 * s + 5) (by omega) (by omega) ?_)
  refine x_top (hN.s (s := s) (by omega) (by omega)) ?_
  refine x_if_ne (tgt := 16) dX6_farOn_6 (by decide) (by omega) (fun h6 => ?_) (fun h6 => ?_)
  · refine x_iload_n dX6_farOn_16 rfl ?_
    refine x_if_ne (tgt := 24) dX6_farOn_17 (by decide) (by omega) (fun h17 => ?_) (fun h17 => ?_)
    · refine x_aload_n dX6_farOn_24 rfl ?_
      refine x_aload_n dX6_farOn_25 rfl ?_
      refine x_getR (r := 98) fX6_17 dX6_farOn_26 rfl rfl ?_
      refine x_iconst dX6_farOn_29 ?_
      refine x_iald (j := 4) dX6_farOn_30 rfl rfl (show 4 < 709 by omega) (by omega) ?_
      refine x_top (hN 4 (by omega)) ?_
      refine x_iload_n dX6_farOn_31 rfl ?_
      refine x_isub dX6_farOn_32 ?_
      refine x_iconst dX6_farOn_33 ?_
      refine x_V2 mX6_222 dX6_farOn_34 rfl (s_ofBar (24 + 6 * ((v 4).toNat - i) + 0) (by omega) (by omega) ?_)
      refine x_top (hN.b (b := (v 4).toNat - i) (by omega) (by omega)) ?_
      exact x_iret dX6_farOn_37  (by rw [if_pos (by omega), if_neg (by omega)] at hP; exact hP)
    · refine x_iconst dX6_farOn_20 ?_
      refine x_goto (tgt := 37) dX6_farOn_21 (by decide) ?_
      exact x_iret dX6_farOn_37  (by rw [if_pos (by omega), if_pos (by omega)] at hP; exact hP)
  · refine x_aload_n dX6_farOn_9 rfl ?_
    refine x_iload_n dX6_farOn_10 rfl ?_
    refine x_iconst dX6_farOn_11 ?_
    refine x_V2 mX6_222 dX6_farOn_12 rfl (s_ofBar (24 + 6 * i + 0) (by omega) (by omega) ?_)
    refine x_top (hN.b (b := i) (by omega) (by omega)) ?_
    exact x_iret dX6_farOn_15  (by rw [if_neg (by omega)] at hP; exact hP)

set_option maxRecDepth 20000 in
theorem s_comesTo {E : xE} {f : Nat → Nat} {D : Nat → Nat × Nat} {n : Nat} {m : xM} {P : xPo} {PX : xPx} {v : Nat → Int} {s i : Nat} {st sp : Int} (hv : vOk v) (hN : mN v m) (hs : (s : Int) < v 5) (hi : (i : Int) < v 4) (hsp : 4 ≤ sp ∧ sp ≤ 25) (hP : P (some (vi (st + cm v s sp (bo v s i)))) (gS f D n) m) : xC E (yX6_comesTo, cX6_comesTo, 7, some .int) 2 0 0 [vr E 96, vi (s : Int), vi st, vi sp, vi (i : Int)] (gS f D n) m P PX := by
  refine x_enter (by decide) rfl rfl (Nat.le_of_ble_eq_true rfl) ?_
  have hv5 := hv.1.2.2.2.2.2.1
  have hv4 := hv.1.2.2.2.2.1.1
  let cur : Nat → Int := fun k => if k ≤ i then st + pa v s sp k else st + cm v s sp (bo v s i)
  have loop : ∀ (j k : Nat), i + 1 < k + j → k ≤ i + 1 → xX E (("comesTo", some .int, []), (2, 0, 0), P, PX) RX6 cX6_comesTo 7 0 0 6 [(0, vr E 96), (1, vi (s : Int)), (2, vi st), (3, vi sp), (4, vi (i : Int)), (5, vi (cur k)), (6, vi (k : Int))] [] (gS f D n) m := by
    intro j
    induction j with
    | zero => intro k h1 h2; omega
    | succ j ih =>
      intro k h1 h2
      refine x_iload dX6_comesTo_6 rfl ?_
      refine x_iload dX6_comesTo_8 rfl ?_
      refine x_icmp_gt (tgt := 63) dX6_comesTo_10 (by decide) (by omega) (fun h10 => ?_) (fun h10 => ?_)
      · refine x_iload dX6_comesTo_63 rfl ?_
        exact x_iret dX6_comesTo_65  (by rw [show cur k = st + cm v s sp (bo v s i) from if_neg (by omega)]; exact hP)
      · have hfo := fo_b (s := s) (i := k) hv.1.2.2.2.2.1 (by omega)
        have hlo := (hv.1.2.2.2.2.1.2 (bo v s k) (bo_b hv4.1 (by omega))).2.2.1
        have hcp := cm_pa (s := s) (sp := sp) hv4.1 (k := k) (by omega)
        have hff := fr_fo (v := v) (s := s) (i := k) hsp
        have hcz : ¬ (k : Int) < (i : Int) → cur k + (tk (fo v s k) sp + 0) = cur (k + 1) := fun z => by
          show (if k ≤ i then _ else _) + _ = (if k + 1 ≤ i then _ else _)
          rw [if_pos (by omega), if_neg (by omega), hff, show i = k by omega, hcp]; omega
        have hcs : (k : Int) < (i : Int) → cur k + (tk (fo v s k) sp + tk (br v (bo v s k) 2) sp) = cur (k + 1) := fun z => by
          show (if k ≤ i then _ else _) + _ = (if k + 1 ≤ i then _ else _)
          rw [if_pos (by omega), if_pos (by omega), hff]
          show _ = st + (cm v s sp (bo v s k) + tk (br v (bo v s k) 2) sp)
          rw [hcp]; omega
        refine x_iload dX6_comesTo_13 rfl ?_
        refine x_aload_n dX6_comesTo_15 rfl ?_
        refine x_iload_n dX6_comesTo_16 rfl ?_
        refine x_iload dX6_comesTo_17 rfl ?_
        refine x_V2 mX6_268 dX6_comesTo_19 rfl (s_farOn hv hN hs (i := k) (by omega) ?_)
        refine x_iload_n dX6_comesTo_22 rfl ?_
        refine x_S2 mX6_261 dX6_comesTo_23 (s_takes (by omega) (by omega) ?_)
        refine x_iload dX6_comesTo_26 rfl ?_
        refine x_iload dX6_comesTo_28 rfl ?_
        refine x_icmp_ge (tgt := 52) dX6_comesTo_30 (by decide) (by omega) (fun h30 => ?_) (fun h30 => ?_)
        · refine x_iconst dX6_comesTo_52 ?_
          refine x_iadd dX6_comesTo_53 ?_
          refine x_iadd dX6_comesTo_54 ?_
          refine x_istore dX6_comesTo_55 ?_
          refine x_iinc dX6_comesTo_57 rfl ?_
          refine x_goto (tgt := 6) dX6_comesTo_60 (by decide) ?_
          exact x_loc (lv' := [(0, vr E 96), (1, vi (s : Int)), (2, vi st), (3, vi sp), (4, vi (i : Int)), (5, vi (cur (k + 1))), (6, vi ((k + 1 : Nat) : Int))]) ⟨rfl, rfl, rfl, rfl, rfl, xl_i rfl (hcz (by omega)), xl_i rfl (by omega), trivial⟩ (ih (k + 1) (by omega) (by omega))
        · refine x_aload_n dX6_comesTo_33 rfl ?_
          refine x_aload_n dX6_comesTo_34 rfl ?_
          refine x_iload_n dX6_comesTo_35 rfl ?_
          refine x_iload dX6_comesTo_36 rfl ?_
          refine x_V2 mX6_271 dX6_comesTo_38 rfl (s_barOn hv hN hs (i := k) (by omega) ?_)
          refine x_iconst dX6_comesTo_41 ?_
          refine x_V2 mX6_222 dX6_comesTo_42 rfl (s_ofBar (24 + 6 * bo v s k + 2) (by omega) (by have := bo_b (s := s) (i := k) hv4.1 (by omega); omega) ?_)
          refine x_top (hN.b (b := bo v s k) (by have := bo_b (s := s) (i := k) hv4.1 (by omega); omega) (by omega)) ?_
          refine x_iload_n dX6_comesTo_45 rfl ?_
          refine x_S2 mX6_261 dX6_comesTo_46 (s_takes (by omega) (by omega) ?_)
          refine x_goto (tgt := 53) dX6_comesTo_49 (by decide) ?_
          refine x_iadd dX6_comesTo_53 ?_
          refine x_iadd dX6_comesTo_54 ?_
          refine x_istore dX6_comesTo_55 ?_
          refine x_iinc dX6_comesTo_57 rfl ?_
          refine x_goto (tgt := 6) dX6_comesTo_60 (by decide) ?_
          exact x_loc (lv' := [(0, vr E 96), (1, vi (s : Int)), (2, vi st), (3, vi sp), (4, vi (i : Int)), (5, vi (cur (k + 1))), (6, vi ((k + 1 : Nat) : Int))]) ⟨rfl, rfl, rfl, rfl, rfl, xl_i rfl (hcs (by omega)), xl_i rfl (by omega), trivial⟩ (ih (k + 1) (by omega) (by omega))
  refine x_iload_n dX6_comesTo_0 rfl ?_
  refine x_istore dX6_comesTo_1 ?_
  refine x_iconst dX6_comesTo_3 ?_
  refine x_istore dX6_comesTo_4 ?_
  exact x_loc (lv' := [(0, vr E 96), (1, vi (s : Int)), (2, vi st), (3, vi sp), (4, vi (i : Int)), (5, vi (cur 0)), (6, vi ((0 : Nat) : Int))]) ⟨rfl, rfl, rfl, rfl, rfl, xl_i rfl (by show st = st + 0; omega), rfl, trivial⟩ (loop 10 0 (by omega) (by omega))

end MP
