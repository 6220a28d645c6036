section MH
def asL (a : Nat) : List Nat := [0, 1, 2, 3, 4, 5].filter (fun u => tb a u == 1)
theorem asL_len : ∀ a : Nat, a < 64 → (asL a).length = pcn a := by decide +kernel
theorem asL_at : ∀ a : Nat, a < 64 → ∀ j : Nat, j < 6 → j < pcn a → (asL a).getD j 0 < 6 ∧ tb a ((asL a).getD j 0) = 1 ∧ rk a ((asL a).getD j 0) = j := by decide +kernel
theorem asL_rk : ∀ a : Nat, a < 64 → ∀ u : Nat, u < 6 → tb a u = 1 → (asL a).getD (rk a u) 0 = u := by decide +kernel
theorem rk_end : ∀ k : Nat, k ≤ 6 → ∀ a : Nat, a < 64 → (∀ u : Nat, u < 6 → tb a u = 1 → u < k) → rk a k = pcn a := by decide +kernel
theorem pcn_6 : ∀ a : Nat, a < 64 → pcn a ≤ 6 := by decide +kernel
theorem asL_in {a : Nat} (ha : a < 64) : inS a (asL a) := ⟨asL_len a ha, fun q hq => by rw [asL_len a ha] at hq; have h6 := pcn_6 a ha; have := asL_at a ha q (by omega) hq; exact ⟨this.1, this.2.1⟩⟩
theorem alG_A {G : Nat → Nat → Prop} {a gp t : Nat} (ha : a < 64) : lnA G gp (asL a) t ↔ alG G a gp t := by
  constructor
  · intro h u hu hb
    have := h (rk a u) (by rw [asL_len a ha]; exact rk_lt a ha u hu hb)
    rw [asL_rk a ha u hu hb] at this
    exact this
  · intro h q hq
    rw [asL_len a ha] at hq
    have h6 := pcn_6 a ha
    obtain ⟨h1, h2, h3⟩ := asL_at a ha q (by omega) hq
    have := h _ h1 h2
    rw [h3] at this
    exact this
theorem dayR_c {S S' : Nat → Prop} {r : Int} (h : ∀ t, S t ↔ S' t) : dayR S r ↔ dayR S' r := by
  have : S = S' := funext (fun t => propext (h t))
  rw [this]
set_option maxRecDepth 20000 in
theorem lay_1 {E : xE} {f : Nat → Nat} {D : Nat → Nat × Nat} {n : Nat} {m : xM} {P : xPo} {PX : xPx} {v : Nat → Int} {a : Nat} {sp t0 : Int} (hv : vOk v) (hN : mN v m) (ha64 : a < 64) (hset : ∀ u, u < 6 → tb a u = 1 → (u : Int) < v 5)
    (hK : ∀ m1, ag [96, 103, 108, 109] m m1 → (∀ j, j ≠ 25 → m1 96 j = m 96 j) → lnM m1 (asL a) → xX E (("laysGoods", none, []), (9, 0, 0), P, PX) RX6 cX6_laysGoods 7 0 0 58 [(0, vr E 96), (1, vi (a : Int)), (2, vi sp), (3, vi t0)] [] (gS f D n) m1) :
    ∀ (j u : Nat) (m1 : xM), v 5 < (u : Int) + j → (u : Int) ≤ v 5 → ag [96, 103, 108, 109] m m1 → (∀ j, j ≠ 25 → m1 96 j = m 96 j) → m1 96 25 = ((rk a u : Nat) : Int) → (∀ w, w < u → tb a w = 1 → m1 109 (rk a w) = (w : Int)) → xX E (("laysGoods", none, []), (9, 0, 0), P, PX) RX6 cX6_laysGoods 7 0 0 8 [(0, vr E 96), (1, vi (a : Int)), (2, vi sp), (3, vi t0), (4, vi (u : Int))] [] (gS f D n) m1 := by
  have hv5 := hv.1.2.2.2.2.2.1
  intro j
  induction j with
  | zero => intro u m1 h1 h2; omega
  | succ j ih =>
    intro u m1 h1 h2 ha1 hk1 hc1 hl1
    refine x_iload dX6_laysGoods_8 rfl ?_
    refine x_aload_n dX6_laysGoods_10 rfl ?_
    refine x_getR (r := 98) fX6_17 dX6_laysGoods_11 rfl rfl ?_
    refine x_iconst dX6_laysGoods_14 ?_
    refine x_iald (j := 5) dX6_laysGoods_15 rfl rfl (show 5 < 709 by omega) (by omega) ?_
    refine x_top (show m1 98 5 = v 5 by rw [ha1 98 (by decide)]; exact hN 5 (by omega)) ?_
    refine x_icmp_ge (tgt := 58) dX6_laysGoods_16 (by decide) (by omega) (fun h16 => ?_) (fun h16 => ?_)
    · refine x_loc (lv' := [(0, vr E 96), (1, vi (a : Int)), (2, vi sp), (3, vi t0)]) ⟨rfl, rfl, rfl, rfl, trivial⟩ (hK m1 ha1 hk1 ⟨?_, fun j hj => ?_⟩)
      · rw [hc1, asL_len a ha64, rk_end u (by omega) a ha64 (fun w h1 h2 => by have := hset w h1 h2; omega)]
      · rw [asL_len a ha64] at hj
        have h6 := pcn_6 a ha64
        obtain ⟨g1, g2, g3⟩ := asL_at a ha64 j (by omega) hj
        have := hl1 _ (by have := hset _ g1 g2; omega) g2
        rw [g3] at this
        exact this
    · have hu : (u : Int) < v 5 := by omega
      refine x_iload_n dX6_laysGoods_19 rfl ?_
      refine x_iload dX6_laysGoods_20 rfl ?_
      refine x_ishr (z := ((a / 2 ^ u : Nat) : Int)) dX6_laysGoods_22 (b_shr a ha64 u (by omega)) ?_
      refine x_iconst dX6_laysGoods_23 ?_
      refine x_iand (z := ((tb a u : Nat) : Int)) dX6_laysGoods_24 (b_one a ha64 u (by omega)) ?_
      refine x_if_ne (tgt := 31) dX6_laysGoods_25 (by decide) (by have := tb_01 a u; omega) (fun h25 => ?_) (fun h25 => ?_)
      · have hbit : tb a u = 1 := by have := tb_01 a u; omega
        have hru := rk_lt a ha64 u (by omega) hbit
        have hp6 := pcn_6 a ha64
        refine x_aload_n dX6_laysGoods_31 rfl ?_
        refine x_getR (r := 109) fX6_56 dX6_laysGoods_32 rfl rfl ?_
        refine x_aload_n dX6_laysGoods_35 rfl ?_
        refine x_getI fX6_360 dX6_laysGoods_36 rfl ?_
        refine x_top (hc1) ?_
        refine x_iload dX6_laysGoods_39 rfl ?_
        refine x_iast (j := rk a u) dX6_laysGoods_41 rfl (by decide) (by omega) (show _ < 6 by omega) (by omega) ?_
        refine x_aload_n dX6_laysGoods_42 rfl ?_
        refine x_dup dX6_laysGoods_43 vr_cat ?_
        refine x_getI fX6_360 dX6_laysGoods_44 rfl ?_
        refine x_iconst dX6_laysGoods_47 ?_
        refine x_iadd dX6_laysGoods_48 ?_
        refine x_putI fX6_360 dX6_laysGoods_49 rfl (by decide) rfl rfl ?_
        refine x_iinc dX6_laysGoods_52 rfl ?_
        refine x_goto (tgt := 8) dX6_laysGoods_55 (by decide) ?_
        refine x_loc (lv' := [(0, vr E 96), (1, vi (a : Int)), (2, vi sp), (3, vi t0), (4, vi ((u + 1 : Nat) : Int))]) ⟨rfl, rfl, rfl, rfl, xl_i rfl (by omega), trivial⟩ (ih (u + 1) _ (by omega) (by omega) ((ha1.u (by decide)).u (by decide)) (fun j hj => ?_) ?_ (fun w hw h9 => ?_))
        · rw [xu_if, if_neg hj, xu_ne (by decide)]; exact hk1 j hj
        · rw [xu_if, if_pos rfl, xu_ne (by decide), hc1, rk_1 hbit]; omega
        · rw [xu_ne (by decide), xu_if]
          rcases (by omega : w < u ∨ w = u) with y | y
          · have h8 := rk_m a ha64 (w + 1) (by omega) u (by omega) y
            rw [rk_1 h9] at h8
            rw [if_neg (by omega)]
            exact hl1 w y h9
          · rw [y, if_pos rfl]
      · have hbit : tb a u = 0 := by omega
        refine x_goto (tgt := 52) dX6_laysGoods_28 (by decide) ?_
        refine x_iinc dX6_laysGoods_52 rfl ?_
        refine x_goto (tgt := 8) dX6_laysGoods_55 (by decide) ?_
        exact x_loc (lv' := [(0, vr E 96), (1, vi (a : Int)), (2, vi sp), (3, vi t0), (4, vi ((u + 1 : Nat) : Int))]) ⟨rfl, rfl, rfl, rfl, xl_i rfl (by omega), trivial⟩ (ih (u + 1) m1 (by omega) (by omega) ha1 hk1 (by rw [rk_0 hbit]; exact hc1) (fun w hw h9 => by rcases (by omega : w < u ∨ w = u) with y | y; exact hl1 w y h9; rw [y] at h9; omega))

set_option maxRecDepth 20000 in
theorem lay_2 {E : xE} {f : Nat → Nat} {D : Nat → Nat × Nat} {n : Nat} {m : xM} {P : xPo} {PX : xPx} {v : Nat → Int} {a c j : Nat} {sp t0 : Int} (hv : vOk v) (hN : mN v m) (ha64 : a < 64) (hset : ∀ u, u < 6 → tb a u = 1 → (u : Int) < v 5) (hsp : 4 ≤ sp ∧ sp ≤ 25) (ht0 : 0 ≤ t0 ∧ t0 ≤ 10000) (hc : c ≤ 2640) (hj : j < pcn a)
    (hK : ∀ m1, ag [96, 103, 108, 109] m m1 → (∀ j, j ≠ 25 → m1 96 j = m 96 j) → lnM m1 (asL a) → (∀ q, q < j + 1 → ∀ i, i < c → m1 108 (2640 * (asL a).getD q 0 + i) = zi (good v ((asL a).getD q 0) (sh v ((asL a).getD q 0) 0) (t0 + i) sp)) → xX E (("laysGoods", none, []), (9, 0, 0), P, PX) RX6 cX6_laysGoods 7 0 0 140 [(0, vr E 96), (1, vi (a : Int)), (2, vi sp), (3, vi t0), (4, vi (c : Int)), (5, vi (j : Int))] [] (gS f D n) m1) :
    ∀ (jj t : Nat) (m1 : xM), c < t + jj → t ≤ c → ag [96, 103, 108, 109] m m1 → (∀ j, j ≠ 25 → m1 96 j = m 96 j) → lnM m1 (asL a) → (∀ q, q < j → ∀ i, i < c → m1 108 (2640 * (asL a).getD q 0 + i) = zi (good v ((asL a).getD q 0) (sh v ((asL a).getD q 0) 0) (t0 + i) sp)) → (∀ i, i < t → m1 108 (2640 * (asL a).getD j 0 + i) = zi (good v ((asL a).getD j 0) (sh v ((asL a).getD j 0) 0) (t0 + i) sp)) → xX E (("laysGoods", none, []), (9, 0, 0), P, PX) RX6 cX6_laysGoods 7 0 0 92 [(0, vr E 96), (1, vi (a : Int)), (2, vi sp), (3, vi t0), (4, vi (c : Int)), (5, vi (j : Int)), (6, vi (t : Int))] [] (gS f D n) m1 := by
  have hp6 := pcn_6 a ha64
  have hls := asL_at a ha64 j (by omega) hj
  intro jj
  induction jj with
  | zero => intro t m1 h1 h2; omega
  | succ jj ih =>
    intro t m1 h1 h2 ha1 hk1 hM1 hq1 hj1
    refine x_iload dX6_laysGoods_92 rfl ?_
    refine x_iload dX6_laysGoods_94 rfl ?_
    refine x_icmp_ge (tgt := 140) dX6_laysGoods_96 (by decide) (by omega) (fun h96 => ?_) (fun h96 => ?_)
    · exact x_loc (lv' := [(0, vr E 96), (1, vi (a : Int)), (2, vi sp), (3, vi t0), (4, vi (c : Int)), (5, vi (j : Int))]) ⟨rfl, rfl, rfl, rfl, rfl, rfl, trivial⟩ (hK m1 ha1 hk1 hM1 (fun q hq i hi => by rcases (by omega : q < j ∨ q = j) with y | y; exact hq1 q y i hi; rw [y]; exact hj1 i (by omega)))
    · refine x_aload_n dX6_laysGoods_99 rfl ?_
      refine x_getR (r := 108) fX6_53 dX6_laysGoods_100 rfl rfl ?_
      refine x_sipush dX6_laysGoods_103 (h := ?_)
      refine x_aload_n dX6_laysGoods_106 rfl ?_
      refine x_getR (r := 109) fX6_56 dX6_laysGoods_107 rfl rfl ?_
      refine x_iload dX6_laysGoods_110 rfl ?_
      refine x_iald (j := j) dX6_laysGoods_112 rfl (by omega) (show _ < 6 by omega) (by omega) ?_
      refine x_top (hM1.2 j (by rw [asL_len a ha64]; omega)) ?_
      refine x_imul dX6_laysGoods_113 ?_
      refine x_iload dX6_laysGoods_114 rfl ?_
      refine x_iadd dX6_laysGoods_116 ?_
      refine x_aload_n dX6_laysGoods_117 rfl ?_
      refine x_aload_n dX6_laysGoods_118 rfl ?_
      refine x_getR (r := 109) fX6_56 dX6_laysGoods_119 rfl rfl ?_
      refine x_iload dX6_laysGoods_122 rfl ?_
      refine x_iald (j := j) dX6_laysGoods_124 rfl (by omega) (show _ < 6 by omega) (by omega) ?_
      refine x_top (hM1.2 j (by rw [asL_len a ha64]; omega)) ?_
      refine x_iload_n dX6_laysGoods_125 rfl ?_
      refine x_iload dX6_laysGoods_126 rfl ?_
      refine x_iadd dX6_laysGoods_128 ?_
      refine x_iload_n dX6_laysGoods_129 rfl ?_
      refine x_V3 mX6_318 dX6_laysGoods_130 rfl (s_goesWell hv (hN.ag ha1 (by decide)) (hset _ hls.1 hls.2.1) (by omega) hsp (fun m2 ha2 => ?_))
      refine x_zast (j := 2640 * (asL a).getD j 0 + t) dX6_laysGoods_133 rfl (by decide) (by omega) (show _ < 15840 by omega) (by omega) (zi_01 _) ?_
      refine x_iinc dX6_laysGoods_134 rfl ?_
      refine x_goto (tgt := 92) dX6_laysGoods_137 (by decide) ?_
      refine x_loc (lv' := [(0, vr E 96), (1, vi (a : Int)), (2, vi sp), (3, vi t0), (4, vi (c : Int)), (5, vi (j : Int)), (6, vi ((t + 1 : Nat) : Int))]) ⟨rfl, rfl, rfl, rfl, rfl, rfl, xl_i rfl (by omega), trivial⟩ (ih (t + 1) _ (by omega) (by omega) ((ha1.tr ha2 (by decide) (by decide)).u (by decide)) (fun i hi => by rw [xu_ne (by decide), ha2 96 (by decide)]; exact hk1 i hi) ⟨by rw [xu_ne (by decide), ha2 96 (by decide)]; exact hM1.1, fun i hi => by rw [xu_ne (by decide), ha2 109 (by decide)]; exact hM1.2 i hi⟩ (fun q hq i hi => ?_) (fun i hi => ?_))
      · rw [xu_if, if_neg (by obtain ⟨g1, g2, g3⟩ := asL_at a ha64 q (by omega) (by omega); intro zz; have e : (asL a).getD q 0 = (asL a).getD j 0 := (by omega); rw [e] at g3; omega), ha2 108 (by decide)]
        exact hq1 q hq i hi
      · rw [xu_if]
        by_cases c9 : i = t
        · rw [if_pos (by omega), c9]
        · rw [if_neg (by omega), ha2 108 (by decide)]
          exact hj1 i (by omega)

set_option maxRecDepth 20000 in
theorem s_laysGoods {E : xE} {f : Nat → Nat} {D : Nat → Nat × Nat} {n : Nat} {m : xM} {P : xPo} {PX : xPx} {v : Nat → Int} {a c gp : Nat} {sp t0 : Int} (hv : vOk v) (hN : mN v m) (ha64 : a < 64) (ha0 : 0 < a) (hset : ∀ u, u < 6 → tb a u = 1 → (u : Int) < v 5) (hgp : v 1 = (gp : Int)) (hcnt : 1440 + (((pcn a : Nat) : Int) - 1) * (gp : Int) = (c : Int)) (hsp : 4 ≤ sp ∧ sp ≤ 25) (ht0 : 0 ≤ t0 ∧ t0 ≤ 10000)
    (hP : ∀ m1, ag [96, 103, 108, 109] m m1 → (∀ j, j ≠ 25 → m1 96 j = m 96 j) → lnM m1 (asL a) → mgR m1 (fun u i => good v u (sh v u 0) (t0 + i) sp) a c → P none (gS f D n) m1) : xC E (yX6_laysGoods, cX6_laysGoods, 7, none) 9 0 0 [vr E 96, vi (a : Int), vi sp, vi t0] (gS f D n) m P PX := by
  refine x_enter (by decide) rfl rfl (Nat.le_of_ble_eq_true rfl) ?_
  have hv5 := hv.1.2.2.2.2.2.1
  have hv1 := hv.1.2.1
  have hp6 := pcn_6 a ha64
  have hc := gp_c ha64 ha0 (by omega) hcnt
  have loop : ∀ (jj j : Nat) (m1 : xM), pcn a < j + jj → j ≤ pcn a → ag [96, 103, 108, 109] m m1 → (∀ j, j ≠ 25 → m1 96 j = m 96 j) → lnM m1 (asL a) → (∀ q, q < j → ∀ i, i < c → m1 108 (2640 * (asL a).getD q 0 + i) = zi (good v ((asL a).getD q 0) (sh v ((asL a).getD q 0) 0) (t0 + i) sp)) → xX E (("laysGoods", none, []), (9, 0, 0), P, PX) RX6 cX6_laysGoods 7 0 0 80 [(0, vr E 96), (1, vi (a : Int)), (2, vi sp), (3, vi t0), (4, vi (c : Int)), (5, vi (j : Int))] [] (gS f D n) m1 := by
    intro jj
    induction jj with
    | zero => intro j m1 h1 h2; omega
    | succ jj ih =>
      intro j m1 h1 h2 ha1 hk1 hM1 hq1
      refine x_iload dX6_laysGoods_80 rfl ?_
      refine x_aload_n dX6_laysGoods_82 rfl ?_
      refine x_getI fX6_360 dX6_laysGoods_83 rfl ?_
      refine x_top (hM1.1) ?_
      refine x_icmp_ge (tgt := 146) dX6_laysGoods_86 (by decide) (by rw [asL_len a ha64]; omega) (fun h86 => ?_) (fun h86 => ?_)
      · have hje : pcn a ≤ j := by rw [asL_len a ha64] at h86; omega
        exact x_vret dX6_laysGoods_146 (hP m1 ha1 hk1 hM1 (fun u hu hb t ht => by
        have h1 := hq1 (rk a u) (by have := rk_lt a ha64 u hu hb; omega) t ht
        rw [asL_rk a ha64 u hu hb] at h1
        exact h1))
      · have hj : j < pcn a := by rw [asL_len a ha64] at h86; omega
        refine x_iconst dX6_laysGoods_89 ?_
        refine x_istore dX6_laysGoods_90 ?_
        refine x_loc (lv' := [(0, vr E 96), (1, vi (a : Int)), (2, vi sp), (3, vi t0), (4, vi (c : Int)), (5, vi (j : Int)), (6, vi ((0 : Nat) : Int))]) ⟨rfl, rfl, rfl, rfl, rfl, rfl, rfl, trivial⟩ (lay_2 hv hN ha64 hset hsp ht0 hc.1 hj (fun m2 ha2 hk2 hM2 hq2 => ?_) (c + 1) 0 m1 (by omega) (by omega) ha1 hk1 hM1 hq1 (fun i hi => absurd hi (Nat.not_lt_zero i)))
        refine x_iinc dX6_laysGoods_140 rfl ?_
        refine x_goto (tgt := 80) dX6_laysGoods_143 (by decide) ?_
        exact x_loc (lv' := [(0, vr E 96), (1, vi (a : Int)), (2, vi sp), (3, vi t0), (4, vi (c : Int)), (5, vi ((j + 1 : Nat) : Int))]) ⟨rfl, rfl, rfl, rfl, rfl, xl_i rfl (by omega), trivial⟩ (ih (j + 1) m2 (by omega) (by omega) ha2 hk2 hM2 hq2)
  refine x_aload_n dX6_laysGoods_0 rfl ?_
  refine x_iconst dX6_laysGoods_1 ?_
  refine x_putI fX6_360 dX6_laysGoods_2 rfl (by decide) rfl rfl ?_
  refine x_iconst dX6_laysGoods_5 ?_
  refine x_istore dX6_laysGoods_6 ?_
  refine x_loc (lv' := [(0, vr E 96), (1, vi (a : Int)), (2, vi sp), (3, vi t0), (4, vi ((0 : Nat) : Int))]) ⟨rfl, rfl, rfl, rfl, rfl, trivial⟩ (lay_1 hv hN ha64 hset (fun m1 ha1 hk1 hM1 => ?_) 7 0 _ (by omega) (by omega) (ag.u ag.rf (by decide)) (fun j hj => by rw [xu_if, if_neg hj]) (by rw [xu_if, if_pos rfl]; rfl) (fun w hw => absurd hw (Nat.not_lt_zero w)))
  refine x_sipush dX6_laysGoods_58 (h := ?_)
  refine x_aload_n dX6_laysGoods_61 rfl ?_
  refine x_getR (r := 98) fX6_17 dX6_laysGoods_62 rfl rfl ?_
  refine x_iconst dX6_laysGoods_65 ?_
  refine x_iald (j := 1) dX6_laysGoods_66 rfl rfl (show 1 < 709 by omega) (by omega) ?_
  refine x_top (show m1 98 1 = (gp : Int) by rw [ha1 98 (by decide), hN 1 (by omega), hgp]) ?_
  refine x_aload_n dX6_laysGoods_67 rfl ?_
  refine x_getI fX6_360 dX6_laysGoods_68 rfl ?_
  refine x_top (hM1.1.trans (by rw [asL_len a ha64])) ?_
  refine x_iconst dX6_laysGoods_71 ?_
  refine x_isub dX6_laysGoods_72 ?_
  refine x_imul dX6_laysGoods_73 ?_
  refine x_iadd dX6_laysGoods_74 ?_
  refine x_top (show 1440 + (gp : Int) * (((pcn a : Nat) : Int) - 1) = (c : Int) by rw [Int.mul_comm]; exact hcnt) ?_
  refine x_istore dX6_laysGoods_75 ?_
  refine x_iconst dX6_laysGoods_77 ?_
  refine x_istore dX6_laysGoods_78 ?_
  exact x_loc (lv' := [(0, vr E 96), (1, vi (a : Int)), (2, vi sp), (3, vi t0), (4, vi (c : Int)), (5, vi ((0 : Nat) : Int))]) ⟨rfl, rfl, rfl, rfl, rfl, rfl, trivial⟩ (loop 7 0 m1 (by omega) (by omega) ha1 hk1 hM1 (fun q hq => absurd hq (Nat.not_lt_zero q)))

end MH
