section PJ
theorem gI_w {v : Nat → Int} {s : Nat} {st sp : Int} {q : Nat → Int} {c : Nat} (hv : vOk0 v) (h : gI v s st sp (v 4).toNat 0 q c) : c ≤ 186 ∧ ∀ i, i < c → -4000 ≤ q i ∧ q i ≤ 9000 := by
  have hv4 := hv.2.2.2.2.1.1
  refine ⟨by have := h.1; omega, fun i hi => ?_⟩
  obtain ⟨b, k, h1, h2⟩ := h.2.1 i hi
  have := wa_b (b := b) (t := st + cm v s sp b + k) hv (by omega)
  rw [h2]
  omega
/-- the least that is left in a passage -/
def lstR (v : Nat → Int) (s : Nat) (st sp r : Int) : Prop := (v 4 = 0 ∧ r = -1000000) ∨ ((∃ b k : Nat, (b : Int) < v 4 ∧ (k : Int) ≤ tk (br v b 2) sp ∧ r = lfw v s (sh v s 0) (wa v b (st + cm v s sp b + k)) sp) ∧ ∀ b k : Nat, (b : Int) < v 4 → (k : Int) ≤ tk (br v b 2) sp → r ≤ lfw v s (sh v s 0) (wa v b (st + cm v s sp b + k)) sp)
theorem lstR_u {v : Nat → Int} {s : Nat} {st sp : Int} : ∀ a b, lstR v s st sp a → lstR v s st sp b → a = b := by
  intro a b ha hb
  rcases ha with ⟨h1, h2⟩ | ⟨⟨b1, k1, e1, e2, e3⟩, e4⟩
  · rcases hb with ⟨h3, h4⟩ | ⟨⟨b2, k2, f1, f2, f3⟩, f4⟩
    · omega
    · omega
  · rcases hb with ⟨h3, h4⟩ | ⟨⟨b2, k2, f1, f2, f3⟩, f4⟩
    · omega
    · have := e4 b2 k2 f1 f2
      have := f4 b1 k1 e1 e2
      omega
/-- the greatest draught by which a start is good -/
def dpR (v : Nat → Int) (s : Nat) (st sp r : Int) : Prop := (r = -1 ∧ ∀ d : Int, 100 ≤ d → d ≤ 2500 → ¬ good v s d st sp) ∨ (100 ≤ r ∧ r ≤ 2500 ∧ good v s r st sp ∧ ∀ d : Int, r < d → d ≤ 2500 → ¬ good v s d st sp)
theorem dpR_u {v : Nat → Int} {s : Nat} {st sp : Int} : ∀ a b, dpR v s st sp a → dpR v s st sp b → a = b := by
  intro a b ha hb
  rcases ha with ⟨h1, h2⟩ | ⟨e1, e2, e3, e4⟩
  · rcases hb with ⟨h3, h4⟩ | ⟨f1, f2, f3, f4⟩
    · omega
    · exact absurd f3 (h2 b f1 f2)
  · rcases hb with ⟨h3, h4⟩ | ⟨f1, f2, f3, f4⟩
    · exact absurd e3 (h4 a e1 e2)
    · rcases Int.lt_trichotomy a b with q | q | q
      · exact absurd f3 (e4 b q f2)
      · exact q
      · exact absurd e3 (f4 a q e2)
noncomputable def lst (v : Nat → Int) (s : Nat) (st sp : Int) : Int := pick (lstR v s st sp)
noncomputable def dps (v : Nat → Int) (s : Nat) (st sp : Int) : Int := pick (dpR v s st sp)
theorem lst_eq {v : Nat → Int} {s : Nat} {st sp r : Int} (h : lstR v s st sp r) : lst v s st sp = r := pick_eq h lstR_u
theorem dps_eq {v : Nat → Int} {s : Nat} {st sp r : Int} (h : dpR v s st sp r) : dps v s st sp = r := pick_eq h dpR_u
set_option maxRecDepth 20000 in
theorem s_isGood {E : xE} {f : Nat → Nat} {D : Nat → Nat × Nat} {n : Nat} {m : xM} {P : xPo} {PX : xPx} {v : Nat → Int} {s : Nat} {st sp : Int} (hE : eOk E) (hV : cV v f D m) (hs : (s : Int) < v 5) (hsp : 4 ≤ sp ∧ sp ≤ 25) (hst : 0 ≤ st ∧ st ≤ 20000) (hP : ∀ m', ag [86, 87, 89, 90] m m' → cT v m' → P (some (vi (zi (good v s (sh v s 0) st sp)))) (gS f D n) m') : xC E (yX2_isGood, cX2_isGood, 5, some .boolean) 6 0 0 [vr E 88, vi (s : Int), vi st, vi sp] (gS f D n) m P PX := by
  refine x_enter (by decide) rfl rfl (Nat.le_of_ble_eq_true rfl) ?_
  have hv4 := hV.1.1.2.2.2.2.1.1
  have hv5 := hV.1.1.2.2.2.2.2.1
  obtain ⟨hdr, -, hkp, -⟩ := hV.1.1.2.2.2.2.2.2 s hs
  refine x_aload_n dX2_isGood_0 rfl ?_
  refine x_iload_n dX2_isGood_1 rfl ?_
  refine x_iload_n dX2_isGood_2 rfl ?_
  refine x_iload_n dX2_isGood_3 rfl ?_
  refine x_V3 mX2_82 dX2_isGood_4 rfl (s_gatherWaters hV hs hsp hst (fun m1 c ha1 hT1 hg => ?_))
  have hV1 := hV.t ha1 hT1 (by decide) (by decide)
  obtain ⟨hc, hq⟩ := gI_w hV.1.1 hg
  refine x_istore dX2_isGood_7 ?_
  refine x_aload_n dX2_isGood_9 rfl ?_
  refine x_iload_n dX2_isGood_10 rfl ?_
  refine x_iload_n dX2_isGood_11 rfl ?_
  refine x_aload_n dX2_isGood_12 rfl ?_
  refine x_getR (r := 41) fX2_35 dX2_isGood_13 rfl rfl ?_
  refine x_iload_n dX2_isGood_16 rfl ?_
  refine x_iconst dX2_isGood_17 ?_
  refine x_V2 mX2_43 dX2_isGood_18 rfl (s_shipOf (8 * s + 0) (by omega) (by omega) ?_)
  refine x_top (hT1.1.2.2.2.s hs (by omega)) ?_
  refine x_iload dX2_isGood_21 rfl ?_
  refine x_V4 mX2_86 dX2_isGood_23 rfl (s_firstUnclear hE hV1 hs hsp (by omega) (by omega) (fun i hi => by have := hq i hi; omega) (fun r m2 ha2 hr => ?_))
  have hP := hP m2 (ha1.tr ha2 (by decide) (by decide)) (hT1.ag ha2 (by decide) (by decide) (by decide) (by decide) (by decide) (by decide))
  have hgg := gI_good hv4.1 hg (sh v s 0)
  refine x_iconst dX2_isGood_26 ?_
  refine x_icmp_ne (tgt := 34) dX2_isGood_27 (by decide) (by rcases hr with ⟨q, -⟩ | ⟨i, q, q2, -⟩ <;> omega) (fun h27 => ?_) (fun h27 => ?_)
  · refine x_iconst dX2_isGood_34 ?_
    exact x_zret dX2_isGood_35 (Or.inl rfl) ((Or.elim hr (fun q => absurd q.1 h27) (fun ⟨i, q, q2, q3⟩ => by rw [zi_f (fun z => q3 (hgg.mp z i q2))] at hP; exact hP)))
  · refine x_iconst dX2_isGood_30 ?_
    refine x_goto (tgt := 35) dX2_isGood_31 (by decide) ?_
    exact x_zret dX2_isGood_35 (Or.inr rfl) ((Or.elim hr (fun q => by rw [zi_t (hgg.mpr q.2)] at hP; exact hP) (fun ⟨i, q, q2, q3⟩ => absurd h27 (by omega))))

set_option maxRecDepth 20000 in
theorem s_leastBelowKeel {E : xE} {f : Nat → Nat} {D : Nat → Nat × Nat} {n : Nat} {m : xM} {P : xPo} {PX : xPx} {v : Nat → Int} {s : Nat} {st sp : Int} (hE : eOk E) (hV : cV v f D m) (hs : (s : Int) < v 5) (hsp : 4 ≤ sp ∧ sp ≤ 25) (hst : 0 ≤ st ∧ st ≤ 20000) (hP : ∀ m', ag [86, 87, 89, 90] m m' → cT v m' → P (some (vi (lst v s st sp))) (gS f D n) m') : xC E (yX2_leastBelowKeel, cX2_leastBelowKeel, 8, some .int) 5 0 0 [vr E 88, vi (s : Int), vi st, vi sp] (gS f D n) m P PX := by
  refine x_enter (by decide) rfl rfl (Nat.le_of_ble_eq_true rfl) ?_
  have hv4 := hV.1.1.2.2.2.2.1.1
  have hv5 := hV.1.1.2.2.2.2.2.1
  obtain ⟨hdr, -, hkp, -⟩ := hV.1.1.2.2.2.2.2.2 s hs
  refine x_aload_n dX2_leastBelowKeel_0 rfl ?_
  refine x_iload_n dX2_leastBelowKeel_1 rfl ?_
  refine x_iload_n dX2_leastBelowKeel_2 rfl ?_
  refine x_iload_n dX2_leastBelowKeel_3 rfl ?_
  refine x_V3 mX2_82 dX2_leastBelowKeel_4 rfl (s_gatherWaters hV hs hsp hst (fun m1 c ha1 hT1 hg => ?_))
  have hV1 := hV.t ha1 hT1 (by decide) (by decide)
  obtain ⟨hc, hq⟩ := gI_w hV.1.1 hg
  refine x_istore dX2_leastBelowKeel_7 ?_
  refine x_iload dX2_leastBelowKeel_9 rfl ?_
  refine x_if_ne (tgt := 17) dX2_leastBelowKeel_11 (by decide) (by omega) (fun h11 => ?_) (fun h11 => ?_)
  · refine x_aload_n dX2_leastBelowKeel_17 rfl ?_
    refine x_getR (r := 41) fX2_35 dX2_leastBelowKeel_18 rfl rfl ?_
    refine x_iload_n dX2_leastBelowKeel_21 rfl ?_
    refine x_iconst dX2_leastBelowKeel_22 ?_
    refine x_V2 mX2_43 dX2_leastBelowKeel_23 rfl (s_shipOf (8 * s + 0) (by omega) (by omega) ?_)
    refine x_top (hT1.1.2.2.2.s hs (by omega)) ?_
    refine x_istore dX2_leastBelowKeel_26 ?_
    refine x_aload_n dX2_leastBelowKeel_28 rfl ?_
    refine x_iload_n dX2_leastBelowKeel_29 rfl ?_
    refine x_iload_n dX2_leastBelowKeel_30 rfl ?_
    refine x_iload dX2_leastBelowKeel_31 rfl ?_
    refine x_aload_n dX2_leastBelowKeel_33 rfl ?_
    refine x_getR (r := 90) fX2_15 dX2_leastBelowKeel_34 rfl rfl ?_
    refine x_iconst dX2_leastBelowKeel_37 ?_
    refine x_iald (j := 0) dX2_leastBelowKeel_38 rfl (by omega) (show _ < 2670 by omega) (by omega) ?_
    have hq0 := hq 0 (by omega)
    have hlf0 := lfw_b (dr := sh v s 0) (w := m1 90 0) hV.1 hs hsp (by omega) (by omega)
    refine x_V4 mX2_79 dX2_leastBelowKeel_39 rfl (s_belowKeel hE hV1 hs hsp (by omega) (by omega) (fun m3 ha3 => ?_))
    refine x_istore dX2_leastBelowKeel_42 ?_
    refine x_iconst dX2_leastBelowKeel_44 ?_
    refine x_istore dX2_leastBelowKeel_45 ?_
    have loop : ∀ (j i : Nat) (m2 : xM) (x : Int), c < i + j → i ≤ c → 1 ≤ i → ag [89] m1 m2 → (∃ i0, i0 < c ∧ x = lfw v s (sh v s 0) (m1 90 i0) sp) → (∀ k, k < i → x ≤ lfw v s (sh v s 0) (m1 90 k) sp) → (-30000 ≤ x ∧ x ≤ 20000) → xX E (("leastBelowKeel", some .int, []), (5, 0, 0), P, PX) RX2 cX2_leastBelowKeel 8 0 0 47 [(0, vr E 88), (1, vi (s : Int)), (2, vi st), (3, vi sp), (4, vi (c : Int)), (5, vi (sh v s 0)), (6, vi x), (7, vi (i : Int))] [] (gS f D n) m2 := by
      intro j
      induction j with
      | zero => intro i m2 x h1 h2; omega
      | succ j ih =>
        intro i m2 x h1 h2 h3 ha2 hex hal hxb
        refine x_iload dX2_leastBelowKeel_47 rfl ?_
        refine x_iload dX2_leastBelowKeel_49 rfl ?_
        refine x_icmp_ge (tgt := 82) dX2_leastBelowKeel_51 (by decide) (by omega) (fun h51 => ?_) (fun h51 => ?_)
        · refine x_iload dX2_leastBelowKeel_82 rfl ?_
          exact x_iret dX2_leastBelowKeel_84  ((by
          have hce : i = c := by omega
          subst hce
          have hP := hP m2 (ha1.tr ha2 (by decide) (by decide)) (hT1.ag ha2 (by decide) (by decide) (by decide) (by decide) (by decide) (by decide))
          rw [lst_eq (r := x) (Or.inr ⟨?_, fun b k hb hk => ?_⟩)] at hP
          · exact hP
          · obtain ⟨i0, y1, y2⟩ := hex
            obtain ⟨b, k, z1, z2⟩ := hg.2.1 i0 y1
            exact ⟨b, k, by omega, by omega, by rw [y2, z2]⟩
          · obtain ⟨i0, y1, y2⟩ := hg.2.2 b k (Or.inl ⟨by omega, hk⟩)
            rw [← y2]
            exact hal i0 y1))
        · refine x_iload dX2_leastBelowKeel_54 rfl ?_
          refine x_aload_n dX2_leastBelowKeel_56 rfl ?_
          refine x_iload_n dX2_leastBelowKeel_57 rfl ?_
          refine x_iload_n dX2_leastBelowKeel_58 rfl ?_
          refine x_iload dX2_leastBelowKeel_59 rfl ?_
          refine x_aload_n dX2_leastBelowKeel_61 rfl ?_
          refine x_getR (r := 90) fX2_15 dX2_leastBelowKeel_62 rfl rfl ?_
          refine x_iload dX2_leastBelowKeel_65 rfl ?_
          refine x_iald (j := i) dX2_leastBelowKeel_67 rfl (by omega) (show _ < 2670 by omega) (by omega) ?_
          refine x_top (show m2 90 i = m1 90 i by rw [ha2 90 (by decide)]) ?_
          have hqi := hq i (by omega)
          have hlf := lfw_b (dr := sh v s 0) (w := m1 90 i) hV.1 hs hsp (by omega) (by omega)
          refine x_V4 mX2_79 dX2_leastBelowKeel_68 rfl (s_belowKeel hE (hV1.ag ha2 (by decide) (by decide) (by decide) (by decide) (by decide) (by decide) (by decide)) hs hsp (by omega) (by omega) (fun m3 ha3 => ?_))
          refine x_S2 mX2_90 dX2_leastBelowKeel_71 (s_min (by omega) ?_)
          refine x_istore dX2_leastBelowKeel_74 ?_
          refine x_iinc dX2_leastBelowKeel_76 rfl ?_
          refine x_goto (tgt := 47) dX2_leastBelowKeel_79 (by decide) ?_
          refine x_loc (lv' := [(0, vr E 88), (1, vi (s : Int)), (2, vi st), (3, vi sp), (4, vi (c : Int)), (5, vi (sh v s 0)), (6, vi (min x (lfw v s (sh v s 0) (m1 90 i) sp))), (7, vi ((i + 1 : Nat) : Int))]) ⟨rfl, rfl, rfl, rfl, rfl, rfl, rfl, xl_i rfl (by omega), trivial⟩ (ih (i + 1) m3 _ (by omega) (by omega) (by omega) (ha2.tr1 ha3) ?_ (lt_s (fun k hk => by have := hal k hk; omega) (by omega)) (by omega))
          rcases (by omega : min x (lfw v s (sh v s 0) (m1 90 i) sp) = x ∨ min x (lfw v s (sh v s 0) (m1 90 i) sp) = lfw v s (sh v s 0) (m1 90 i) sp) with z | z
          · obtain ⟨i0, y1, y2⟩ := hex
            exact ⟨i0, by omega, by rw [z]; exact y2⟩
          · exact ⟨i, by omega, z⟩
    exact x_loc (lv' := [(0, vr E 88), (1, vi (s : Int)), (2, vi st), (3, vi sp), (4, vi (c : Int)), (5, vi (sh v s 0)), (6, vi (lfw v s (sh v s 0) (m1 90 0) sp)), (7, vi ((1 : Nat) : Int))]) ⟨rfl, rfl, rfl, rfl, rfl, rfl, rfl, rfl, trivial⟩ (loop (c + 1) 1 m3 _ (by omega) (by omega) (by omega) ha3 ⟨0, by omega, rfl⟩ (fun k hk => by rw [show k = 0 by omega]; omega) (by omega))
  · have hz : v 4 = 0 := by
      rcases (by omega : v 4 = 0 ∨ 0 < v 4) with q | q
      · exact q
      · have hsg := sg_b hV.1.1.2.2.2.2.1 (p := 0) (by omega) hsp
        obtain ⟨i, q1, -⟩ := hg.2.2 0 0 (Or.inl ⟨by omega, by omega⟩)
        omega
    refine x_ldc kX2_89 dX2_leastBelowKeel_14 ?_
    exact x_iret dX2_leastBelowKeel_16  ((by have hP := hP m1 (ha1.wk (by decide)) hT1; rw [lst_eq (Or.inl ⟨hz, rfl⟩)] at hP; exact hP))

set_option maxRecDepth 20000 in
theorem s_deepestDraught {E : xE} {f : Nat → Nat} {D : Nat → Nat × Nat} {n : Nat} {m : xM} {P : xPo} {PX : xPx} {v : Nat → Int} {s : Nat} {st sp : Int} (hE : eOk E) (hV : cV v f D m) (hs : (s : Int) < v 5) (hsp : 4 ≤ sp ∧ sp ≤ 25) (hst : 0 ≤ st ∧ st ≤ 20000) (hP : ∀ m', ag [86, 87, 89, 90] m m' → cT v m' → P (some (vi (dps v s st sp))) (gS f D n) m') : xC E (yX2_deepestDraught, cX2_deepestDraught, 8, some .int) 6 0 0 [vr E 88, vi (s : Int), vi st, vi sp] (gS f D n) m P PX := by
  refine x_enter (by decide) rfl rfl (Nat.le_of_ble_eq_true rfl) ?_
  have hv4 := hV.1.1.2.2.2.2.1.1
  have hv5 := hV.1.1.2.2.2.2.2.1
  obtain ⟨hdr, -, hkp, -⟩ := hV.1.1.2.2.2.2.2.2 s hs
  refine x_aload_n dX2_deepestDraught_0 rfl ?_
  refine x_iload_n dX2_deepestDraught_1 rfl ?_
  refine x_iload_n dX2_deepestDraught_2 rfl ?_
  refine x_iload_n dX2_deepestDraught_3 rfl ?_
  refine x_V3 mX2_82 dX2_deepestDraught_4 rfl (s_gatherWaters hV hs hsp hst (fun m1 c ha1 hT1 hg => ?_))
  have hV1 := hV.t ha1 hT1 (by decide) (by decide)
  obtain ⟨hc, hq⟩ := gI_w hV.1.1 hg
  have hgg := gI_good hv4.1 hg
  have loop2 : ∀ (j : Nat) (d : Int) (fl : Nat) (m2 : xM), d + 6000 < (j : Int) → (-6000 ≤ d ∧ d ≤ 2500) → (fl < c ∨ fl = 0) → ag [89] m1 m2 → (∀ d9 : Int, d < d9 → d9 ≤ 2500 → ¬ good v s d9 st sp) → xX E (("deepestDraught", some .int, []), (6, 0, 0), P, PX) RX2 cX2_deepestDraught 8 0 0 57 [(0, vr E 88), (1, vi (s : Int)), (2, vi st), (3, vi sp), (4, vi (c : Int)), (5, vi d), (6, vi (fl : Int))] [] (gS f D n) m2 := by
    intro j
    induction j with
    | zero => intro d fl m2 h1 h2 h3; omega
    | succ j ih =>
      intro d fl m2 h1 h2 h3 ha2 hno
      refine x_iload dX2_deepestDraught_57 rfl ?_
      refine x_bipush dX2_deepestDraught_59 (h := ?_)
      refine x_icmp_lt (tgt := 121) dX2_deepestDraught_61 (by decide) (by omega) (fun h61 => ?_) (fun h61 => ?_)
      · have hP := hP m2 (ha1.tr ha2 (by decide) (by decide)) (hT1.ag ha2 (by decide) (by decide) (by decide) (by decide) (by decide) (by decide))
        refine x_iconst dX2_deepestDraught_121 ?_
        exact x_iret dX2_deepestDraught_122  ((by rw [dps_eq (r := -1) (Or.inl ⟨rfl, fun d9 h91 h92 => hno d9 (by omega) h92⟩)] at hP; exact hP))
      · refine x_iload dX2_deepestDraught_64 rfl ?_
        refine x_if_le (tgt := 90) dX2_deepestDraught_66 (by decide) (by omega) (fun h66 => ?_) (fun h66 => ?_)
        · refine x_aload_n dX2_deepestDraught_90 rfl ?_
          refine x_iload_n dX2_deepestDraught_91 rfl ?_
          refine x_iload_n dX2_deepestDraught_92 rfl ?_
          refine x_iload dX2_deepestDraught_93 rfl ?_
          refine x_iload dX2_deepestDraught_95 rfl ?_
          refine x_V4 mX2_86 dX2_deepestDraught_97 rfl (s_firstUnclear hE (hV1.ag ha2 (by decide) (by decide) (by decide) (by decide) (by decide) (by decide) (by decide)) hs hsp (by omega) (by omega) (fun i hi => by have := hq i hi; rw [ha2 90 (by decide)]; omega) (fun r m4 ha4 hr => ?_))
          have hr : (r = -1 ∧ ∀ i, i < c → clr v s d (m1 90 i) sp) ∨ (∃ i : Nat, r = (i : Int) ∧ i < c ∧ ¬ clr v s d (m1 90 i) sp) := by
            rw [ha2 90 (by decide)] at hr
            exact hr
          refine x_istore dX2_deepestDraught_100 ?_
          refine x_iload dX2_deepestDraught_102 rfl ?_
          refine x_iconst dX2_deepestDraught_104 ?_
          refine x_icmp_ne (tgt := 111) dX2_deepestDraught_105 (by decide) (by rcases hr with ⟨q, -⟩ | ⟨i, q, q2, -⟩ <;> omega) (fun h105 => ?_) (fun h105 => ?_)
          · obtain ⟨i, hri, hic, hbad⟩ : ∃ i : Nat, r = (i : Int) ∧ i < c ∧ ¬ clr v s d (m1 90 i) sp := by
              rcases hr with ⟨q, -⟩ | q
              · exact absurd q h105
              · exact q
            refine x_iload dX2_deepestDraught_111 rfl ?_
            refine x_istore dX2_deepestDraught_113 ?_
            refine x_iinc dX2_deepestDraught_115 rfl ?_
            refine x_goto (tgt := 57) dX2_deepestDraught_118 (by decide) ?_
            exact x_loc (lv' := [(0, vr E 88), (1, vi (s : Int)), (2, vi st), (3, vi sp), (4, vi (c : Int)), (5, vi (d + -1)), (6, vi ((i : Nat) : Int))]) ⟨rfl, rfl, rfl, rfl, rfl, rfl, xl_i rfl (by omega), trivial⟩ (ih (d + -1) i m4 (by omega) (by omega) (by omega) (ha2.tr1 ha4) (fun d9 h91 h92 hgd => Or.elim (by omega : d < d9 ∨ d9 = d) (fun z => hno d9 z h92 hgd) (fun z => by subst z; exact hbad ((hgg _).mp hgd _ (by omega)))))
          · have hall : ∀ i, i < c → clr v s d (m1 90 i) sp := by
              rcases hr with ⟨-, q⟩ | ⟨i, q, q2, q3⟩
              · exact q
              · omega
            refine x_iload dX2_deepestDraught_108 rfl ?_
            exact x_iret dX2_deepestDraught_110  ((by have hP := hP m4 (ha1.tr (ha2.tr1 ha4) (by decide) (by decide)) (hT1.ag (ha2.tr1 ha4) (by decide) (by decide) (by decide) (by decide) (by decide) (by decide)); rw [dps_eq (r := d) (Or.inr ⟨by omega, by omega, (hgg d).mpr hall, fun d9 h91 h92 => hno d9 h91 h92⟩)] at hP; exact hP))
        · refine x_aload_n dX2_deepestDraught_69 rfl ?_
          refine x_iload_n dX2_deepestDraught_70 rfl ?_
          refine x_iload_n dX2_deepestDraught_71 rfl ?_
          refine x_iload dX2_deepestDraught_72 rfl ?_
          refine x_aload_n dX2_deepestDraught_74 rfl ?_
          refine x_getR (r := 90) fX2_15 dX2_deepestDraught_75 rfl rfl ?_
          refine x_iload dX2_deepestDraught_78 rfl ?_
          refine x_iald (j := fl) dX2_deepestDraught_80 rfl (by omega) (show _ < 2670 by omega) (by omega) ?_
          refine x_top (show m2 90 fl = m1 90 fl by rw [ha2 90 (by decide)]) ?_
          have hqi := hq fl (by omega)
          refine x_V4 mX2_92 dX2_deepestDraught_81 rfl (s_isClear hE (hV1.ag ha2 (by decide) (by decide) (by decide) (by decide) (by decide) (by decide) (by decide)) hs hsp (by omega) (by omega) (fun m3 ha3 => ?_))
          refine x_if_ne (tgt := 90) dX2_deepestDraught_84 (by decide) (zi_r _) (fun h84 => ?_) (fun h84 => ?_)
          · refine x_aload_n dX2_deepestDraught_90 rfl ?_
            refine x_iload_n dX2_deepestDraught_91 rfl ?_
            refine x_iload_n dX2_deepestDraught_92 rfl ?_
            refine x_iload dX2_deepestDraught_93 rfl ?_
            refine x_iload dX2_deepestDraught_95 rfl ?_
            refine x_V4 mX2_86 dX2_deepestDraught_97 rfl (s_firstUnclear hE (hV1.ag (ha2.tr1 ha3) (by decide) (by decide) (by decide) (by decide) (by decide) (by decide) (by decide)) hs hsp (by omega) (by omega) (fun i hi => by have := hq i hi; rw [ha3 90 (by decide), ha2 90 (by decide)]; omega) (fun r m4 ha4 hr => ?_))
            have hr : (r = -1 ∧ ∀ i, i < c → clr v s d (m1 90 i) sp) ∨ (∃ i : Nat, r = (i : Int) ∧ i < c ∧ ¬ clr v s d (m1 90 i) sp) := by
              rw [ha3 90 (by decide), ha2 90 (by decide)] at hr
              exact hr
            refine x_istore dX2_deepestDraught_100 ?_
            refine x_iload dX2_deepestDraught_102 rfl ?_
            refine x_iconst dX2_deepestDraught_104 ?_
            refine x_icmp_ne (tgt := 111) dX2_deepestDraught_105 (by decide) (by rcases hr with ⟨q, -⟩ | ⟨i, q, q2, -⟩ <;> omega) (fun h105 => ?_) (fun h105 => ?_)
            · obtain ⟨i, hri, hic, hbad⟩ : ∃ i : Nat, r = (i : Int) ∧ i < c ∧ ¬ clr v s d (m1 90 i) sp := by
                rcases hr with ⟨q, -⟩ | q
                · exact absurd q h105
                · exact q
              refine x_iload dX2_deepestDraught_111 rfl ?_
              refine x_istore dX2_deepestDraught_113 ?_
              refine x_iinc dX2_deepestDraught_115 rfl ?_
              refine x_goto (tgt := 57) dX2_deepestDraught_118 (by decide) ?_
              exact x_loc (lv' := [(0, vr E 88), (1, vi (s : Int)), (2, vi st), (3, vi sp), (4, vi (c : Int)), (5, vi (d + -1)), (6, vi ((i : Nat) : Int))]) ⟨rfl, rfl, rfl, rfl, rfl, rfl, xl_i rfl (by omega), trivial⟩ (ih (d + -1) i m4 (by omega) (by omega) (by omega) ((ha2.tr1 ha3).tr1 ha4) (fun d9 h91 h92 hgd => Or.elim (by omega : d < d9 ∨ d9 = d) (fun z => hno d9 z h92 hgd) (fun z => by subst z; exact hbad ((hgg _).mp hgd _ (by omega)))))
            · have hall : ∀ i, i < c → clr v s d (m1 90 i) sp := by
                rcases hr with ⟨-, q⟩ | ⟨i, q, q2, q3⟩
                · exact q
                · omega
              refine x_iload dX2_deepestDraught_108 rfl ?_
              exact x_iret dX2_deepestDraught_110  ((by have hP := hP m4 (ha1.tr ((ha2.tr1 ha3).tr1 ha4) (by decide) (by decide)) (hT1.ag ((ha2.tr1 ha3).tr1 ha4) (by decide) (by decide) (by decide) (by decide) (by decide) (by decide)); rw [dps_eq (r := d) (Or.inr ⟨by omega, by omega, (hgg d).mpr hall, fun d9 h91 h92 => hno d9 h91 h92⟩)] at hP; exact hP))
          · have hbad : ¬ clr v s d (m1 90 fl) sp := zi_0.mp h84
            refine x_goto (tgt := 115) dX2_deepestDraught_87 (by decide) ?_
            refine x_iinc dX2_deepestDraught_115 rfl ?_
            refine x_goto (tgt := 57) dX2_deepestDraught_118 (by decide) ?_
            exact x_loc (lv' := [(0, vr E 88), (1, vi (s : Int)), (2, vi st), (3, vi sp), (4, vi (c : Int)), (5, vi (d + -1)), (6, vi ((fl : Nat) : Int))]) ⟨rfl, rfl, rfl, rfl, rfl, rfl, rfl, trivial⟩ (ih (d + -1) fl m3 (by omega) (by omega) (by omega) (ha2.tr1 ha3) (fun d9 h91 h92 hgd => Or.elim (by omega : d < d9 ∨ d9 = d) (fun z => hno d9 z h92 hgd) (fun z => by subst z; exact hbad ((hgg _).mp hgd _ (by omega)))))
  have loop1 : ∀ (j i : Nat) (d : Int), c < i + j → i ≤ c → (-5000 ≤ d ∧ d ≤ 2500) → (∀ d9 : Int, d < d9 → d9 ≤ 2500 → ¬ good v s d9 st sp) → xX E (("deepestDraught", some .int, []), (6, 0, 0), P, PX) RX2 cX2_deepestDraught 8 0 0 17 [(0, vr E 88), (1, vi (s : Int)), (2, vi st), (3, vi sp), (4, vi (c : Int)), (5, vi d), (6, vi (i : Int))] [] (gS f D n) m1 := by
    intro j
    induction j with
    | zero => intro i d h1 h2; omega
    | succ j ih =>
      intro i d h1 h2 hd hno
      refine x_iload dX2_deepestDraught_17 rfl ?_
      refine x_iload dX2_deepestDraught_19 rfl ?_
      refine x_icmp_ge (tgt := 54) dX2_deepestDraught_21 (by decide) (by omega) (fun h21 => ?_) (fun h21 => ?_)
      · refine x_iconst dX2_deepestDraught_54 ?_
        refine x_istore dX2_deepestDraught_55 ?_
        exact x_loc (lv' := [(0, vr E 88), (1, vi (s : Int)), (2, vi st), (3, vi sp), (4, vi (c : Int)), (5, vi d), (6, vi ((0 : Nat) : Int))]) ⟨rfl, rfl, rfl, rfl, rfl, rfl, rfl, trivial⟩ (loop2 (d + 6001).toNat d 0 m1 (by omega) (by omega) (by omega) ag.rf hno)
      · refine x_iload dX2_deepestDraught_24 rfl ?_
        refine x_aload_n dX2_deepestDraught_26 rfl ?_
        refine x_getR (r := 90) fX2_15 dX2_deepestDraught_27 rfl rfl ?_
        refine x_iload dX2_deepestDraught_30 rfl ?_
        refine x_iald (j := i) dX2_deepestDraught_32 rfl (by omega) (show _ < 2670 by omega) (by omega) ?_
        have hqi := hq i (by omega)
        refine x_aload_n dX2_deepestDraught_33 rfl ?_
        refine x_getR (r := 41) fX2_35 dX2_deepestDraught_34 rfl rfl ?_
        refine x_iload_n dX2_deepestDraught_37 rfl ?_
        refine x_iconst dX2_deepestDraught_38 ?_
        refine x_V2 mX2_43 dX2_deepestDraught_39 rfl (s_shipOf (8 * s + 2) (by omega) (by omega) ?_)
        refine x_top (hT1.1.2.2.2.s hs (by omega)) ?_
        refine x_isub dX2_deepestDraught_42 ?_
        refine x_S2 mX2_90 dX2_deepestDraught_43 (s_min (by omega) ?_)
        refine x_istore dX2_deepestDraught_46 ?_
        refine x_iinc dX2_deepestDraught_48 rfl ?_
        refine x_goto (tgt := 17) dX2_deepestDraught_51 (by decide) ?_
        exact x_loc (lv' := [(0, vr E 88), (1, vi (s : Int)), (2, vi st), (3, vi sp), (4, vi (c : Int)), (5, vi (min d (m1 90 i - sh v s 2))), (6, vi ((i + 1 : Nat) : Int))]) ⟨rfl, rfl, rfl, rfl, rfl, rfl, xl_i rfl (by omega), trivial⟩ (ih (i + 1) _ (by omega) (by omega) (by omega) (fun d9 h91 h92 hgd => Or.elim (Int.lt_or_le d d9) (fun z => hno d9 z h92 hgd) (fun z => by have := (hgg d9).mp hgd i (by omega); have hk9 := sk_b (dr := d9) (w := m1 90 i) hV.1 hs hsp; unfold clr lfw at this; omega)))
  refine x_istore dX2_deepestDraught_7 ?_
  refine x_sipush dX2_deepestDraught_9 (h := ?_)
  refine x_istore dX2_deepestDraught_12 ?_
  refine x_iconst dX2_deepestDraught_14 ?_
  refine x_istore dX2_deepestDraught_15 ?_
  exact x_loc (lv' := [(0, vr E 88), (1, vi (s : Int)), (2, vi st), (3, vi sp), (4, vi (c : Int)), (5, vi 2500), (6, vi ((0 : Nat) : Int))]) ⟨rfl, rfl, rfl, rfl, rfl, rfl, rfl, trivial⟩ (loop1 (c + 1) 0 2500 (by omega) (by omega) (by omega) (fun d9 h91 h92 => by omega))

end PJ
