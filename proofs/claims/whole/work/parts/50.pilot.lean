section PI
/-- a number by what it must be -/
noncomputable def pick (R : Int → Prop) : Int := @dite Int (∃ r, R r) (Classical.propDecidable _) (fun h => Classical.choose h) (fun _ => 0)
theorem pick_eq {R : Int → Prop} {r : Int} (h : R r) (hu : ∀ a b, R a → R b → a = b) : pick R = r := by
  unfold pick
  have hx : ∃ r, R r := ⟨r, h⟩
  rw [dif_pos hx]
  exact hu _ _ (Classical.choose_spec hx) h
/-- the waters of the minutes of a passage at the first B bars (and K minutes of the next): q of them -/
def gI (v : Nat → Int) (s : Nat) (st sp : Int) (B K : Nat) (q : Nat → Int) (c : Nat) : Prop :=
  c ≤ 31 * B + K ∧ (∀ i, i < c → ∃ b k : Nat, ((b < B ∧ (k : Int) ≤ tk (br v b 2) sp) ∨ (b = B ∧ k < K)) ∧ q i = wa v b (st + cm v s sp b + k)) ∧
  (∀ b k : Nat, ((b < B ∧ (k : Int) ≤ tk (br v b 2) sp) ∨ (b = B ∧ k < K)) → ∃ i, i < c ∧ q i = wa v b (st + cm v s sp b + k))
theorem gI_00 {v : Nat → Int} {s : Nat} {st sp : Int} {q : Nat → Int} : gI v s st sp 0 0 q 0 :=
  ⟨Nat.le_refl _, fun i hi => absurd hi (Nat.not_lt_zero i), fun b k h => by omega⟩
theorem gI_sk {v : Nat → Int} {s : Nat} {st sp : Int} {B K : Nat} {q : Nat → Int} {c : Nat} (h : gI v s st sp B K q c) (hx : ∃ i, i < c ∧ q i = wa v B (st + cm v s sp B + K)) : gI v s st sp B (K + 1) q c := by
  refine ⟨by have := h.1; omega, fun i hi => ?_, fun b k hb => ?_⟩
  · obtain ⟨b, k, h1, h2⟩ := h.2.1 i hi
    exact ⟨b, k, by omega, h2⟩
  · rcases (by omega : ((b < B ∧ (k : Int) ≤ tk (br v b 2) sp) ∨ (b = B ∧ k < K)) ∨ (b = B ∧ k = K)) with z | ⟨rfl, rfl⟩
    · exact h.2.2 b k z
    · exact hx
theorem gI_st {v : Nat → Int} {s : Nat} {st sp : Int} {B K : Nat} {q q' : Nat → Int} {c : Nat} (h : gI v s st sp B K q c) (hq : ∀ i, q' i = if i = c then wa v B (st + cm v s sp B + K) else q i) : gI v s st sp B (K + 1) q' (c + 1) := by
  refine ⟨by have := h.1; omega, fun i hi => ?_, fun b k hb => ?_⟩
  · rw [hq i]
    by_cases e : i = c
    · rw [if_pos e]
      exact ⟨B, K, by omega, rfl⟩
    · rw [if_neg e]
      obtain ⟨b, k, h1, h2⟩ := h.2.1 i (by omega)
      exact ⟨b, k, by omega, h2⟩
  · rcases (by omega : ((b < B ∧ (k : Int) ≤ tk (br v b 2) sp) ∨ (b = B ∧ k < K)) ∨ (b = B ∧ k = K)) with z | ⟨rfl, rfl⟩
    · obtain ⟨i, h1, h2⟩ := h.2.2 b k z
      exact ⟨i, by omega, by rw [hq i, if_neg (by omega)]; exact h2⟩
    · exact ⟨c, by omega, by rw [hq c, if_pos rfl]⟩
theorem gI_up {v : Nat → Int} {s : Nat} {st sp : Int} {B K : Nat} {q : Nat → Int} {c : Nat} (h : gI v s st sp B K q c) (hK : (K : Int) = tk (br v B 2) sp + 1) (hK2 : K ≤ 31) : gI v s st sp (B + 1) 0 q c := by
  refine ⟨by have := h.1; omega, fun i hi => ?_, fun b k hb => ?_⟩
  · obtain ⟨b, k, h1, h2⟩ := h.2.1 i hi
    refine ⟨b, k, ?_, h2⟩
    rcases h1 with z | ⟨rfl, z⟩
    · omega
    · exact Or.inl ⟨by omega, by omega⟩
  · refine h.2.2 b k ?_
    rcases hb with ⟨z1, z2⟩ | ⟨z1, z2⟩
    · by_cases e : b = B
      · subst e; exact Or.inr ⟨rfl, by omega⟩
      · exact Or.inl ⟨by omega, z2⟩
    · omega
theorem gI_good {v : Nat → Int} {s : Nat} {st sp : Int} {q : Nat → Int} {c : Nat} (hv : 0 ≤ v 4) (h : gI v s st sp (v 4).toNat 0 q c) (dr : Int) : good v s dr st sp ↔ ∀ i, i < c → clr v s dr (q i) sp := by
  constructor
  · intro hg i hi
    obtain ⟨b, k, h1, h2⟩ := h.2.1 i hi
    rw [h2]
    exact hg b (by omega) k (by omega)
  · intro ha b hb k hk
    obtain ⟨i, h1, h2⟩ := h.2.2 b k (Or.inl ⟨by omega, hk⟩)
    rw [← h2]
    exact ha i h1
set_option maxRecDepth 20000 in
theorem s_belowKeel {E : xE} {f : Nat → Nat} {D : Nat → Nat × Nat} {n : Nat} {m : xM} {P : xPo} {PX : xPx} {v : Nat → Int} {s : Nat} {sp dr w : Int} (hE : eOk E) (hV : cV v f D m) (hs : (s : Int) < v 5) (hsp : 4 ≤ sp ∧ sp ≤ 25) (hdr : 0 ≤ dr ∧ dr ≤ 3000) (hw : -10000 ≤ w ∧ w ≤ 20000) (hP : ∀ m', ag [89] m m' → P (some (vi (lfw v s dr w sp))) (gS f D n) m') : xC E (yX2_belowKeel, cX2_belowKeel, 5, some .int) 3 0 0 [vr E 88, vi (s : Int), vi sp, vi dr, vi w] (gS f D n) m P PX := by
  refine x_enter (by decide) rfl rfl (Nat.le_of_ble_eq_true rfl) ?_
  refine x_iload dX2_belowKeel_0 rfl ?_
  refine x_iload_n dX2_belowKeel_2 rfl ?_
  refine x_isub dX2_belowKeel_3 ?_
  refine x_aload_n dX2_belowKeel_4 rfl ?_
  refine x_iload_n dX2_belowKeel_5 rfl ?_
  refine x_iload_n dX2_belowKeel_6 rfl ?_
  refine x_iload_n dX2_belowKeel_7 rfl ?_
  refine x_iload dX2_belowKeel_8 rfl ?_
  refine x_V4 mX2_75 dX2_belowKeel_10 rfl (s_sinks hE hV hs hsp hdr hw (fun m1 ha => ?_))
  refine x_isub dX2_belowKeel_13 ?_
  exact x_iret dX2_belowKeel_14  (hP m1 ha)

set_option maxRecDepth 20000 in
theorem s_isClear {E : xE} {f : Nat → Nat} {D : Nat → Nat × Nat} {n : Nat} {m : xM} {P : xPo} {PX : xPx} {v : Nat → Int} {s : Nat} {sp dr w : Int} (hE : eOk E) (hV : cV v f D m) (hs : (s : Int) < v 5) (hsp : 4 ≤ sp ∧ sp ≤ 25) (hdr : 0 ≤ dr ∧ dr ≤ 3000) (hw : -10000 ≤ w ∧ w ≤ 20000) (hP : ∀ m', ag [89] m m' → P (some (vi (zi (clr v s dr w sp)))) (gS f D n) m') : xC E (yX2_isClear, cX2_isClear, 5, some .boolean) 4 0 0 [vr E 88, vi (s : Int), vi sp, vi dr, vi w] (gS f D n) m P PX := by
  refine x_enter (by decide) rfl rfl (Nat.le_of_ble_eq_true rfl) ?_
  have hv5 := hV.1.1.2.2.2.2.2.1
  obtain ⟨-, -, hkp, -⟩ := hV.1.1.2.2.2.2.2.2 s hs
  have hlf := lfw_b hV.1 hs hsp hdr hw
  refine x_aload_n dX2_isClear_0 rfl ?_
  refine x_iload_n dX2_isClear_1 rfl ?_
  refine x_iload_n dX2_isClear_2 rfl ?_
  refine x_iload_n dX2_isClear_3 rfl ?_
  refine x_iload dX2_isClear_4 rfl ?_
  refine x_V4 mX2_79 dX2_isClear_6 rfl (s_belowKeel hE hV hs hsp hdr hw (fun m1 ha => ?_))
  refine x_aload_n dX2_isClear_9 rfl ?_
  refine x_getR (r := 41) fX2_35 dX2_isClear_10 rfl rfl ?_
  refine x_iload_n dX2_isClear_13 rfl ?_
  refine x_iconst dX2_isClear_14 ?_
  refine x_V2 mX2_43 dX2_isClear_15 rfl (s_shipOf (8 * s + 2) (by omega) (by omega) ?_)
  refine x_top ((hV.ag ha (by decide) (by decide) (by decide) (by decide) (by decide) (by decide) (by decide)).2.1.1.2.2.2.s hs (by omega)) ?_
  refine x_icmp_lt (tgt := 25) dX2_isClear_18 (by decide) (by omega) (fun h18 => ?_) (fun h18 => ?_)
  · refine x_iconst dX2_isClear_25 ?_
    exact x_zret dX2_isClear_26 (Or.inl rfl) ((by have hP := hP m1 ha; rw [zi_f (by unfold clr; omega)] at hP; exact hP))
  · refine x_iconst dX2_isClear_21 ?_
    refine x_goto (tgt := 26) dX2_isClear_22 (by decide) ?_
    exact x_zret dX2_isClear_26 (Or.inr rfl) ((by have hP := hP m1 ha; rw [zi_t (by unfold clr; omega)] at hP; exact hP))

set_option maxRecDepth 20000 in
theorem s_gatherWaters {E : xE} {f : Nat → Nat} {D : Nat → Nat × Nat} {n : Nat} {m : xM} {P : xPo} {PX : xPx} {v : Nat → Int} {s : Nat} {st sp : Int} (hV : cV v f D m) (hs : (s : Int) < v 5) (hsp : 4 ≤ sp ∧ sp ≤ 25) (hst : 0 ≤ st ∧ st ≤ 20000) (hP : ∀ m' (c : Nat), ag [86, 87, 90] m m' → cT v m' → gI v s st sp (v 4).toNat 0 (m' 90) c → P (some (vi (c : Int))) (gS f D n) m') : xC E (yX2_gatherWaters, cX2_gatherWaters, 10, some .int) 4 0 0 [vr E 88, vi (s : Int), vi st, vi sp] (gS f D n) m P PX := by
  refine x_enter (by decide) rfl rfl (Nat.le_of_ble_eq_true rfl) ?_
  have hv4 := hV.1.1.2.2.2.2.1.1
  have loop : ∀ (j b : Nat) (m0 : xM) (c : Nat), v 4 < (b : Int) + j → (b : Int) ≤ v 4 → ag [86, 87, 90] m m0 → cT v m0 → gI v s st sp b 0 (m0 90) c → xX E (("gatherWaters", some .int, []), (4, 0, 0), P, PX) RX2 cX2_gatherWaters 10 0 0 6 [(0, vr E 88), (1, vi (s : Int)), (2, vi st), (3, vi sp), (4, vi (c : Int)), (5, vi (b : Int))] [] (gS f D n) m0 := by
    intro j
    induction j with
    | zero => intro b m0 c h1 h2; omega
    | succ j ihO =>
      intro b m0 c h1 h2 ha0 hT0 hg0
      refine x_iload dX2_gatherWaters_6 rfl ?_
      refine x_aload_n dX2_gatherWaters_8 rfl ?_
      refine x_getR (r := 41) fX2_35 dX2_gatherWaters_9 rfl rfl ?_
      refine x_getI fX2_96 dX2_gatherWaters_12 rfl ?_
      refine x_top (hT0.1.2.2.1.1) ?_
      refine x_icmp_ge (tgt := 124) dX2_gatherWaters_15 (by decide) (by omega) (fun h15 => ?_) (fun h15 => ?_)
      · have hbe : b = (v 4).toNat := by omega
        refine x_iload dX2_gatherWaters_124 rfl ?_
        exact x_iret dX2_gatherWaters_126  (hP m0 c ha0 hT0 (by rw [hbe] at hg0; exact hg0))
      · have hb : (b : Int) < v 4 := by omega
        have hcm := cm_b (s := s) hV.1.1.2.2.2.2.1 hsp hb
        have hsg := sg_b hV.1.1.2.2.2.2.1 hb hsp
        have inner : ∀ (jj K : Nat) (m1 : xM) (c : Nat), tk (br v b 2) sp + 2 ≤ (K : Int) + jj → (K : Int) ≤ tk (br v b 2) sp + 1 → ag [86, 87, 90] m m1 → cT v m1 → gI v s st sp b K (m1 90) c → xX E (("gatherWaters", some .int, []), (4, 0, 0), P, PX) RX2 cX2_gatherWaters 10 0 0 48 [(0, vr E 88), (1, vi (s : Int)), (2, vi st), (3, vi sp), (4, vi (c : Int)), (5, vi (b : Int)), (6, vi (st + cm v s sp b)), (7, vi (tk (br v b 2) sp)), (8, vi (K : Int))] [] (gS f D n) m1 := by
          intro jj
          induction jj with
          | zero => intro K m1 c h1 h2; omega
          | succ jj ihI =>
            intro K m1 c h1 h2 ha1 hT1 hg
            refine x_iload dX2_gatherWaters_48 rfl ?_
            refine x_iload dX2_gatherWaters_50 rfl ?_
            refine x_icmp_gt (tgt := 118) dX2_gatherWaters_52 (by decide) (by omega) (fun h52 => ?_) (fun h52 => ?_)
            · have hg2 := gI_up hg (by omega) (by omega)
              refine x_iinc dX2_gatherWaters_118 rfl ?_
              refine x_goto (tgt := 6) dX2_gatherWaters_121 (by decide) ?_
              exact x_loc (lv' := [(0, vr E 88), (1, vi (s : Int)), (2, vi st), (3, vi sp), (4, vi (c : Int)), (5, vi ((b + 1 : Nat) : Int))]) ⟨rfl, rfl, rfl, rfl, rfl, xl_i rfl (by omega), trivial⟩ (ihO (b + 1) m1 c (by omega) (by omega) ha1 hT1 hg2)
            · refine x_iload dX2_gatherWaters_55 rfl ?_
              refine x_aload_n dX2_gatherWaters_57 rfl ?_
              refine x_getR (r := 90) fX2_15 dX2_gatherWaters_58 rfl rfl ?_
              refine x_alen (t := 8) (N := 2670) dX2_gatherWaters_61 rfl (by decide) rfl ?_
              refine x_icmp_ge (tgt := 118) dX2_gatherWaters_62 (by decide) (by have := hg.1; omega) (fun h62 => absurd h62 (by have := hg.1; omega)) (fun h62 => ?_)
              refine x_aload_n dX2_gatherWaters_65 rfl ?_
              refine x_getR (r := 86) fX2_39 dX2_gatherWaters_66 rfl rfl ?_
              refine x_iload dX2_gatherWaters_69 rfl ?_
              refine x_iload dX2_gatherWaters_71 rfl ?_
              refine x_iload dX2_gatherWaters_73 rfl ?_
              refine x_iadd dX2_gatherWaters_75 ?_
              refine x_V2 mX2_106 dX2_gatherWaters_76 rfl (s_waterAt hV.1.1 hT1 hb (by omega) (fun m2 ha2 hT2 => ?_))
              refine x_istore dX2_gatherWaters_79 ?_
              refine x_iload dX2_gatherWaters_81 rfl ?_
              refine x_if_eq (tgt := 100) dX2_gatherWaters_83 (by decide) (by have := hg.1; omega) (fun h83 => ?_) (fun h83 => ?_)
              · refine x_aload_n dX2_gatherWaters_100 rfl ?_
                refine x_getR (r := 90) fX2_15 dX2_gatherWaters_101 rfl rfl ?_
                refine x_iload dX2_gatherWaters_104 rfl ?_
                refine x_iload dX2_gatherWaters_106 rfl ?_
                refine x_iast (j := c) dX2_gatherWaters_108 rfl (by decide) (by omega) (show _ < 2670 by have := hg.1; omega) (by omega) ?_
                refine x_iinc dX2_gatherWaters_109 rfl ?_
                refine x_iinc dX2_gatherWaters_112 rfl ?_
                refine x_goto (tgt := 48) dX2_gatherWaters_115 (by decide) ?_
                refine x_loc (lv' := [(0, vr E 88), (1, vi (s : Int)), (2, vi st), (3, vi sp), (4, vi ((c + 1 : Nat) : Int)), (5, vi (b : Int)), (6, vi (st + cm v s sp b)), (7, vi (tk (br v b 2) sp)), (8, vi ((K + 1 : Nat) : Int))]) ⟨rfl, rfl, rfl, rfl, xl_i rfl (by omega), rfl, rfl, rfl, xl_i rfl (by omega), trivial⟩ (ihI (K + 1) _ (c + 1) (by omega) (by omega) ((ha1.tr ha2 (by decide) (by decide)).u (by decide)) (hT2.ag (ag.u (S := [90]) ag.rf (by decide)) (by decide) (by decide) (by decide) (by decide) (by decide) (by decide)) (gI_st hg (fun i => by rw [xu_if, ha2 90 (by decide)])))
              · refine x_aload_n dX2_gatherWaters_86 rfl ?_
                refine x_getR (r := 90) fX2_15 dX2_gatherWaters_87 rfl rfl ?_
                refine x_iload dX2_gatherWaters_90 rfl ?_
                refine x_iconst dX2_gatherWaters_92 ?_
                refine x_isub dX2_gatherWaters_93 ?_
                refine x_iald (j := c - 1) dX2_gatherWaters_94 rfl (by omega) (show _ < 2670 by have := hg.1; omega) (by omega) ?_
                refine x_iload dX2_gatherWaters_95 rfl ?_
                refine x_icmp_eq (tgt := 112) dX2_gatherWaters_97 (by decide) (by have h9 := hg.1; have hwq := wa_b (t := st + cm v s sp b + K) hV.1.1 hb; obtain ⟨b9, k9, h91, h92⟩ := hg.2.1 (c - 1) (by omega); have hwr := wa_b (b := b9) (t := st + cm v s sp b9 + k9) hV.1.1 (by omega); rw [ha2 90 (by decide), h92]; omega) (fun h97 => ?_) (fun h97 => ?_)
                · refine x_iinc dX2_gatherWaters_112 rfl ?_
                  refine x_goto (tgt := 48) dX2_gatherWaters_115 (by decide) ?_
                  refine x_loc (lv' := [(0, vr E 88), (1, vi (s : Int)), (2, vi st), (3, vi sp), (4, vi ((c : Nat) : Int)), (5, vi (b : Int)), (6, vi (st + cm v s sp b)), (7, vi (tk (br v b 2) sp)), (8, vi ((K + 1 : Nat) : Int))]) ⟨rfl, rfl, rfl, rfl, rfl, rfl, rfl, rfl, xl_i rfl (by omega), trivial⟩ (ihI (K + 1) m2 c (by omega) (by omega) (ha1.tr ha2 (by decide) (by decide)) hT2 (by rw [ha2 90 (by decide)]; exact gI_sk hg ⟨c - 1, by omega, by rw [← ha2 90 (by decide)]; exact h97⟩))
                · refine x_aload_n dX2_gatherWaters_100 rfl ?_
                  refine x_getR (r := 90) fX2_15 dX2_gatherWaters_101 rfl rfl ?_
                  refine x_iload dX2_gatherWaters_104 rfl ?_
                  refine x_iload dX2_gatherWaters_106 rfl ?_
                  refine x_iast (j := c) dX2_gatherWaters_108 rfl (by decide) (by omega) (show _ < 2670 by have := hg.1; omega) (by omega) ?_
                  refine x_iinc dX2_gatherWaters_109 rfl ?_
                  refine x_iinc dX2_gatherWaters_112 rfl ?_
                  refine x_goto (tgt := 48) dX2_gatherWaters_115 (by decide) ?_
                  refine x_loc (lv' := [(0, vr E 88), (1, vi (s : Int)), (2, vi st), (3, vi sp), (4, vi ((c + 1 : Nat) : Int)), (5, vi (b : Int)), (6, vi (st + cm v s sp b)), (7, vi (tk (br v b 2) sp)), (8, vi ((K + 1 : Nat) : Int))]) ⟨rfl, rfl, rfl, rfl, xl_i rfl (by omega), rfl, rfl, rfl, xl_i rfl (by omega), trivial⟩ (ihI (K + 1) _ (c + 1) (by omega) (by omega) ((ha1.tr ha2 (by decide) (by decide)).u (by decide)) (hT2.ag (ag.u (S := [90]) ag.rf (by decide)) (by decide) (by decide) (by decide) (by decide) (by decide) (by decide)) (gI_st hg (fun i => by rw [xu_if, ha2 90 (by decide)])))
        refine x_iload_n dX2_gatherWaters_18 rfl ?_
        refine x_aload_n dX2_gatherWaters_19 rfl ?_
        refine x_getR (r := 41) fX2_35 dX2_gatherWaters_20 rfl rfl ?_
        refine x_iload_n dX2_gatherWaters_23 rfl ?_
        refine x_iload_n dX2_gatherWaters_24 rfl ?_
        refine x_iload dX2_gatherWaters_25 rfl ?_
        refine x_V3 mX2_100 dX2_gatherWaters_27 rfl (s_comesAfter hV.1.1 hT0.1 hs hb hsp ?_)
        refine x_iadd dX2_gatherWaters_30 ?_
        refine x_istore dX2_gatherWaters_31 ?_
        refine x_aload_n dX2_gatherWaters_33 rfl ?_
        refine x_getR (r := 41) fX2_35 dX2_gatherWaters_34 rfl rfl ?_
        refine x_iload dX2_gatherWaters_37 rfl ?_
        refine x_iload_n dX2_gatherWaters_39 rfl ?_
        refine x_V2 mX2_103 dX2_gatherWaters_40 rfl (s_lengthTime hV.1.1.2.2.2.2.1 hT0.1.2.2.1 hb hsp ?_)
        refine x_istore dX2_gatherWaters_43 ?_
        refine x_iconst dX2_gatherWaters_45 ?_
        refine x_istore dX2_gatherWaters_46 ?_
        exact x_loc (lv' := [(0, vr E 88), (1, vi (s : Int)), (2, vi st), (3, vi sp), (4, vi (c : Int)), (5, vi (b : Int)), (6, vi (st + cm v s sp b)), (7, vi (tk (br v b 2) sp)), (8, vi ((0 : Nat) : Int))]) ⟨rfl, rfl, rfl, rfl, rfl, rfl, rfl, rfl, rfl, trivial⟩ (inner 33 0 m0 c (by omega) (by omega) ha0 hT0 hg0)
  refine x_iconst dX2_gatherWaters_0 ?_
  refine x_istore dX2_gatherWaters_1 ?_
  refine x_iconst dX2_gatherWaters_3 ?_
  refine x_istore dX2_gatherWaters_4 ?_
  exact x_loc (lv' := [(0, vr E 88), (1, vi (s : Int)), (2, vi st), (3, vi sp), (4, vi ((0 : Nat) : Int)), (5, vi ((0 : Nat) : Int))]) ⟨rfl, rfl, rfl, rfl, rfl, rfl, trivial⟩ (loop 7 0 m 0 (by omega) (by omega) ag.rf hV.2.1 gI_00)

set_option maxRecDepth 20000 in
theorem s_firstUnclear {E : xE} {f : Nat → Nat} {D : Nat → Nat × Nat} {n : Nat} {m : xM} {P : xPo} {PX : xPx} {v : Nat → Int} {s c : Nat} {sp dr : Int} (hE : eOk E) (hV : cV v f D m) (hs : (s : Int) < v 5) (hsp : 4 ≤ sp ∧ sp ≤ 25) (hdr : 0 ≤ dr ∧ dr ≤ 3000) (hc : c ≤ 2000) (hwr : ∀ i, i < c → -10000 ≤ m 90 i ∧ m 90 i ≤ 20000) (hP : ∀ (r : Int) m', ag [89] m m' → ((r = -1 ∧ ∀ i, i < c → clr v s dr (m 90 i) sp) ∨ (∃ i : Nat, r = (i : Int) ∧ i < c ∧ ¬ clr v s dr (m 90 i) sp)) → P (some (vi r)) (gS f D n) m') : xC E (yX2_firstUnclear, cX2_firstUnclear, 6, some .int) 5 0 0 [vr E 88, vi (s : Int), vi sp, vi dr, vi (c : Int)] (gS f D n) m P PX := by
  refine x_enter (by decide) rfl rfl (Nat.le_of_ble_eq_true rfl) ?_
  have loop : ∀ (j i : Nat) (m1 : xM), c < i + j → i ≤ c → ag [89] m m1 → (∀ k, k < i → clr v s dr (m 90 k) sp) → xX E (("firstUnclear", some .int, []), (5, 0, 0), P, PX) RX2 cX2_firstUnclear 6 0 0 3 [(0, vr E 88), (1, vi (s : Int)), (2, vi sp), (3, vi dr), (4, vi (c : Int)), (5, vi (i : Int))] [] (gS f D n) m1 := by
    intro j
    induction j with
    | zero => intro i m1 h1 h2; omega
    | succ j ih =>
      intro i m1 h1 h2 ha1 hal
      refine x_iload dX2_firstUnclear_3 rfl ?_
      refine x_iload dX2_firstUnclear_5 rfl ?_
      refine x_icmp_ge (tgt := 36) dX2_firstUnclear_7 (by decide) (by omega) (fun h7 => ?_) (fun h7 => ?_)
      · refine x_iconst dX2_firstUnclear_36 ?_
        exact x_iret dX2_firstUnclear_37  (hP (-1) m1 ha1 (Or.inl ⟨rfl, fun k hk => hal k (by omega)⟩))
      · refine x_aload_n dX2_firstUnclear_10 rfl ?_
        refine x_iload_n dX2_firstUnclear_11 rfl ?_
        refine x_iload_n dX2_firstUnclear_12 rfl ?_
        refine x_iload_n dX2_firstUnclear_13 rfl ?_
        refine x_aload_n dX2_firstUnclear_14 rfl ?_
        refine x_getR (r := 90) fX2_15 dX2_firstUnclear_15 rfl rfl ?_
        refine x_iload dX2_firstUnclear_18 rfl ?_
        refine x_iald (j := i) dX2_firstUnclear_20 rfl (by omega) (show _ < 2670 by omega) (by omega) ?_
        refine x_top (show m1 90 i = m 90 i by rw [ha1 90 (by decide)]) ?_
        refine x_V4 mX2_92 dX2_firstUnclear_21 rfl (s_isClear hE (hV.ag ha1 (by decide) (by decide) (by decide) (by decide) (by decide) (by decide) (by decide)) hs hsp hdr (hwr i (by omega)) (fun m2 ha2 => ?_))
        refine x_if_ne (tgt := 30) dX2_firstUnclear_24 (by decide) (zi_r _) (fun h24 => ?_) (fun h24 => ?_)
        · refine x_iinc dX2_firstUnclear_30 rfl ?_
          refine x_goto (tgt := 3) dX2_firstUnclear_33 (by decide) ?_
          exact x_loc (lv' := [(0, vr E 88), (1, vi (s : Int)), (2, vi sp), (3, vi dr), (4, vi (c : Int)), (5, vi ((i + 1 : Nat) : Int))]) ⟨rfl, rfl, rfl, rfl, rfl, xl_i rfl (by omega), trivial⟩ (ih (i + 1) m2 (by omega) (by omega) (ha1.tr1 ha2) (lt_s hal (zi_1.mp h24)))
        · refine x_iload dX2_firstUnclear_27 rfl ?_
          exact x_iret dX2_firstUnclear_29  (hP (i : Int) m2 (ha1.tr1 ha2) (Or.inr ⟨i, rfl, by omega, zi_0.mp h24⟩))
  refine x_iconst dX2_firstUnclear_0 ?_
  refine x_istore dX2_firstUnclear_1 ?_
  exact x_loc (lv' := [(0, vr E 88), (1, vi (s : Int)), (2, vi sp), (3, vi dr), (4, vi (c : Int)), (5, vi ((0 : Nat) : Int))]) ⟨rfl, rfl, rfl, rfl, rfl, rfl, trivial⟩ (loop (c + 1) 0 m (by omega) (by omega) ag.rf (fun k hk => absurd hk (Nat.not_lt_zero k)))

end PI
