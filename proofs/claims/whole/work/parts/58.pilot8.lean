section PT
/-- the first minute in which a ship can be behind all bars; none -/
def soR (v : Nat → Int) (s : Nat) (st r : Int) : Prop := ∃ q, fsR (cn v s st (v 4).toNat) q ∧ ((q = -1 ∧ r = -1) ∨ (q ≠ -1 ∧ r = st + q))
theorem soR_u {v : Nat → Int} {s : Nat} {st a b : Int} (ha : soR v s st a) (hb : soR v s st b) : a = b := by
  obtain ⟨q, h1, h2⟩ := ha
  obtain ⟨r, h3, h4⟩ := hb
  have := fsR_u h1 h3
  omega
theorem ag.cpy {S : List Nat} {m m' : xM} {a b i j N : Nat} (h : ag S m m') (hb : b ∈ S) : ag S m (xcpy m' a b i j N) := by
  intro c hc
  rw [xcpy_ne (c := c) (b := b) (fun z => hc (by rw [z]; exact hb))]
  exact h c hc
set_option maxRecDepth 20000 in
theorem s_soonestEnd {E : xE} {f : Nat → Nat} {D : Nat → Nat × Nat} {n : Nat} {m : xM} {P : xPo} {PX : xPx} {v : Nat → Int} {s : Nat} {st : Int} (hE : eOk E) (hV : cV v f D m) (hs : (s : Int) < v 5) (hst : 0 ≤ st ∧ st ≤ 10000) (hP : ∀ m' r, ag [86, 87, 89, 90, 91, 93, 94] m m' → cT v m' → soR v s st r → P (some (vi r)) (gS f D n) m') : xC E (yX2_soonestEnd, cX2_soonestEnd, 9, some .int) 5 0 0 [vr E 88, vi (s : Int), vi st] (gS f D n) m P PX := by
  refine x_enter (by decide) rfl rfl (Nat.le_of_ble_eq_true rfl) ?_
  have hv5 := hV.1.1.2.2.2.2.2.1
  have hv4 := hV.1.1.2.2.2.2.1.1
  obtain ⟨-, -, -, hls, hou, -⟩ := hV.1.1.2.2.2.2.2.2 s hs
  have loop : ∀ (j i : Nat) (er : Int) (m1 : xM), v 4 < (i : Int) + j → (i : Int) ≤ v 4 → ag [86, 87, 89, 90, 91, 93, 94] m m1 → cT v m1 → (∀ t, t ≤ 1000 → m1 93 t = zi (cn v s st i t)) → fsR (cn v s st i) er → xX E (("soonestEnd", some .int, []), (5, 0, 0), P, PX) RX2 cX2_soonestEnd 9 0 0 40 [(0, vr E 88), (1, vi (s : Int)), (2, vi st), (3, vi (zi (sh v s 5 = 1))), (4, vi er), (5, vi (i : Int))] [] (gS f D n) m1 := by
    intro j
    induction j with
    | zero => intro i er m1 h1 h2; omega
    | succ j ih =>
      intro i er m1 h1 h2 ha1 hT1 hr1 hf
      refine x_iload dX2_soonestEnd_40 rfl ?_
      refine x_aload_n dX2_soonestEnd_42 rfl ?_
      refine x_getR (r := 41) fX2_35 dX2_soonestEnd_43 rfl rfl ?_
      refine x_getI fX2_96 dX2_soonestEnd_46 rfl ?_
      refine x_top (hT1.1.2.2.1.1) ?_
      refine x_icmp_ge (tgt := 216) dX2_soonestEnd_49 (by decide) (by omega) (fun h49 => ?_) (fun h49 => ?_)
      · have hfin : fsR (cn v s st (v 4).toNat) er := by rw [show (v 4).toNat = i by omega]; exact hf
        have hfb := fsR_b hfin
        refine x_iload dX2_soonestEnd_216 rfl ?_
        refine x_iconst dX2_soonestEnd_218 ?_
        refine x_icmp_ne (tgt := 226) dX2_soonestEnd_219 (by decide) (by omega) (fun h219 => ?_) (fun h219 => ?_)
        · refine x_iload_n dX2_soonestEnd_226 rfl ?_
          refine x_iload dX2_soonestEnd_227 rfl ?_
          refine x_iadd dX2_soonestEnd_229 ?_
          exact x_iret dX2_soonestEnd_230  (hP m1 _ ha1 hT1 ⟨_, hfin, Or.inr ⟨by omega, rfl⟩⟩)
        · refine x_iconst dX2_soonestEnd_222 ?_
          refine x_goto (tgt := 230) dX2_soonestEnd_223 (by decide) ?_
          exact x_iret dX2_soonestEnd_230  (hP m1 (-1) ha1 hT1 ⟨_, hfin, Or.inl ⟨by omega, rfl⟩⟩)
      · have hi : (i : Int) < v 4 := by omega
        refine x_iload dX2_soonestEnd_52 rfl ?_
        refine x_iconst dX2_soonestEnd_54 ?_
        refine x_icmp_eq (tgt := 216) dX2_soonestEnd_55 (by decide) (by have := fsR_b hf; omega) (fun h55 => ?_) (fun h55 => ?_)
        · have hfin : fsR (cn v s st (v 4).toNat) er := by
            rcases hf with ⟨t, a1, a2, a3, a4⟩ | ⟨a1, a2⟩
            · omega
            · refine Or.inr ⟨fun t _ => ?_, a2⟩
              rw [show (v 4).toNat = i + ((v 4).toNat - i) by omega]
              exact cn_no (fun t z => a1 t (cn_1000 z) z) _ t
          have hfb := fsR_b hfin
          refine x_iload dX2_soonestEnd_216 rfl ?_
          refine x_iconst dX2_soonestEnd_218 ?_
          refine x_icmp_ne (tgt := 226) dX2_soonestEnd_219 (by decide) (by omega) (fun h219 => ?_) (fun h219 => ?_)
          · refine x_iload_n dX2_soonestEnd_226 rfl ?_
            refine x_iload dX2_soonestEnd_227 rfl ?_
            refine x_iadd dX2_soonestEnd_229 ?_
            exact x_iret dX2_soonestEnd_230  (hP m1 _ ha1 hT1 ⟨_, hfin, Or.inr ⟨by omega, rfl⟩⟩)
          · refine x_iconst dX2_soonestEnd_222 ?_
            refine x_goto (tgt := 230) dX2_soonestEnd_223 (by decide) ?_
            exact x_iret dX2_soonestEnd_230  (hP m1 (-1) ha1 hT1 ⟨_, hfin, Or.inl ⟨by omega, rfl⟩⟩)
        · obtain ⟨e, rfl⟩ : ∃ e : Nat, er = (e : Int) := ⟨er.toNat, by have := fsR_b hf; omega⟩
          have hft : cn v s st i e ∧ (∀ u, u < e → ¬ cn v s st i u) ∧ e ≤ 1000 := by
            rcases hf with ⟨t, a1, a2, a3, a4⟩ | ⟨a1, a2⟩
            · rw [show e = t by omega]; exact ⟨a2, a3, a1⟩
            · omega
          obtain ⟨he, hm, he9⟩ := hft
          have hin := soon_in (n := n) (P := P) (PX := PX) hE hV hs hi hst (e := e) (i := i) he hm he9 (fun m2 ha2 hT2 hr2 hn2 => by
              refine x_aload_n dX2_soonestEnd_186 rfl ?_
              refine x_getR (r := 94) fX2_29 dX2_soonestEnd_187 rfl rfl ?_
              refine x_iconst dX2_soonestEnd_190 ?_
              refine x_aload_n dX2_soonestEnd_191 rfl ?_
              refine x_getR (r := 93) fX2_25 dX2_soonestEnd_192 rfl rfl ?_
              refine x_iconst dX2_soonestEnd_195 ?_
              refine x_aload_n dX2_soonestEnd_196 rfl ?_
              refine x_getR (r := 93) fX2_25 dX2_soonestEnd_197 rfl rfl ?_
              refine x_alen (t := 7) (N := 1001) dX2_soonestEnd_200 rfl (by decide) rfl ?_
              refine x_copyB (a := 94) (b := 93) (i := 0) (j := 0) (N := 1001) mX2_156 dX2_soonestEnd_201 rfl rfl (by decide) (show 0 + 1001 ≤ 1001 by omega) (show 0 + 1001 ≤ 1001 by omega) (by omega) (by omega) (fun q hq => by rw [hn2 (0 + q) (by omega)]; have := zi_01 (cn v s st (i + 1) (0 + q)); omega) (Nat.le_of_ble_eq_true rfl) ?_
              have hr3 : ∀ t, t ≤ 1000 → xcpy m2 94 93 0 0 1001 93 t = zi (cn v s st (i + 1) t) := fun t ht => by rw [xcpy_00 (by omega)]; exact hn2 t ht
              have ha3 : ag [93] m2 (xcpy m2 94 93 0 0 1001) := ag.rf.cpy (by decide)
              refine x_aload_n dX2_soonestEnd_204 rfl ?_
              refine x_V0 mX2_162 dX2_soonestEnd_205 rfl (s_firstReached (R := cn v s st (i + 1)) hr3 (fun r hr => ?_))
              refine x_istore dX2_soonestEnd_208 ?_
              refine x_iinc dX2_soonestEnd_210 rfl ?_
              refine x_goto (tgt := 40) dX2_soonestEnd_213 (by decide) ?_
              exact x_loc (lv' := [(0, vr E 88), (1, vi (s : Int)), (2, vi st), (3, vi (zi (sh v s 5 = 1))), (4, vi r), (5, vi ((i + 1 : Nat) : Int))]) ⟨rfl, rfl, rfl, rfl, rfl, xl_i rfl (by omega), trivial⟩ (ih (i + 1) r _ (by omega) (by omega) (ha2.cpy (by decide)) (hT2.ag ha3 (by decide) (by decide) (by decide) (by decide) (by decide) (by decide)) hr3 hr))
          refine x_iload_n dX2_soonestEnd_58 rfl ?_
          refine x_if_eq (tgt := 77) dX2_soonestEnd_59 (by decide) (zi_r _) (fun h59 => ?_) (fun h59 => ?_)
          · refine x_iload dX2_soonestEnd_77 rfl ?_
            refine x_top (show (i : Int) = ((bo v s i : Nat) : Int) by unfold bo; rw [if_neg (zi_0.mp h59)]) ?_
            refine x_istore dX2_soonestEnd_79 ?_
            refine x_aload_n dX2_soonestEnd_81 rfl ?_
            refine x_iload dX2_soonestEnd_82 rfl ?_
            refine x_iload_n dX2_soonestEnd_84 rfl ?_
            refine x_sipush dX2_soonestEnd_85 (h := ?_)
            refine x_top (show (1001 : Int) = ((1001 : Nat) : Int) by omega) ?_
            refine x_V3 mX2_133 dX2_soonestEnd_88 rfl (s_fillWaters (hV.t ha1 hT1 (by decide) (by decide)) (bo_b hv4.1 hi) (by omega) (by omega) (fun m2 ha2 hT2 hq2 => ?_))
            refine x_pop dX2_soonestEnd_91 rfl ?_
            refine x_aload_n dX2_soonestEnd_92 rfl ?_
            refine x_getR (r := 94) fX2_29 dX2_soonestEnd_93 rfl rfl ?_
            refine x_iconst dX2_soonestEnd_96 ?_
            refine x_S2 mX2_147 dX2_soonestEnd_97 (s_fillB (L := 1001) rfl rfl (by decide) (by decide) (by omega) ?_)
            refine x_aload_n dX2_soonestEnd_100 rfl ?_
            refine x_getR (r := 41) fX2_35 dX2_soonestEnd_101 rfl rfl ?_
            refine x_iload_n dX2_soonestEnd_104 rfl ?_
            refine x_iconst dX2_soonestEnd_105 ?_
            refine x_V2 mX2_43 dX2_soonestEnd_106 rfl (s_shipOf (8 * s + 3) (by omega) (by omega) ?_)
            refine x_top ((hT2.ag (ag.fill (S := [94]) ag.rf (by decide)) (by decide) (by decide) (by decide) (by decide) (by decide) (by decide)).1.2.2.2.s hs (by omega)) ?_
            refine x_istore dX2_soonestEnd_109 ?_
            exact x_loc (lv' := [(0, vr E 88), (1, vi (s : Int)), (2, vi st), (3, vi (zi (sh v s 5 = 1))), (4, vi (e : Int)), (5, vi (i : Int)), (6, vi ((bo v s i : Nat) : Int)), (7, vi (sh v s 3))]) ⟨rfl, rfl, rfl, rfl, rfl, rfl, rfl, rfl, trivial⟩ (hin 30 (sh v s 3) _ (by omega) (by omega) (by omega) ((ha1.tr1 (ha2.wk (by decide))).fill (by decide)) (hT2.ag (ag.fill (S := [94]) ag.rf (by decide)) (by decide) (by decide) (by decide) (by decide) (by decide) (by decide)) (fun k hk => by rw [xfill_ne (by decide)]; exact hq2 k (by omega)) (fun t ht => by rw [xfill_ne (by decide), ha2 93 (by decide)]; exact hr1 t ht) (fun t ht => by rw [xfill_in (by omega)]; exact (zi_f (fun ⟨q, h1, h2, _⟩ => by omega)).symm))
          · refine x_aload_n dX2_soonestEnd_62 rfl ?_
            refine x_getR (r := 41) fX2_35 dX2_soonestEnd_63 rfl rfl ?_
            refine x_getI fX2_96 dX2_soonestEnd_66 rfl ?_
            refine x_top (hT1.1.2.2.1.1) ?_
            refine x_iconst dX2_soonestEnd_69 ?_
            refine x_isub dX2_soonestEnd_70 ?_
            refine x_iload dX2_soonestEnd_71 rfl ?_
            refine x_isub dX2_soonestEnd_73 ?_
            refine x_goto (tgt := 79) dX2_soonestEnd_74 (by decide) ?_
            refine x_top (show v 4 - 1 - (i : Int) = ((bo v s i : Nat) : Int) by unfold bo; rw [if_pos (zi_1.mp h59)]; omega) ?_
            refine x_istore dX2_soonestEnd_79 ?_
            refine x_aload_n dX2_soonestEnd_81 rfl ?_
            refine x_iload dX2_soonestEnd_82 rfl ?_
            refine x_iload_n dX2_soonestEnd_84 rfl ?_
            refine x_sipush dX2_soonestEnd_85 (h := ?_)
            refine x_top (show (1001 : Int) = ((1001 : Nat) : Int) by omega) ?_
            refine x_V3 mX2_133 dX2_soonestEnd_88 rfl (s_fillWaters (hV.t ha1 hT1 (by decide) (by decide)) (bo_b hv4.1 hi) (by omega) (by omega) (fun m2 ha2 hT2 hq2 => ?_))
            refine x_pop dX2_soonestEnd_91 rfl ?_
            refine x_aload_n dX2_soonestEnd_92 rfl ?_
            refine x_getR (r := 94) fX2_29 dX2_soonestEnd_93 rfl rfl ?_
            refine x_iconst dX2_soonestEnd_96 ?_
            refine x_S2 mX2_147 dX2_soonestEnd_97 (s_fillB (L := 1001) rfl rfl (by decide) (by decide) (by omega) ?_)
            refine x_aload_n dX2_soonestEnd_100 rfl ?_
            refine x_getR (r := 41) fX2_35 dX2_soonestEnd_101 rfl rfl ?_
            refine x_iload_n dX2_soonestEnd_104 rfl ?_
            refine x_iconst dX2_soonestEnd_105 ?_
            refine x_V2 mX2_43 dX2_soonestEnd_106 rfl (s_shipOf (8 * s + 3) (by omega) (by omega) ?_)
            refine x_top ((hT2.ag (ag.fill (S := [94]) ag.rf (by decide)) (by decide) (by decide) (by decide) (by decide) (by decide) (by decide)).1.2.2.2.s hs (by omega)) ?_
            refine x_istore dX2_soonestEnd_109 ?_
            exact x_loc (lv' := [(0, vr E 88), (1, vi (s : Int)), (2, vi st), (3, vi (zi (sh v s 5 = 1))), (4, vi (e : Int)), (5, vi (i : Int)), (6, vi ((bo v s i : Nat) : Int)), (7, vi (sh v s 3))]) ⟨rfl, rfl, rfl, rfl, rfl, rfl, rfl, rfl, trivial⟩ (hin 30 (sh v s 3) _ (by omega) (by omega) (by omega) ((ha1.tr1 (ha2.wk (by decide))).fill (by decide)) (hT2.ag (ag.fill (S := [94]) ag.rf (by decide)) (by decide) (by decide) (by decide) (by decide) (by decide) (by decide)) (fun k hk => by rw [xfill_ne (by decide)]; exact hq2 k (by omega)) (fun t ht => by rw [xfill_ne (by decide), ha2 93 (by decide)]; exact hr1 t ht) (fun t ht => by rw [xfill_in (by omega)]; exact (zi_f (fun ⟨q, h1, h2, _⟩ => by omega)).symm))
  refine x_aload_n dX2_soonestEnd_0 rfl ?_
  refine x_getR (r := 93) fX2_25 dX2_soonestEnd_1 rfl rfl ?_
  refine x_iconst dX2_soonestEnd_4 ?_
  refine x_S2 mX2_147 dX2_soonestEnd_5 (s_fillB (L := 1001) rfl rfl (by decide) (by decide) (by omega) ?_)
  refine x_aload_n dX2_soonestEnd_8 rfl ?_
  refine x_getR (r := 93) fX2_25 dX2_soonestEnd_9 rfl rfl ?_
  refine x_iconst dX2_soonestEnd_12 ?_
  refine x_iconst dX2_soonestEnd_13 ?_
  refine x_bast (j := 0) dX2_soonestEnd_14 rfl (by decide) rfl (show 0 < 1001 by omega) (by omega) (by omega) ?_
  have ha0 : ag [93] m (xu (xfill m 93 0 1001) 93 0 1) := (ag.fill ag.rf (by decide)).u (by decide)
  have hr0 : ∀ t, t ≤ 1000 → xu (xfill m 93 0 1001) 93 0 1 93 t = zi (cn v s st 0 t) := fun t ht => by
    rw [xu_if]
    by_cases z : t = 0
    · rw [if_pos z]; exact (zi_t z).symm
    · rw [if_neg z, xfill_in (by omega)]; exact (zi_f z).symm
  refine x_aload_n dX2_soonestEnd_15 rfl ?_
  refine x_getR (r := 41) fX2_35 dX2_soonestEnd_16 rfl rfl ?_
  refine x_iload_n dX2_soonestEnd_19 rfl ?_
  refine x_iconst dX2_soonestEnd_20 ?_
  refine x_V2 mX2_43 dX2_soonestEnd_21 rfl (s_shipOf (8 * s + 5) (by omega) (by omega) ?_)
  refine x_top ((hV.2.1.ag ha0 (by decide) (by decide) (by decide) (by decide) (by decide) (by decide)).1.2.2.2.s hs (by omega)) ?_
  refine x_iconst dX2_soonestEnd_24 ?_
  refine x_icmp_ne (tgt := 32) dX2_soonestEnd_25 (by decide) (by omega) (fun h25 => ?_) (fun h25 => ?_)
  · refine x_iconst dX2_soonestEnd_32 ?_
    refine x_top ((zi_f h25).symm) ?_
    refine x_istore_n dX2_soonestEnd_33 ?_
    refine x_iconst dX2_soonestEnd_34 ?_
    refine x_istore dX2_soonestEnd_35 ?_
    refine x_iconst dX2_soonestEnd_37 ?_
    refine x_istore dX2_soonestEnd_38 ?_
    exact x_loc (lv' := [(0, vr E 88), (1, vi (s : Int)), (2, vi st), (3, vi (zi (sh v s 5 = 1))), (4, vi 0), (5, vi ((0 : Nat) : Int))]) ⟨rfl, rfl, rfl, rfl, rfl, rfl, trivial⟩ (loop 7 0 0 _ (by omega) (by omega) (ha0.wk (by decide)) (hV.2.1.ag ha0 (by decide) (by decide) (by decide) (by decide) (by decide) (by decide)) hr0 (Or.inl ⟨0, by omega, rfl, fun u hu => absurd hu (Nat.not_lt_zero u), rfl⟩))
  · refine x_iconst dX2_soonestEnd_28 ?_
    refine x_goto (tgt := 33) dX2_soonestEnd_29 (by decide) ?_
    refine x_top ((zi_t (by omega)).symm) ?_
    refine x_istore_n dX2_soonestEnd_33 ?_
    refine x_iconst dX2_soonestEnd_34 ?_
    refine x_istore dX2_soonestEnd_35 ?_
    refine x_iconst dX2_soonestEnd_37 ?_
    refine x_istore dX2_soonestEnd_38 ?_
    exact x_loc (lv' := [(0, vr E 88), (1, vi (s : Int)), (2, vi st), (3, vi (zi (sh v s 5 = 1))), (4, vi 0), (5, vi ((0 : Nat) : Int))]) ⟨rfl, rfl, rfl, rfl, rfl, rfl, trivial⟩ (loop 7 0 0 _ (by omega) (by omega) (ha0.wk (by decide)) (hV.2.1.ag ha0 (by decide) (by decide) (by decide) (by decide) (by decide) (by decide)) hr0 (Or.inl ⟨0, by omega, rfl, fun u hu => absurd hu (Nat.not_lt_zero u), rfl⟩))

end PT
