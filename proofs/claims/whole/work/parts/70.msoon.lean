section MO
/-- where a ship can come ahead of a bar, waiting if it can lie there -/
def cmS (v : Nat → Int) (b tr : Nat) (R : Nat → Prop) (t : Nat) : Prop := ∃ w : Nat, R w ∧ (w + tr = t ∨ (br v b 5 = 1 ∧ w + tr ≤ t))
theorem cmS_s {v : Nat → Int} {b tr : Nat} {R : Nat → Prop} {t : Nat} : cmS v b tr R t ↔ (tr ≤ t ∧ R (t - tr)) ∨ (br v b 5 = 1 ∧ 0 < t ∧ cmS v b tr R (t - 1)) := by
  constructor
  · rintro ⟨w, h1, h2⟩
    by_cases c : w + tr = t
    · exact Or.inl ⟨by omega, by rw [show t - tr = w by omega]; exact h1⟩
    · rcases h2 with z | z
      · exact absurd z c
      · exact Or.inr ⟨z.1, by omega, w, h1, Or.inr ⟨z.1, by omega⟩⟩
  · rintro (⟨h1, h2⟩ | ⟨h1, h2, w, h3, h4⟩)
    · exact ⟨t - tr, h2, Or.inl (by omega)⟩
    · exact ⟨w, h3, Or.inr ⟨h1, by omega⟩⟩
theorem stp_cm {v : Nat → Int} {s : Nat} {st : Int} {b : Nat} {sp : Int} {tr : Nat} {R : Nat → Prop} {t : Nat} : stp v s st b sp (tr : Int) R t ↔ t ≤ 1000 ∧ ∃ u : Nat, (u : Int) + tk (br v b 2) sp = t ∧ pas v s (sh v s 0) b (st + u) sp ∧ cmS v b tr R u := by
  constructor
  · rintro ⟨h0, u, w, h1, h2, h3, h4⟩
    exact ⟨h0, u, h1, h2, w, h3, by omega⟩
  · rintro ⟨h0, u, h1, h2, w, h3, h4⟩
    exact ⟨h0, u, w, h1, h2, h3, by omega⟩
set_option maxRecDepth 20000 in
theorem s_comesAhead {E : xE} {f : Nat → Nat} {D : Nat → Nat × Nat} {n : Nat} {m : xM} {P : xPo} {PX : xPx} {v : Nat → Int} {s i tr : Nat} {sp : Int} {R : Nat → Prop} (hv : vOk v) (hN : mN v m) (hs : (s : Int) < v 5) (hi : (i : Int) < v 4) (hsp : 4 ≤ sp ∧ sp ≤ 25) (htr : fr v s i sp = (tr : Int)) (hR : ∀ q, q ≤ 1000 → m 105 q = zi (R q)) (hP : ∀ m', ag [107] m m' → (∀ q, q ≤ 1000 → m' 107 q = zi (cmS v (bo v s i) tr R q)) → P none (gS f D n) m') : xC E (yX6_comesAhead, cX6_comesAhead, 7, none) 2 0 0 [vr E 96, vi (s : Int), vi (i : Int), vi sp] (gS f D n) m P PX := by
  refine x_enter (by decide) rfl rfl (Nat.le_of_ble_eq_true rfl) ?_
  have hv5 := hv.1.2.2.2.2.2.1
  have hv4 := hv.1.2.2.2.2.1.1
  have hb := bo_b (s := s) hv4.1 hi
  have hfo := fo_b (s := s) hv.1.2.2.2.2.1 hi
  have hfr := fr_b (s := s) hv.1.2.2.2.2.1 hsp hi
  have hli9 := (hv.1.2.2.2.2.1.2 (bo v s i) hb).2.2.2.2.2
  have loop : ∀ (j t : Nat) (m1 : xM), 1001 < t + j → t ≤ 1001 → ag [107] m m1 → (∀ q, q < t → m1 107 q = zi (cmS v (bo v s i) tr R q)) → xX E (("comesAhead", none, []), (2, 0, 0), P, PX) RX6 cX6_comesAhead 7 0 0 37 [(0, vr E 96), (1, vi (s : Int)), (2, vi (i : Int)), (3, vi sp), (4, vi (tr : Int)), (5, vi (zi (br v (bo v s i) 5 = 1))), (6, vi (t : Int))] [] (gS f D n) m1 := by
    intro j
    induction j with
    | zero => intro t m1 h1 h2; omega
    | succ j ih =>
      intro t m1 h1 h2 ha1 hk
      refine x_iload dX6_comesAhead_37 rfl ?_
      refine x_sipush dX6_comesAhead_39 (h := ?_)
      refine x_icmp_gt (tgt := 105) dX6_comesAhead_42 (by decide) (by omega) (fun h42 => ?_) (fun h42 => ?_)
      · exact x_vret dX6_comesAhead_105 (hP m1 ha1 (fun q hq => hk q (by omega)))
      · refine x_aload_n dX6_comesAhead_45 rfl ?_
        refine x_getR (r := 107) fX6_50 dX6_comesAhead_46 rfl rfl ?_
        refine x_iload dX6_comesAhead_49 rfl ?_
        refine x_iload dX6_comesAhead_51 rfl ?_
        refine x_iload dX6_comesAhead_53 rfl ?_
        refine x_icmp_lt (tgt := 71) dX6_comesAhead_55 (by decide) (by omega) (fun h55 => ?_) (fun h55 => ?_)
        · refine x_iload dX6_comesAhead_71 rfl ?_
          refine x_if_eq (tgt := 97) dX6_comesAhead_73 (by decide) (zi_r _) (fun h73 => ?_) (fun h73 => ?_)
          · have hnl := zi_0.mp h73
            refine x_iconst dX6_comesAhead_97 ?_
            refine x_zast (j := t) dX6_comesAhead_98 rfl (by decide) (by omega) (show _ < 1001 by omega) (by omega) (Or.inl rfl) ?_
            refine x_iinc dX6_comesAhead_99 rfl ?_
            refine x_goto (tgt := 37) dX6_comesAhead_102 (by decide) ?_
            exact x_loc (lv' := [(0, vr E 96), (1, vi (s : Int)), (2, vi (i : Int)), (3, vi sp), (4, vi (tr : Int)), (5, vi (zi (br v (bo v s i) 5 = 1))), (6, vi ((t + 1 : Nat) : Int))]) ⟨rfl, rfl, rfl, rfl, rfl, rfl, xl_i rfl (by omega), trivial⟩ (ih (t + 1) _ (by omega) (by omega) (ha1.u (by decide)) (lt_s (fun q hq => by rw [xu_if, if_neg (by omega)]; exact hk q hq) (by rw [xu_if, if_pos rfl]; exact (zi_f (fun zz => (cmS_s.mp zz).elim (fun zz => by omega) (fun zz => hnl zz.1))).symm)))
          · have hli := zi_1.mp h73
            refine x_iload dX6_comesAhead_76 rfl ?_
            refine x_if_le (tgt := 97) dX6_comesAhead_78 (by decide) (by omega) (fun h78 => ?_) (fun h78 => ?_)
            · refine x_iconst dX6_comesAhead_97 ?_
              refine x_zast (j := t) dX6_comesAhead_98 rfl (by decide) (by omega) (show _ < 1001 by omega) (by omega) (Or.inl rfl) ?_
              refine x_iinc dX6_comesAhead_99 rfl ?_
              refine x_goto (tgt := 37) dX6_comesAhead_102 (by decide) ?_
              exact x_loc (lv' := [(0, vr E 96), (1, vi (s : Int)), (2, vi (i : Int)), (3, vi sp), (4, vi (tr : Int)), (5, vi (zi (br v (bo v s i) 5 = 1))), (6, vi ((t + 1 : Nat) : Int))]) ⟨rfl, rfl, rfl, rfl, rfl, rfl, xl_i rfl (by omega), trivial⟩ (ih (t + 1) _ (by omega) (by omega) (ha1.u (by decide)) (lt_s (fun q hq => by rw [xu_if, if_neg (by omega)]; exact hk q hq) (by rw [xu_if, if_pos rfl]; exact (zi_f (fun zz => (cmS_s.mp zz).elim (fun zz => by omega) (fun zz => by omega))).symm)))
            · refine x_aload_n dX6_comesAhead_81 rfl ?_
              refine x_getR (r := 107) fX6_50 dX6_comesAhead_82 rfl rfl ?_
              refine x_iload dX6_comesAhead_85 rfl ?_
              refine x_iconst dX6_comesAhead_87 ?_
              refine x_isub dX6_comesAhead_88 ?_
              refine x_zald (j := t - 1) dX6_comesAhead_89 rfl (by omega) (show _ < 1001 by omega) (by omega) ?_
              refine x_top (hk (t - 1) (by omega)) ?_
              refine x_if_eq (tgt := 97) dX6_comesAhead_90 (by decide) (zi_r _) (fun h90 => ?_) (fun h90 => ?_)
              · have hd := zi_0.mp h90
                refine x_iconst dX6_comesAhead_97 ?_
                refine x_zast (j := t) dX6_comesAhead_98 rfl (by decide) (by omega) (show _ < 1001 by omega) (by omega) (Or.inl rfl) ?_
                refine x_iinc dX6_comesAhead_99 rfl ?_
                refine x_goto (tgt := 37) dX6_comesAhead_102 (by decide) ?_
                exact x_loc (lv' := [(0, vr E 96), (1, vi (s : Int)), (2, vi (i : Int)), (3, vi sp), (4, vi (tr : Int)), (5, vi (zi (br v (bo v s i) 5 = 1))), (6, vi ((t + 1 : Nat) : Int))]) ⟨rfl, rfl, rfl, rfl, rfl, rfl, xl_i rfl (by omega), trivial⟩ (ih (t + 1) _ (by omega) (by omega) (ha1.u (by decide)) (lt_s (fun q hq => by rw [xu_if, if_neg (by omega)]; exact hk q hq) (by rw [xu_if, if_pos rfl]; exact (zi_f (fun zz => (cmS_s.mp zz).elim (fun zz => by omega) (fun zz => hd zz.2.2))).symm)))
              · have hd := zi_1.mp h90
                refine x_iconst dX6_comesAhead_93 ?_
                refine x_goto (tgt := 98) dX6_comesAhead_94 (by decide) ?_
                refine x_zast (j := t) dX6_comesAhead_98 rfl (by decide) (by omega) (show _ < 1001 by omega) (by omega) (Or.inr rfl) ?_
                refine x_iinc dX6_comesAhead_99 rfl ?_
                refine x_goto (tgt := 37) dX6_comesAhead_102 (by decide) ?_
                exact x_loc (lv' := [(0, vr E 96), (1, vi (s : Int)), (2, vi (i : Int)), (3, vi sp), (4, vi (tr : Int)), (5, vi (zi (br v (bo v s i) 5 = 1))), (6, vi ((t + 1 : Nat) : Int))]) ⟨rfl, rfl, rfl, rfl, rfl, rfl, xl_i rfl (by omega), trivial⟩ (ih (t + 1) _ (by omega) (by omega) (ha1.u (by decide)) (lt_s (fun q hq => by rw [xu_if, if_neg (by omega)]; exact hk q hq) (by rw [xu_if, if_pos rfl]; exact (zi_t (cmS_s.mpr (Or.inr ⟨hli, by omega, hd⟩))).symm)))
        · refine x_aload_n dX6_comesAhead_58 rfl ?_
          refine x_getR (r := 105) fX6_44 dX6_comesAhead_59 rfl rfl ?_
          refine x_iload dX6_comesAhead_62 rfl ?_
          refine x_iload dX6_comesAhead_64 rfl ?_
          refine x_isub dX6_comesAhead_66 ?_
          refine x_zald (j := t - tr) dX6_comesAhead_67 rfl (by omega) (show _ < 1001 by omega) (by omega) ?_
          refine x_top (show m1 105 (t - tr) = zi (R (t - tr)) by rw [ha1 105 (by decide)]; exact hR (t - tr) (by omega)) ?_
          refine x_if_ne (tgt := 93) dX6_comesAhead_68 (by decide) (zi_r _) (fun h68 => ?_) (fun h68 => ?_)
          · have hc := zi_1.mp h68
            refine x_iconst dX6_comesAhead_93 ?_
            refine x_goto (tgt := 98) dX6_comesAhead_94 (by decide) ?_
            refine x_zast (j := t) dX6_comesAhead_98 rfl (by decide) (by omega) (show _ < 1001 by omega) (by omega) (Or.inr rfl) ?_
            refine x_iinc dX6_comesAhead_99 rfl ?_
            refine x_goto (tgt := 37) dX6_comesAhead_102 (by decide) ?_
            exact x_loc (lv' := [(0, vr E 96), (1, vi (s : Int)), (2, vi (i : Int)), (3, vi sp), (4, vi (tr : Int)), (5, vi (zi (br v (bo v s i) 5 = 1))), (6, vi ((t + 1 : Nat) : Int))]) ⟨rfl, rfl, rfl, rfl, rfl, rfl, xl_i rfl (by omega), trivial⟩ (ih (t + 1) _ (by omega) (by omega) (ha1.u (by decide)) (lt_s (fun q hq => by rw [xu_if, if_neg (by omega)]; exact hk q hq) (by rw [xu_if, if_pos rfl]; exact (zi_t (cmS_s.mpr (Or.inl ⟨by omega, hc⟩))).symm)))
          · have hc := zi_0.mp h68
            refine x_iload dX6_comesAhead_71 rfl ?_
            refine x_if_eq (tgt := 97) dX6_comesAhead_73 (by decide) (zi_r _) (fun h73 => ?_) (fun h73 => ?_)
            · have hnl := zi_0.mp h73
              refine x_iconst dX6_comesAhead_97 ?_
              refine x_zast (j := t) dX6_comesAhead_98 rfl (by decide) (by omega) (show _ < 1001 by omega) (by omega) (Or.inl rfl) ?_
              refine x_iinc dX6_comesAhead_99 rfl ?_
              refine x_goto (tgt := 37) dX6_comesAhead_102 (by decide) ?_
              exact x_loc (lv' := [(0, vr E 96), (1, vi (s : Int)), (2, vi (i : Int)), (3, vi sp), (4, vi (tr : Int)), (5, vi (zi (br v (bo v s i) 5 = 1))), (6, vi ((t + 1 : Nat) : Int))]) ⟨rfl, rfl, rfl, rfl, rfl, rfl, xl_i rfl (by omega), trivial⟩ (ih (t + 1) _ (by omega) (by omega) (ha1.u (by decide)) (lt_s (fun q hq => by rw [xu_if, if_neg (by omega)]; exact hk q hq) (by rw [xu_if, if_pos rfl]; exact (zi_f (fun zz => (cmS_s.mp zz).elim (fun zz => hc zz.2) (fun zz => hnl zz.1))).symm)))
            · have hli := zi_1.mp h73
              refine x_iload dX6_comesAhead_76 rfl ?_
              refine x_if_le (tgt := 97) dX6_comesAhead_78 (by decide) (by omega) (fun h78 => ?_) (fun h78 => ?_)
              · refine x_iconst dX6_comesAhead_97 ?_
                refine x_zast (j := t) dX6_comesAhead_98 rfl (by decide) (by omega) (show _ < 1001 by omega) (by omega) (Or.inl rfl) ?_
                refine x_iinc dX6_comesAhead_99 rfl ?_
                refine x_goto (tgt := 37) dX6_comesAhead_102 (by decide) ?_
                exact x_loc (lv' := [(0, vr E 96), (1, vi (s : Int)), (2, vi (i : Int)), (3, vi sp), (4, vi (tr : Int)), (5, vi (zi (br v (bo v s i) 5 = 1))), (6, vi ((t + 1 : Nat) : Int))]) ⟨rfl, rfl, rfl, rfl, rfl, rfl, xl_i rfl (by omega), trivial⟩ (ih (t + 1) _ (by omega) (by omega) (ha1.u (by decide)) (lt_s (fun q hq => by rw [xu_if, if_neg (by omega)]; exact hk q hq) (by rw [xu_if, if_pos rfl]; exact (zi_f (fun zz => (cmS_s.mp zz).elim (fun zz => hc zz.2) (fun zz => by omega))).symm)))
              · refine x_aload_n dX6_comesAhead_81 rfl ?_
                refine x_getR (r := 107) fX6_50 dX6_comesAhead_82 rfl rfl ?_
                refine x_iload dX6_comesAhead_85 rfl ?_
                refine x_iconst dX6_comesAhead_87 ?_
                refine x_isub dX6_comesAhead_88 ?_
                refine x_zald (j := t - 1) dX6_comesAhead_89 rfl (by omega) (show _ < 1001 by omega) (by omega) ?_
                refine x_top (hk (t - 1) (by omega)) ?_
                refine x_if_eq (tgt := 97) dX6_comesAhead_90 (by decide) (zi_r _) (fun h90 => ?_) (fun h90 => ?_)
                · have hd := zi_0.mp h90
                  refine x_iconst dX6_comesAhead_97 ?_
                  refine x_zast (j := t) dX6_comesAhead_98 rfl (by decide) (by omega) (show _ < 1001 by omega) (by omega) (Or.inl rfl) ?_
                  refine x_iinc dX6_comesAhead_99 rfl ?_
                  refine x_goto (tgt := 37) dX6_comesAhead_102 (by decide) ?_
                  exact x_loc (lv' := [(0, vr E 96), (1, vi (s : Int)), (2, vi (i : Int)), (3, vi sp), (4, vi (tr : Int)), (5, vi (zi (br v (bo v s i) 5 = 1))), (6, vi ((t + 1 : Nat) : Int))]) ⟨rfl, rfl, rfl, rfl, rfl, rfl, xl_i rfl (by omega), trivial⟩ (ih (t + 1) _ (by omega) (by omega) (ha1.u (by decide)) (lt_s (fun q hq => by rw [xu_if, if_neg (by omega)]; exact hk q hq) (by rw [xu_if, if_pos rfl]; exact (zi_f (fun zz => (cmS_s.mp zz).elim (fun zz => hc zz.2) (fun zz => hd zz.2.2))).symm)))
                · have hd := zi_1.mp h90
                  refine x_iconst dX6_comesAhead_93 ?_
                  refine x_goto (tgt := 98) dX6_comesAhead_94 (by decide) ?_
                  refine x_zast (j := t) dX6_comesAhead_98 rfl (by decide) (by omega) (show _ < 1001 by omega) (by omega) (Or.inr rfl) ?_
                  refine x_iinc dX6_comesAhead_99 rfl ?_
                  refine x_goto (tgt := 37) dX6_comesAhead_102 (by decide) ?_
                  exact x_loc (lv' := [(0, vr E 96), (1, vi (s : Int)), (2, vi (i : Int)), (3, vi sp), (4, vi (tr : Int)), (5, vi (zi (br v (bo v s i) 5 = 1))), (6, vi ((t + 1 : Nat) : Int))]) ⟨rfl, rfl, rfl, rfl, rfl, rfl, xl_i rfl (by omega), trivial⟩ (ih (t + 1) _ (by omega) (by omega) (ha1.u (by decide)) (lt_s (fun q hq => by rw [xu_if, if_neg (by omega)]; exact hk q hq) (by rw [xu_if, if_pos rfl]; exact (zi_t (cmS_s.mpr (Or.inr ⟨hli, by omega, hd⟩))).symm)))
  refine x_aload_n dX6_comesAhead_0 rfl ?_
  refine x_iload_n dX6_comesAhead_1 rfl ?_
  refine x_iload_n dX6_comesAhead_2 rfl ?_
  refine x_V2 mX6_268 dX6_comesAhead_3 rfl (s_farOn hv hN hs hi ?_)
  refine x_iload_n dX6_comesAhead_6 rfl ?_
  refine x_S2 mX6_261 dX6_comesAhead_7 (s_takes (by omega) (by omega) ?_)
  refine x_top (show tk (fo v s i) sp = (tr : Int) by rw [fr_fo hsp]; exact htr) ?_
  refine x_istore dX6_comesAhead_10 ?_
  refine x_aload_n dX6_comesAhead_12 rfl ?_
  refine x_aload_n dX6_comesAhead_13 rfl ?_
  refine x_iload_n dX6_comesAhead_14 rfl ?_
  refine x_iload_n dX6_comesAhead_15 rfl ?_
  refine x_V2 mX6_271 dX6_comesAhead_16 rfl (s_barOn hv hN hs hi ?_)
  refine x_iconst dX6_comesAhead_19 ?_
  refine x_V2 mX6_222 dX6_comesAhead_20 rfl (s_ofBar (24 + 6 * bo v s i + 5) (by omega) (by omega) ?_)
  refine x_top (hN.b (b := bo v s i) (by omega) (by omega)) ?_
  refine x_iconst dX6_comesAhead_23 ?_
  refine x_icmp_ne (tgt := 31) dX6_comesAhead_24 (by decide) (by omega) (fun h24 => ?_) (fun h24 => ?_)
  · refine x_iconst dX6_comesAhead_31 ?_
    refine x_top ((zi_f h24).symm) ?_
    refine x_istore dX6_comesAhead_32 ?_
    refine x_iconst dX6_comesAhead_34 ?_
    refine x_istore dX6_comesAhead_35 ?_
    exact x_loc (lv' := [(0, vr E 96), (1, vi (s : Int)), (2, vi (i : Int)), (3, vi sp), (4, vi (tr : Int)), (5, vi (zi (br v (bo v s i) 5 = 1))), (6, vi ((0 : Nat) : Int))]) ⟨rfl, rfl, rfl, rfl, rfl, rfl, rfl, trivial⟩ (loop 1002 0 m (by omega) (by omega) ag.rf (fun q hq => absurd hq (Nat.not_lt_zero q)))
  · refine x_iconst dX6_comesAhead_27 ?_
    refine x_goto (tgt := 32) dX6_comesAhead_28 (by decide) ?_
    refine x_top ((zi_t (by omega)).symm) ?_
    refine x_istore dX6_comesAhead_32 ?_
    refine x_iconst dX6_comesAhead_34 ?_
    refine x_istore dX6_comesAhead_35 ?_
    exact x_loc (lv' := [(0, vr E 96), (1, vi (s : Int)), (2, vi (i : Int)), (3, vi sp), (4, vi (tr : Int)), (5, vi (zi (br v (bo v s i) 5 = 1))), (6, vi ((0 : Nat) : Int))]) ⟨rfl, rfl, rfl, rfl, rfl, rfl, rfl, trivial⟩ (loop 1002 0 m (by omega) (by omega) ag.rf (fun q hq => absurd hq (Nat.not_lt_zero q)))

theorem gx_no {m1 : xM} {v : Nat → Int} {s : Nat} {st : Int} {i tr t : Nat} {sp : Int} {R N : Nat → Prop} (hn : ∀ q, q ≤ 1000 → m1 106 q = zi (N q ∨ ∃ u : Nat, u < t ∧ (u : Int) + tk (br v (bo v s i) 2) sp = q ∧ pas v s (sh v s 0) (bo v s i) (st + u) sp ∧ cmS v (bo v s i) tr R u)) (h : (∃ q : Nat, q ≤ 1000 ∧ (t : Int) + tk (br v (bo v s i) 2) sp = q ∧ m1 106 q = 1) ∨ ¬ (pas v s (sh v s 0) (bo v s i) (st + t) sp ∧ cmS v (bo v s i) tr R t)) : ∀ q, q ≤ 1000 → m1 106 q = zi (N q ∨ ∃ u : Nat, u < t + 1 ∧ (u : Int) + tk (br v (bo v s i) 2) sp = q ∧ pas v s (sh v s 0) (bo v s i) (st + u) sp ∧ cmS v (bo v s i) tr R u) := by
  intro q hq
  rw [hn q hq]
  refine zi_c ⟨fun z => z.elim Or.inl (fun ⟨u, h1, h2⟩ => Or.inr ⟨u, by omega, h2⟩), fun z => ?_⟩
  rcases z with z | ⟨u, h1, h2, h3, h4⟩
  · exact Or.inl z
  · rcases (by omega : u < t ∨ u = t) with y | y
    · exact Or.inr ⟨u, y, h2, h3, h4⟩
    · subst y
      rcases h with ⟨q', g1, g2, g3⟩ | h
      · have e : q' = q := by omega
        subst e
        rw [hn q' g1] at g3
        exact zi_1.mp (by omega)
      · exact absurd ⟨h3, h4⟩ h
theorem gx_yes {m1 m2 : xM} {v : Nat → Int} {s : Nat} {st : Int} {i tr t j : Nat} {sp : Int} {R N : Nat → Prop} (hn : ∀ q, q ≤ 1000 → m1 106 q = zi (N q ∨ ∃ u : Nat, u < t ∧ (u : Int) + tk (br v (bo v s i) 2) sp = q ∧ pas v s (sh v s 0) (bo v s i) (st + u) sp ∧ cmS v (bo v s i) tr R u)) (hj : (t : Int) + tk (br v (bo v s i) 2) sp = (j : Int)) (h : pas v s (sh v s 0) (bo v s i) (st + t) sp ∧ cmS v (bo v s i) tr R t) (h2 : ∀ q, m2 106 q = if q = j then 1 else m1 106 q) : ∀ q, q ≤ 1000 → m2 106 q = zi (N q ∨ ∃ u : Nat, u < t + 1 ∧ (u : Int) + tk (br v (bo v s i) 2) sp = q ∧ pas v s (sh v s 0) (bo v s i) (st + u) sp ∧ cmS v (bo v s i) tr R u) := by
  intro q hq
  rw [h2 q]
  by_cases c : q = j
  · rw [if_pos c]
    exact (zi_t (Or.inr ⟨t, by omega, by omega, h.1, h.2⟩)).symm
  · rw [if_neg c, hn q hq]
    refine zi_c ⟨fun z => z.elim Or.inl (fun ⟨u, h1, h2⟩ => Or.inr ⟨u, by omega, h2⟩), fun z => ?_⟩
    rcases z with z | ⟨u, h1, h2, h3, h4⟩
    · exact Or.inl z
    · rcases (by omega : u < t ∨ u = t) with y | y
      · exact Or.inr ⟨u, y, h2, h3, h4⟩
      · subst y; omega
set_option maxRecDepth 20000 in
theorem s_goesOn {E : xE} {f : Nat → Nat} {D : Nat → Nat × Nat} {n : Nat} {m : xM} {P : xPo} {PX : xPx} {v : Nat → Int} {s i : Nat} {st sp : Int} {R N : Nat → Prop} (hv : vOk v) (hN : mN v m) (hs : (s : Int) < v 5) (hi : (i : Int) < v 4) (hsp : 4 ≤ sp ∧ sp ≤ 25) (hst : 0 ≤ st ∧ st ≤ 10000) (hR : ∀ q, q ≤ 1000 → m 105 q = zi (R q)) (hNx : ∀ q, q ≤ 1000 → m 106 q = zi (N q)) (hP : ∀ m', ag [103, 106, 107] m m' → (∀ q, q ≤ 1000 → m' 106 q = zi (N q ∨ stp v s st (bo v s i) sp (fr v s i sp) R q)) → P none (gS f D n) m') : xC E (yX6_goesOn, cX6_goesOn, 8, none) 7 0 0 [vr E 96, vi (s : Int), vi st, vi (i : Int), vi sp] (gS f D n) m P PX := by
  refine x_enter (by decide) rfl rfl (Nat.le_of_ble_eq_true rfl) ?_
  have hv5 := hv.1.2.2.2.2.2.1
  have hv4 := hv.1.2.2.2.2.1.1
  have hb := bo_b (s := s) hv4.1 hi
  have hsg := sg_b hv.1.2.2.2.2.1 hb hsp
  obtain ⟨-, -, hlg, -⟩ := hv.1.2.2.2.2.1.2 (bo v s i) hb
  obtain ⟨hdr, -⟩ := hv.1.2.2.2.2.2.2 s hs
  have hfr := fr_b (s := s) hv.1.2.2.2.2.1 hsp hi
  obtain ⟨tr, htr⟩ : ∃ tr : Nat, fr v s i sp = (tr : Int) := ⟨(fr v s i sp).toNat, by omega⟩
  obtain ⟨L, hL9⟩ : ∃ L : Nat, tk (br v (bo v s i) 2) sp = (L : Int) := ⟨(tk (br v (bo v s i) 2) sp).toNat, by omega⟩
  have loop : ∀ (j t : Nat) (m1 : xM), 1001 < t + j → t ≤ 1001 → ag [103, 106, 107] m m1 → (∀ q, q ≤ 1000 → m1 107 q = zi (cmS v (bo v s i) tr R q)) → (∀ q, q ≤ 1000 → m1 106 q = zi (N q ∨ ∃ u : Nat, u < t ∧ (u : Int) + tk (br v (bo v s i) 2) sp = q ∧ pas v s (sh v s 0) (bo v s i) (st + u) sp ∧ cmS v (bo v s i) tr R u)) → xX E (("goesOn", none, []), (7, 0, 0), P, PX) RX6 cX6_goesOn 8 0 0 33 [(0, vr E 96), (1, vi (s : Int)), (2, vi st), (3, vi (i : Int)), (4, vi sp), (5, vi ((bo v s i : Nat) : Int)), (6, vi (tk (br v (bo v s i) 2) sp)), (7, vi (t : Int))] [] (gS f D n) m1 := by
    intro j
    induction j with
    | zero => intro t m1 h1 h2; omega
    | succ j ih =>
      intro t m1 h1 h2 ha1 hcs hn
      refine x_iload dX6_goesOn_33 rfl ?_
      refine x_iload dX6_goesOn_35 rfl ?_
      refine x_iadd dX6_goesOn_37 ?_
      refine x_sipush dX6_goesOn_38 (h := ?_)
      refine x_icmp_gt (tgt := 106) dX6_goesOn_41 (by decide) (by omega) (fun h41 => ?_) (fun h41 => ?_)
      · exact x_vret dX6_goesOn_106 (hP m1 ha1 (fun q hq => by
        rw [hn q hq, htr]
        refine zi_c (or_congr Iff.rfl ?_)
        rw [stp_cm]
        exact ⟨fun ⟨u, g1, g2, g3, g4⟩ => ⟨hq, u, g2, g3, g4⟩, fun ⟨_, u, g2, g3, g4⟩ => ⟨u, by omega, g2, g3, g4⟩⟩))
      · refine x_aload_n dX6_goesOn_44 rfl ?_
        refine x_getR (r := 107) fX6_50 dX6_goesOn_45 rfl rfl ?_
        refine x_iload dX6_goesOn_48 rfl ?_
        refine x_zald (j := t) dX6_goesOn_50 rfl (by omega) (show _ < 1001 by omega) (by omega) ?_
        refine x_top (hcs t (by omega)) ?_
        refine x_if_eq (tgt := 100) dX6_goesOn_51 (by decide) (zi_r _) (fun h51 => ?_) (fun h51 => ?_)
        · have hc := zi_0.mp h51
          refine x_iinc dX6_goesOn_100 rfl ?_
          refine x_goto (tgt := 33) dX6_goesOn_103 (by decide) ?_
          exact x_loc (lv' := [(0, vr E 96), (1, vi (s : Int)), (2, vi st), (3, vi (i : Int)), (4, vi sp), (5, vi ((bo v s i : Nat) : Int)), (6, vi (tk (br v (bo v s i) 2) sp)), (7, vi ((t + 1 : Nat) : Int))]) ⟨rfl, rfl, rfl, rfl, rfl, rfl, rfl, xl_i rfl (by omega), trivial⟩ (ih (t + 1) m1 (by omega) (by omega) ha1 hcs (gx_no hn (Or.inr (fun zz => hc zz.2))))
        · have hc := zi_1.mp h51
          refine x_aload_n dX6_goesOn_54 rfl ?_
          refine x_getR (r := 106) fX6_47 dX6_goesOn_55 rfl rfl ?_
          refine x_iload dX6_goesOn_58 rfl ?_
          refine x_iload dX6_goesOn_60 rfl ?_
          refine x_iadd dX6_goesOn_62 ?_
          refine x_zald (j := t + L) dX6_goesOn_63 rfl (by omega) (show _ < 1001 by omega) (by omega) ?_
          refine x_if_ne (tgt := 100) dX6_goesOn_64 (by decide) (by rw [hn (t + L) (by omega)]; exact zi_r _) (fun h64 => ?_) (fun h64 => ?_)
          · have hnx : m1 106 (t + L) = 1 := by
              rw [hn (t + L) (by omega)] at h64 ⊢
              exact zi_t (zi_1.mp h64)
            refine x_iinc dX6_goesOn_100 rfl ?_
            refine x_goto (tgt := 33) dX6_goesOn_103 (by decide) ?_
            exact x_loc (lv' := [(0, vr E 96), (1, vi (s : Int)), (2, vi st), (3, vi (i : Int)), (4, vi sp), (5, vi ((bo v s i : Nat) : Int)), (6, vi (tk (br v (bo v s i) 2) sp)), (7, vi ((t + 1 : Nat) : Int))]) ⟨rfl, rfl, rfl, rfl, rfl, rfl, rfl, xl_i rfl (by omega), trivial⟩ (ih (t + 1) m1 (by omega) (by omega) ha1 hcs (gx_no hn (Or.inl ⟨t + L, by omega, by omega, hnx⟩)))
          · refine x_aload_n dX6_goesOn_67 rfl ?_
            refine x_iload_n dX6_goesOn_68 rfl ?_
            refine x_aload_n dX6_goesOn_69 rfl ?_
            refine x_iload_n dX6_goesOn_70 rfl ?_
            refine x_iconst dX6_goesOn_71 ?_
            refine x_V2 mX6_241 dX6_goesOn_72 rfl (s_ofShip (60 + 8 * s + 0) (by omega) (by omega) ?_)
            refine x_top ((hN.ag ha1 (by decide)).s (s := s) (by omega) (by omega)) ?_
            refine x_iload dX6_goesOn_75 rfl ?_
            refine x_iload_n dX6_goesOn_77 rfl ?_
            refine x_iload dX6_goesOn_78 rfl ?_
            refine x_iadd dX6_goesOn_80 ?_
            refine x_iload dX6_goesOn_81 rfl ?_
            refine x_V5 mX6_277 dX6_goesOn_83 rfl (s_canPass hv (hN.ag ha1 (by decide)) hs hb (by omega) (by omega) hsp (fun m2 ha2 => ?_))
            refine x_if_eq (tgt := 100) dX6_goesOn_86 (by decide) (zi_r _) (fun h86 => ?_) (fun h86 => ?_)
            · have hd := zi_0.mp h86
              refine x_iinc dX6_goesOn_100 rfl ?_
              refine x_goto (tgt := 33) dX6_goesOn_103 (by decide) ?_
              exact x_loc (lv' := [(0, vr E 96), (1, vi (s : Int)), (2, vi st), (3, vi (i : Int)), (4, vi sp), (5, vi ((bo v s i : Nat) : Int)), (6, vi (tk (br v (bo v s i) 2) sp)), (7, vi ((t + 1 : Nat) : Int))]) ⟨rfl, rfl, rfl, rfl, rfl, rfl, rfl, xl_i rfl (by omega), trivial⟩ (ih (t + 1) m2 (by omega) (by omega) (ha1.tr ha2 (by decide) (by decide)) (fun q hq => by rw [ha2 107 (by decide)]; exact hcs q hq) (gx_no (fun q hq => by rw [ha2 106 (by decide)]; exact hn q hq) (Or.inr (fun zz => hd zz.1))))
            · have hd := zi_1.mp h86
              refine x_aload_n dX6_goesOn_89 rfl ?_
              refine x_getR (r := 106) fX6_47 dX6_goesOn_90 rfl rfl ?_
              refine x_iload dX6_goesOn_93 rfl ?_
              refine x_iload dX6_goesOn_95 rfl ?_
              refine x_iadd dX6_goesOn_97 ?_
              refine x_iconst dX6_goesOn_98 ?_
              refine x_zast (j := t + L) dX6_goesOn_99 rfl (by decide) (by omega) (show _ < 1001 by omega) (by omega) (Or.inr rfl) ?_
              refine x_iinc dX6_goesOn_100 rfl ?_
              refine x_goto (tgt := 33) dX6_goesOn_103 (by decide) ?_
              exact x_loc (lv' := [(0, vr E 96), (1, vi (s : Int)), (2, vi st), (3, vi (i : Int)), (4, vi sp), (5, vi ((bo v s i : Nat) : Int)), (6, vi (tk (br v (bo v s i) 2) sp)), (7, vi ((t + 1 : Nat) : Int))]) ⟨rfl, rfl, rfl, rfl, rfl, rfl, rfl, xl_i rfl (by omega), trivial⟩ (ih (t + 1) _ (by omega) (by omega) ((ha1.tr ha2 (by decide) (by decide)).u (by decide)) (fun q hq => by rw [xu_ne (by decide), ha2 107 (by decide)]; exact hcs q hq) (gx_yes (m1 := m2) (j := t + L) (fun q hq => by rw [ha2 106 (by decide)]; exact hn q hq) (by omega) ⟨hd, hc⟩ (fun q => by rw [xu_if])))
  refine x_aload_n dX6_goesOn_0 rfl ?_
  refine x_iload_n dX6_goesOn_1 rfl ?_
  refine x_iload_n dX6_goesOn_2 rfl ?_
  refine x_V2 mX6_271 dX6_goesOn_3 rfl (s_barOn hv hN hs hi ?_)
  refine x_istore dX6_goesOn_6 ?_
  refine x_aload_n dX6_goesOn_8 rfl ?_
  refine x_iload dX6_goesOn_9 rfl ?_
  refine x_iconst dX6_goesOn_11 ?_
  refine x_V2 mX6_222 dX6_goesOn_12 rfl (s_ofBar (24 + 6 * bo v s i + 2) (by omega) (by omega) ?_)
  refine x_top (hN.b (b := bo v s i) (by omega) (by omega)) ?_
  refine x_iload dX6_goesOn_15 rfl ?_
  refine x_S2 mX6_261 dX6_goesOn_17 (s_takes (by omega) (by omega) ?_)
  refine x_istore dX6_goesOn_20 ?_
  refine x_aload_n dX6_goesOn_22 rfl ?_
  refine x_iload_n dX6_goesOn_23 rfl ?_
  refine x_iload_n dX6_goesOn_24 rfl ?_
  refine x_iload dX6_goesOn_25 rfl ?_
  refine x_V3 mX6_352 dX6_goesOn_27 rfl (s_comesAhead (R := R) (tr := tr) hv hN hs hi hsp htr hR (fun m1 ha1 hcs => ?_))
  refine x_iconst dX6_goesOn_30 ?_
  refine x_istore dX6_goesOn_31 ?_
  exact x_loc (lv' := [(0, vr E 96), (1, vi (s : Int)), (2, vi st), (3, vi (i : Int)), (4, vi sp), (5, vi ((bo v s i : Nat) : Int)), (6, vi (tk (br v (bo v s i) 2) sp)), (7, vi ((0 : Nat) : Int))]) ⟨rfl, rfl, rfl, rfl, rfl, rfl, rfl, rfl, trivial⟩ (loop 1002 0 m1 (by omega) (by omega) (ha1.wk (by decide)) hcs (fun q hq => by rw [ha1 106 (by decide), hNx q hq]; exact zi_c ⟨Or.inl, fun zz => zz.elim id (fun ⟨u, g1, _⟩ => absurd g1 (Nat.not_lt_zero u))⟩))

end MO
