section MZ
theorem getD_dl {h : List (Nat → Int)} {j : Nat} {d : Nat → Int} (hj : j + 1 < h.length) : h.dropLast.getD j d = h.getD j d := by
  simp [List.getD_eq_getElem?_getD, List.getElem?_dropLast]
  rw [if_pos (by omega)]
/-- what undo leaves of the model -/
def muR (v : Nat → Int) (h : List (Nat → Int)) (m m' : xM) (r : Int) : Prop :=
  (h = [] ∧ r = -1 ∧ m' = xu m 96 0 0) ∨ (∃ t v', h.length = t + 1 ∧ v' = h.getD t (fun _ => 0) ∧ r = (t : Int) ∧ ag [96, 98] (xu m 96 0 0) m' ∧ (∀ j, j ≠ 5 → m' 96 j = xu m 96 0 0 96 j) ∧ mN v' m' ∧ mH h.dropLast m')
set_option maxRecDepth 20000 in
theorem un_1 {E : xE} {f : Nat → Nat} {D : Nat → Nat × Nat} {n : Nat} {m : xM} {P : xPo} {PX : xPx} {t : Nat} {w : Nat → Int} (ht : t ≤ 7) (hc : m 96 5 = (t : Int)) (hw : ∀ k, k < 709 → m 100 (709 * t + k) = w k) (hK : ∀ m1, ag [98] m m1 → mN w m1 → P (some (vi (t : Int))) (gS f D n) m1) :
    ∀ (j k : Nat) (m1 : xM), 709 < k + j → k ≤ 709 → ag [98] m m1 → (∀ q, q < k → m1 98 q = w q) → xX E (("undo", some .int, []), (0, 0, 0), P, PX) RX6 cX6_undo 2 0 0 26 [(0, vr E 96), (1, vi (k : Int))] [] (gS f D n) m1 := by
  intro j
  induction j with
  | zero => intro k m1 h1 h2; omega
  | succ j ih =>
    intro k m1 h1 h2 ha1 hb
    refine x_iload_n dX6_undo_26 rfl ?_
    refine x_sipush dX6_undo_27 (h := ?_)
    refine x_icmp_ge (tgt := 60) dX6_undo_30 (by decide) (by omega) (fun h30 => ?_) (fun h30 => ?_)
    · refine x_aload_n dX6_undo_60 rfl ?_
      refine x_getI fX6_62 dX6_undo_61 rfl ?_
      refine x_top (show m1 96 5 = (t : Int) by rw [ha1 96 (by decide)]; exact hc) ?_
      exact x_iret dX6_undo_64  (hK m1 ha1 (fun q hq => hb q (by omega)))
    · refine x_aload_n dX6_undo_33 rfl ?_
      refine x_getR (r := 98) fX6_17 dX6_undo_34 rfl rfl ?_
      refine x_iload_n dX6_undo_37 rfl ?_
      refine x_aload_n dX6_undo_38 rfl ?_
      refine x_getR (r := 100) fX6_23 dX6_undo_39 rfl rfl ?_
      refine x_sipush dX6_undo_42 (h := ?_)
      refine x_aload_n dX6_undo_45 rfl ?_
      refine x_getI fX6_62 dX6_undo_46 rfl ?_
      refine x_top (show m1 96 5 = (t : Int) by rw [ha1 96 (by decide)]; exact hc) ?_
      refine x_imul dX6_undo_49 ?_
      refine x_iload_n dX6_undo_50 rfl ?_
      refine x_iadd dX6_undo_51 ?_
      refine x_iald (j := 709 * t + k) dX6_undo_52 rfl (by omega) (show _ < 5672 by omega) (by omega) ?_
      refine x_top (show m1 100 (709 * t + k) = w k by rw [ha1 100 (by decide)]; exact hw k (by omega)) ?_
      refine x_iast (j := k) dX6_undo_53 rfl (by decide) (by omega) (show _ < 709 by omega) (by omega) ?_
      refine x_iinc dX6_undo_54 rfl ?_
      refine x_goto (tgt := 26) dX6_undo_57 (by decide) ?_
      exact x_loc (lv' := [(0, vr E 96), (1, vi ((k + 1 : Nat) : Int))]) ⟨rfl, xl_i rfl (by omega), trivial⟩ (ih (k + 1) _ (by omega) (by omega) (ha1.u (by decide)) (lt_s (fun q hq => by rw [xu_if, if_neg (by omega)]; exact hb q hq) (by rw [xu_if, if_pos rfl])))

set_option maxRecDepth 20000 in
theorem s_mundo {E : xE} {f : Nat → Nat} {D : Nat → Nat × Nat} {n : Nat} {m : xM} {P : xPo} {PX : xPx} {v : Nat → Int} {h : List (Nat → Int)} (hH : mH h m) (hP : ∀ m' r, muR v h m m' r → P (some (vi r)) (gS f D n) m') : xC E (yX6_undo, cX6_undo, 2, some .int) 0 0 0 [vr E 96] (gS f D n) m P PX := by
  refine x_enter (by decide) rfl rfl (Nat.le_of_ble_eq_true rfl) ?_
  have h8 := hH.2.1
  refine x_aload_n dX6_undo_0 rfl ?_
  refine x_iconst dX6_undo_1 ?_
  refine x_putI fX6_1 dX6_undo_2 rfl (by decide) rfl rfl ?_
  refine x_aload_n dX6_undo_5 rfl ?_
  refine x_getI fX6_62 dX6_undo_6 rfl ?_
  refine x_top (show xu m 96 0 0 96 5 = (h.length : Int) by rw [xu_if, if_neg (by omega)]; exact hH.1) ?_
  refine x_if_ne (tgt := 14) dX6_undo_9 (by decide) (by omega) (fun h9 => ?_) (fun h9 => ?_)
  · obtain ⟨t, ht⟩ : ∃ t, h.length = t + 1 := ⟨h.length - 1, by omega⟩
    refine x_aload_n dX6_undo_14 rfl ?_
    refine x_dup dX6_undo_15 vr_cat ?_
    refine x_getI fX6_62 dX6_undo_16 rfl ?_
    refine x_top (show xu m 96 0 0 96 5 = ((t + 1 : Nat) : Int) by rw [xu_if, if_neg (by omega), hH.1, ht]) ?_
    refine x_iconst dX6_undo_19 ?_
    refine x_isub dX6_undo_20 ?_
    refine x_top (show ((t + 1 : Nat) : Int) - 1 = (t : Int) by omega) ?_
    refine x_putI fX6_62 dX6_undo_21 rfl (by decide) rfl rfl ?_
    refine x_iconst dX6_undo_24 ?_
    refine x_istore_n dX6_undo_25 ?_
    refine x_loc (lv' := [(0, vr E 96), (1, vi ((0 : Nat) : Int))]) ⟨rfl, rfl, trivial⟩ (un_1 (t := t) (w := h.getD t (fun _ => 0)) (by omega) (by rw [xu_if, if_pos rfl]) (fun k hk => ?_) (fun m1 ha1 hN1 => ?_) 710 0 _ (by omega) (by omega) ag.rf (fun q hq => absurd hq (Nat.not_lt_zero q)))
    · rw [xu_ne (by decide), xu_ne (by decide)]; exact hH.2.2 t (by omega) k hk
    · refine hP m1 _ (Or.inr ⟨t, _, ht, rfl, rfl, (ag.u (S := [96, 98]) ag.rf (by decide)).tr1 (ha1.wk (by decide)), fun j hj => by rw [ha1 96 (by decide), xu_if, if_neg hj], hN1, ?_, ?_, fun j hj k hk => ?_⟩)
      · rw [ha1 96 (by decide), xu_if, if_pos rfl, List.length_dropLast, ht]; omega
      · rw [List.length_dropLast]; omega
      · rw [List.length_dropLast] at hj
        rw [ha1 100 (by decide), xu_ne (by decide), xu_ne (by decide), getD_dl (by omega)]
        exact hH.2.2 j (by omega) k hk
  · have hz : h = [] := List.length_eq_zero_iff.mp (by omega)
    refine x_iconst dX6_undo_12 ?_
    exact x_iret dX6_undo_13  (hP _ _ (Or.inl ⟨hz, rfl, rfl⟩))

def agS (v : Nat → Int) (u : Nat) : Prop := bk v u ∧ ¬ good v u (sh v u 0) (sh v u 6) (sh v u 7)
set_option maxRecDepth 20000 in
theorem s_maground {E : xE} {f : Nat → Nat} {D : Nat → Nat × Nat} {n : Nat} {m : xM} {P : xPo} {PX : xPx} {v : Nat → Int} (hv : vOk v) (hN : mN v m) (hP : ∀ m', ag [103] (xu m 96 0 0) m' → P (some (vi ((cset (agS v) (v 5).toNat : Nat) : Int))) (gS f D n) m') : xC E (yX6_aground, cX6_aground, 3, some .int) 9 0 0 [vr E 96] (gS f D n) m P PX := by
  refine x_enter (by decide) rfl rfl (Nat.le_of_ble_eq_true rfl) ?_
  have hv5 := hv.1.2.2.2.2.2.1
  have loop : ∀ (j u : Nat) (m1 : xM), v 5 < (u : Int) + j → (u : Int) ≤ v 5 → ag [103] (xu m 96 0 0) m1 → xX E (("aground", some .int, []), (9, 0, 0), P, PX) RX6 cX6_aground 3 0 0 9 [(0, vr E 96), (1, vi ((cset (agS v) u : Nat) : Int)), (2, vi (u : Int))] [] (gS f D n) m1 := by
    intro j
    induction j with
    | zero => intro u m1 h1 h2; omega
    | succ j ih =>
      intro u m1 h1 h2 ha1
      have hN1 := hN.z.ag ha1 (by decide)
      refine x_iload_n dX6_aground_9 rfl ?_
      refine x_aload_n dX6_aground_10 rfl ?_
      refine x_getR (r := 98) fX6_17 dX6_aground_11 rfl rfl ?_
      refine x_iconst dX6_aground_14 ?_
      refine x_iald (j := 5) dX6_aground_15 rfl rfl (show 5 < 709 by omega) (by omega) ?_
      refine x_top (hN1 5 (by omega)) ?_
      refine x_icmp_ge (tgt := 61) dX6_aground_16 (by decide) (by omega) (fun h16 => ?_) (fun h16 => ?_)
      · refine x_iload_n dX6_aground_61 rfl ?_
        exact x_iret dX6_aground_62  (by rw [show u = (v 5).toNat by omega]; exact hP m1 ha1)
      · have hu : (u : Int) < v 5 := by omega
        obtain ⟨-, -, -, hls, -, hbo⟩ := hv.1.2.2.2.2.2.2 u hu
        refine x_aload_n dX6_aground_19 rfl ?_
        refine x_iload_n dX6_aground_20 rfl ?_
        refine x_V1 mX6_309 dX6_aground_21 rfl (s_misBooked hv hN1 hu ?_)
        refine x_if_eq (tgt := 55) dX6_aground_24 (by decide) (zi_r _) (fun h24 => ?_) (fun h24 => ?_)
        · have hb := zi_0.mp h24
          refine x_iinc dX6_aground_55 rfl ?_
          refine x_goto (tgt := 9) dX6_aground_58 (by decide) ?_
          exact x_loc (lv' := [(0, vr E 96), (1, vi ((cset (agS v) (u + 1) : Nat) : Int)), (2, vi ((u + 1 : Nat) : Int))]) ⟨rfl, xl_i rfl (by rw [cset_f (fun zz : agS v u => hb zz.1)]), xl_i rfl (by omega), trivial⟩ (ih (u + 1) m1 (by omega) (by omega) ha1)
        · have hb := zi_1.mp h24
          have hb6 : ¬ sh v u 6 = -1 := hb
          refine x_aload_n dX6_aground_27 rfl ?_
          refine x_iload_n dX6_aground_28 rfl ?_
          refine x_aload_n dX6_aground_29 rfl ?_
          refine x_iload_n dX6_aground_30 rfl ?_
          refine x_bipush dX6_aground_31 (h := ?_)
          refine x_V2 mX6_241 dX6_aground_33 rfl (s_ofShip (60 + 8 * u + 6) (by omega) (by omega) ?_)
          refine x_top (hN1.s (s := u) (by omega) (by omega)) ?_
          refine x_aload_n dX6_aground_36 rfl ?_
          refine x_iload_n dX6_aground_37 rfl ?_
          refine x_bipush dX6_aground_38 (h := ?_)
          refine x_V2 mX6_241 dX6_aground_40 rfl (s_ofShip (60 + 8 * u + 7) (by omega) (by omega) ?_)
          refine x_top (hN1.s (s := u) (by omega) (by omega)) ?_
          refine x_V3 mX6_318 dX6_aground_43 rfl (s_goesWell hv hN1 hu (by omega) (by omega) (fun m2 ha2 => ?_))
          refine x_if_ne (tgt := 55) dX6_aground_46 (by decide) (zi_r _) (fun h46 => ?_) (fun h46 => ?_)
          · have hg := zi_1.mp h46
            refine x_iinc dX6_aground_55 rfl ?_
            refine x_goto (tgt := 9) dX6_aground_58 (by decide) ?_
            exact x_loc (lv' := [(0, vr E 96), (1, vi ((cset (agS v) (u + 1) : Nat) : Int)), (2, vi ((u + 1 : Nat) : Int))]) ⟨rfl, xl_i rfl (by rw [cset_f (fun zz : agS v u => zz.2 hg)]), xl_i rfl (by omega), trivial⟩ (ih (u + 1) m2 (by omega) (by omega) (ha1.tr1 ha2))
          · have hg := zi_0.mp h46
            refine x_iload_n dX6_aground_49 rfl ?_
            refine x_iconst dX6_aground_50 ?_
            refine x_iload_n dX6_aground_51 rfl ?_
            refine x_ishl (z := ((2 ^ u : Nat) : Int)) dX6_aground_52 (b_shl1 u (by omega)) ?_
            refine x_ior (z := ((cset (agS v) u + 2 ^ u : Nat) : Int)) dX6_aground_53 (b_or u (by omega) _ (cset_b _ u)) ?_
            refine x_istore_n dX6_aground_54 ?_
            refine x_iinc dX6_aground_55 rfl ?_
            refine x_goto (tgt := 9) dX6_aground_58 (by decide) ?_
            exact x_loc (lv' := [(0, vr E 96), (1, vi ((cset (agS v) (u + 1) : Nat) : Int)), (2, vi ((u + 1 : Nat) : Int))]) ⟨rfl, xl_i rfl (by rw [cset_t (show agS v u from ⟨hb, hg⟩)]), xl_i rfl (by omega), trivial⟩ (ih (u + 1) m2 (by omega) (by omega) (ha1.tr1 ha2))
  refine x_aload_n dX6_aground_0 rfl ?_
  refine x_iconst dX6_aground_1 ?_
  refine x_putI fX6_1 dX6_aground_2 rfl (by decide) rfl rfl ?_
  refine x_iconst dX6_aground_5 ?_
  refine x_istore_n dX6_aground_6 ?_
  refine x_iconst dX6_aground_7 ?_
  refine x_istore_n dX6_aground_8 ?_
  exact x_loc (lv' := [(0, vr E 96), (1, vi ((cset (agS v) 0 : Nat) : Int)), (2, vi ((0 : Nat) : Int))]) ⟨rfl, rfl, rfl, trivial⟩ (loop 7 0 _ (by omega) (by omega) ag.rf)

def prB (v : Nat → Int) : Nat → Int
  | 0 => 0
  | b + 1 => 31 * prB v b + br v b 1
def prS (v : Nat → Int) : Nat → Int
  | 0 => prB v (v 4).toNat
  | s + 1 => 31 * (31 * (31 * prS v s + sh v s 0) + sh v s 6) + sh v s 7
set_option maxRecDepth 20000 in
theorem s_mprint {E : xE} {f : Nat → Nat} {D : Nat → Nat × Nat} {n : Nat} {m : xM} {P : xPo} {PX : xPx} {v : Nat → Int} (hv : vOk v) (hN : mN v m) (hP : P (some (vl (31 * prS v (v 5).toNat + v 2))) (gS f D n) (xu m 96 0 0)) : xC E (yX6_print, cX6_print, 4, some .long) 1 0 0 [vr E 96] (gS f D n) m P PX := by
  refine x_enter (by decide) rfl rfl (Nat.le_of_ble_eq_true rfl) ?_
  have hv5 := hv.1.2.2.2.2.2.1
  have hv4 := hv.1.2.2.2.2.1.1
  have hv2 := hv.1.2.2.1
  have loop2 : ∀ (j s : Nat), v 5 < (s : Int) + j → (s : Int) ≤ v 5 → xX E (("print", some .long, []), (1, 0, 0), P, PX) RX6 cX6_print 4 0 0 41 [(0, vr E 96), (1, vl (prS v s)), (3, vi (s : Int))] [] (gS f D n) (xu m 96 0 0) := by
    intro j
    induction j with
    | zero => intro s h1 h2; omega
    | succ j ih =>
      intro s h1 h2
      refine x_iload_n dX6_print_41 rfl ?_
      refine x_aload_n dX6_print_42 rfl ?_
      refine x_getR (r := 98) fX6_17 dX6_print_43 rfl rfl ?_
      refine x_iconst dX6_print_46 ?_
      refine x_iald (j := 5) dX6_print_47 rfl rfl (show 5 < 709 by omega) (by omega) ?_
      refine x_top (hN.z 5 (by omega)) ?_
      refine x_icmp_ge (tgt := 101) dX6_print_48 (by decide) (by omega) (fun h48 => ?_) (fun h48 => ?_)
      · refine x_ldc2_w kX6_389 dX6_print_101 ?_
        refine x_lload_n dX6_print_104 rfl ?_
        refine x_lmul dX6_print_105 ?_
        refine x_aload_n dX6_print_106 rfl ?_
        refine x_getR (r := 98) fX6_17 dX6_print_107 rfl rfl ?_
        refine x_iconst dX6_print_110 ?_
        refine x_iald (j := 2) dX6_print_111 rfl rfl (show 2 < 709 by omega) (by omega) ?_
        refine x_top (hN.z 2 (by omega)) ?_
        refine x_i2l dX6_print_112 (by omega) ?_
        refine x_ladd dX6_print_113 ?_
        exact x_lret dX6_print_114 (by rw [show s = (v 5).toNat by omega]; exact hP)
      · have hs : (s : Int) < v 5 := by omega
        obtain ⟨hdr, -, -, hls, -, hbo⟩ := hv.1.2.2.2.2.2.2 s hs
        refine x_ldc2_w kX6_389 dX6_print_51 ?_
        refine x_lload_n dX6_print_54 rfl ?_
        refine x_lmul dX6_print_55 ?_
        refine x_aload_n dX6_print_56 rfl ?_
        refine x_iload_n dX6_print_57 rfl ?_
        refine x_iconst dX6_print_58 ?_
        refine x_V2 mX6_241 dX6_print_59 rfl (s_ofShip (60 + 8 * s + 0) (by omega) (by omega) ?_)
        refine x_top (hN.z.s (s := s) (by omega) (by omega)) ?_
        refine x_i2l dX6_print_62 (by omega) ?_
        refine x_ladd dX6_print_63 ?_
        refine x_lstore_n dX6_print_64 ?_
        refine x_ldc2_w kX6_389 dX6_print_65 ?_
        refine x_lload_n dX6_print_68 rfl ?_
        refine x_lmul dX6_print_69 ?_
        refine x_aload_n dX6_print_70 rfl ?_
        refine x_iload_n dX6_print_71 rfl ?_
        refine x_bipush dX6_print_72 (h := ?_)
        refine x_V2 mX6_241 dX6_print_74 rfl (s_ofShip (60 + 8 * s + 6) (by omega) (by omega) ?_)
        refine x_top (hN.z.s (s := s) (by omega) (by omega)) ?_
        refine x_i2l dX6_print_77 (by omega) ?_
        refine x_ladd dX6_print_78 ?_
        refine x_lstore_n dX6_print_79 ?_
        refine x_ldc2_w kX6_389 dX6_print_80 ?_
        refine x_lload_n dX6_print_83 rfl ?_
        refine x_lmul dX6_print_84 ?_
        refine x_aload_n dX6_print_85 rfl ?_
        refine x_iload_n dX6_print_86 rfl ?_
        refine x_bipush dX6_print_87 (h := ?_)
        refine x_V2 mX6_241 dX6_print_89 rfl (s_ofShip (60 + 8 * s + 7) (by omega) (by omega) ?_)
        refine x_top (hN.z.s (s := s) (by omega) (by omega)) ?_
        refine x_i2l dX6_print_92 (by omega) ?_
        refine x_ladd dX6_print_93 ?_
        refine x_lstore_n dX6_print_94 ?_
        refine x_iinc dX6_print_95 rfl ?_
        refine x_goto (tgt := 41) dX6_print_98 (by decide) ?_
        exact x_loc (lv' := [(0, vr E 96), (1, vl (prS v (s + 1))), (3, vi ((s + 1 : Nat) : Int))]) ⟨rfl, rfl, xl_i rfl (by omega), trivial⟩ (ih (s + 1) (by omega) (by omega))
  have loop1 : ∀ (j b : Nat), v 4 < (b : Int) + j → (b : Int) ≤ v 4 → xX E (("print", some .long, []), (1, 0, 0), P, PX) RX6 cX6_print 4 0 0 9 [(0, vr E 96), (1, vl (prB v b)), (3, vi (b : Int))] [] (gS f D n) (xu m 96 0 0) := by
    intro j
    induction j with
    | zero => intro b h1 h2; omega
    | succ j ih =>
      intro b h1 h2
      refine x_iload_n dX6_print_9 rfl ?_
      refine x_aload_n dX6_print_10 rfl ?_
      refine x_getR (r := 98) fX6_17 dX6_print_11 rfl rfl ?_
      refine x_iconst dX6_print_14 ?_
      refine x_iald (j := 4) dX6_print_15 rfl rfl (show 4 < 709 by omega) (by omega) ?_
      refine x_top (hN.z 4 (by omega)) ?_
      refine x_icmp_ge (tgt := 39) dX6_print_16 (by decide) (by omega) (fun h16 => ?_) (fun h16 => ?_)
      · refine x_iconst dX6_print_39 ?_
        refine x_istore_n dX6_print_40 ?_
        exact x_loc (lv' := [(0, vr E 96), (1, vl (prS v 0)), (3, vi ((0 : Nat) : Int))]) ⟨rfl, by rw [show prS v 0 = prB v b by show prB v (v 4).toNat = _; rw [show (v 4).toNat = b by omega]]; rfl, rfl, trivial⟩ (loop2 7 0 (by omega) (by omega))
      · have hb : (b : Int) < v 4 := by omega
        obtain ⟨-, hdp, -⟩ := hv.1.2.2.2.2.1.2 b hb
        refine x_ldc2_w kX6_389 dX6_print_19 ?_
        refine x_lload_n dX6_print_22 rfl ?_
        refine x_lmul dX6_print_23 ?_
        refine x_aload_n dX6_print_24 rfl ?_
        refine x_iload_n dX6_print_25 rfl ?_
        refine x_iconst dX6_print_26 ?_
        refine x_V2 mX6_222 dX6_print_27 rfl (s_ofBar (24 + 6 * b + 1) (by omega) (by omega) ?_)
        refine x_top (hN.z.b (b := b) (by omega) (by omega)) ?_
        refine x_i2l dX6_print_30 (by omega) ?_
        refine x_ladd dX6_print_31 ?_
        refine x_lstore_n dX6_print_32 ?_
        refine x_iinc dX6_print_33 rfl ?_
        refine x_goto (tgt := 9) dX6_print_36 (by decide) ?_
        exact x_loc (lv' := [(0, vr E 96), (1, vl (prB v (b + 1))), (3, vi ((b + 1 : Nat) : Int))]) ⟨rfl, rfl, xl_i rfl (by omega), trivial⟩ (ih (b + 1) (by omega) (by omega))
  refine x_aload_n dX6_print_0 rfl ?_
  refine x_iconst dX6_print_1 ?_
  refine x_putI fX6_1 dX6_print_2 rfl (by decide) rfl rfl ?_
  refine x_lconst0 dX6_print_5 ?_
  refine x_lstore_n dX6_print_6 ?_
  refine x_iconst dX6_print_7 ?_
  refine x_istore_n dX6_print_8 ?_
  exact x_loc (lv' := [(0, vr E 96), (1, vl (prB v 0)), (3, vi ((0 : Nat) : Int))]) ⟨rfl, rfl, rfl, trivial⟩ (loop1 7 0 (by omega) (by omega))

end MZ
