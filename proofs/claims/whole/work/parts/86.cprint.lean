section CP
set_option maxRecDepth 20000 in
theorem s_print {E : xE} {f : Nat → Nat} {D : Nat → Nat × Nat} {n : Nat} {m : xM} {P : xPo} {PX : xPx} {v : Nat → Int} (hv : vOk0 v) (hC : cC v m) (hP : P (some (vl (31 * prS v (v 5).toNat + v 2))) (gS f D n) m) : xC E (yX5_print, cX5_print, 4, some .long) 1 0 0 [vr E 40] (gS f D n) m P PX := by
  refine x_enter (by decide) rfl rfl (Nat.le_of_ble_eq_true rfl) ?_
  have hv5 := hv.2.2.2.2.2.1
  have hv4 := hv.2.2.2.2.1.1
  have hv2 := hv.2.2.1
  have loop2 : ∀ (j s : Nat), v 5 < (s : Int) + j → (s : Int) ≤ v 5 → xX E (("print", some .long, []), (1, 0, 0), P, PX) RX5 cX5_print 4 0 0 40 [(0, vr E 40), (1, vl (prS v s)), (3, vi (s : Int))] [] (gS f D n) m := by
    intro j
    induction j with
    | zero => intro s h1 h2; omega
    | succ j ih =>
      intro s h1 h2
      refine x_iload_n dX5_print_40 rfl ?_
      refine x_aload_n dX5_print_41 rfl ?_
      refine x_getR (r := 41) fX5_10 dX5_print_42 rfl rfl ?_
      refine x_getI fX5_92 dX5_print_45 rfl ?_
      refine x_top (hC.2.2.2.1) ?_
      refine x_icmp_ge (tgt := 110) dX5_print_48 (by decide) (by omega) (fun h48 => ?_) (fun h48 => ?_)
      · refine x_lload_n dX5_print_110 rfl ?_
        refine x_ldc2_w kX5_234 dX5_print_111 ?_
        refine x_lmul dX5_print_114 ?_
        refine x_aload_n dX5_print_115 rfl ?_
        refine x_getR (r := 41) fX5_10 dX5_print_116 rfl rfl ?_
        refine x_getI fX5_115 dX5_print_119 rfl ?_
        refine x_top (hC.1.2.2) ?_
        refine x_i2l dX5_print_122 (by omega) ?_
        refine x_ladd dX5_print_123 ?_
        exact x_lret dX5_print_124 (by rw [show s = (v 5).toNat by omega, Int.mul_comm]; exact hP)
      · have hs : (s : Int) < v 5 := by omega
        obtain ⟨hdr, -, -, hls, -, hbo⟩ := hv.2.2.2.2.2.2 s hs
        refine x_lload_n dX5_print_51 rfl ?_
        refine x_ldc2_w kX5_234 dX5_print_52 ?_
        refine x_lmul dX5_print_55 ?_
        refine x_aload_n dX5_print_56 rfl ?_
        refine x_getR (r := 41) fX5_10 dX5_print_57 rfl rfl ?_
        refine x_iload_n dX5_print_60 rfl ?_
        refine x_iconst dX5_print_61 ?_
        refine x_V2 mX5_109 dX5_print_62 rfl (s_shipOf (8 * s + 0) (by omega) (by omega) ?_)
        refine x_top (hC.2.2.2.s hs (by omega)) ?_
        refine x_i2l dX5_print_65 (by omega) ?_
        refine x_ladd dX5_print_66 ?_
        refine x_lstore_n dX5_print_67 ?_
        refine x_lload_n dX5_print_68 rfl ?_
        refine x_ldc2_w kX5_234 dX5_print_69 ?_
        refine x_lmul dX5_print_72 ?_
        refine x_aload_n dX5_print_73 rfl ?_
        refine x_getR (r := 41) fX5_10 dX5_print_74 rfl rfl ?_
        refine x_iload_n dX5_print_77 rfl ?_
        refine x_bipush dX5_print_78 (h := ?_)
        refine x_V2 mX5_109 dX5_print_80 rfl (s_shipOf (8 * s + 6) (by omega) (by omega) ?_)
        refine x_top (hC.2.2.2.s hs (by omega)) ?_
        refine x_i2l dX5_print_83 (by omega) ?_
        refine x_ladd dX5_print_84 ?_
        refine x_lstore_n dX5_print_85 ?_
        refine x_lload_n dX5_print_86 rfl ?_
        refine x_ldc2_w kX5_234 dX5_print_87 ?_
        refine x_lmul dX5_print_90 ?_
        refine x_aload_n dX5_print_91 rfl ?_
        refine x_getR (r := 41) fX5_10 dX5_print_92 rfl rfl ?_
        refine x_iload_n dX5_print_95 rfl ?_
        refine x_bipush dX5_print_96 (h := ?_)
        refine x_V2 mX5_109 dX5_print_98 rfl (s_shipOf (8 * s + 7) (by omega) (by omega) ?_)
        refine x_top (hC.2.2.2.s hs (by omega)) ?_
        refine x_i2l dX5_print_101 (by omega) ?_
        refine x_ladd dX5_print_102 ?_
        refine x_lstore_n dX5_print_103 ?_
        refine x_iinc dX5_print_104 rfl ?_
        refine x_goto (tgt := 40) dX5_print_107 (by decide) ?_
        exact x_loc (lv' := [(0, vr E 40), (1, vl (prS v (s + 1))), (3, vi ((s + 1 : Nat) : Int))]) ⟨rfl, xl_l rfl (by show _ = 31 * (31 * (31 * prS v s + sh v s 0) + sh v s 6) + sh v s 7; omega), xl_i rfl (by omega), trivial⟩ (ih (s + 1) (by omega) (by omega))
  have loop1 : ∀ (j b : Nat), v 4 < (b : Int) + j → (b : Int) ≤ v 4 → xX E (("print", some .long, []), (1, 0, 0), P, PX) RX5 cX5_print 4 0 0 4 [(0, vr E 40), (1, vl (prB v b)), (3, vi (b : Int))] [] (gS f D n) m := by
    intro j
    induction j with
    | zero => intro b h1 h2; omega
    | succ j ih =>
      intro b h1 h2
      refine x_iload_n dX5_print_4 rfl ?_
      refine x_aload_n dX5_print_5 rfl ?_
      refine x_getR (r := 41) fX5_10 dX5_print_6 rfl rfl ?_
      refine x_getI fX5_89 dX5_print_9 rfl ?_
      refine x_top (hC.2.2.1.1) ?_
      refine x_icmp_ge (tgt := 38) dX5_print_12 (by decide) (by omega) (fun h12 => ?_) (fun h12 => ?_)
      · refine x_iconst dX5_print_38 ?_
        refine x_istore_n dX5_print_39 ?_
        exact x_loc (lv' := [(0, vr E 40), (1, vl (prS v 0)), (3, vi ((0 : Nat) : Int))]) ⟨rfl, by rw [show prS v 0 = prB v b by show prB v (v 4).toNat = _; rw [show (v 4).toNat = b by omega]]; rfl, rfl, trivial⟩ (loop2 7 0 (by omega) (by omega))
      · have hb : (b : Int) < v 4 := by omega
        obtain ⟨-, hdp, -⟩ := hv.2.2.2.2.1.2 b hb
        refine x_lload_n dX5_print_15 rfl ?_
        refine x_ldc2_w kX5_234 dX5_print_16 ?_
        refine x_lmul dX5_print_19 ?_
        refine x_aload_n dX5_print_20 rfl ?_
        refine x_getR (r := 41) fX5_10 dX5_print_21 rfl rfl ?_
        refine x_iload_n dX5_print_24 rfl ?_
        refine x_iconst dX5_print_25 ?_
        refine x_V2 mX5_98 dX5_print_26 rfl (s_barOf (6 * b + 1) (by omega) (by omega) ?_)
        refine x_top (hC.2.2.1.b hb (by omega)) ?_
        refine x_i2l dX5_print_29 (by omega) ?_
        refine x_ladd dX5_print_30 ?_
        refine x_lstore_n dX5_print_31 ?_
        refine x_iinc dX5_print_32 rfl ?_
        refine x_goto (tgt := 4) dX5_print_35 (by decide) ?_
        exact x_loc (lv' := [(0, vr E 40), (1, vl (prB v (b + 1))), (3, vi ((b + 1 : Nat) : Int))]) ⟨rfl, xl_l rfl (by show _ = 31 * prB v b + br v b 1; omega), xl_i rfl (by omega), trivial⟩ (ih (b + 1) (by omega) (by omega))
  refine x_lconst0 dX5_print_0 ?_
  refine x_lstore_n dX5_print_1 ?_
  refine x_iconst dX5_print_2 ?_
  refine x_istore_n dX5_print_3 ?_
  exact x_loc (lv' := [(0, vr E 40), (1, vl (prB v 0)), (3, vi ((0 : Nat) : Int))]) ⟨rfl, rfl, rfl, trivial⟩ (loop1 7 0 (by omega) (by omega))

end CP
