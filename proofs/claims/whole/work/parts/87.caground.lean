section CG
set_option maxRecDepth 20000 in
theorem s_aground {E : xE} {f : Nat → Nat} {D : Nat → Nat × Nat} {n : Nat} {m : xM} {P : xPo} {PX : xPx} {v : Nat → Int} (hE : eOk E) (hV : cV v f D m) (hP : ∀ m', ag [86, 87, 89, 90] m m' → cT v m' → P (some (vi ((cset (agS v) (v 5).toNat : Nat) : Int))) (gS f D n) m') : xC E (yX5_aground, cX5_aground, 3, some .int) 7 0 0 [vr E 40] (gS f D n) m P PX := by
  refine x_enter (by decide) rfl rfl (Nat.le_of_ble_eq_true rfl) ?_
  have hv5 := hV.1.1.2.2.2.2.2.1
  have loop : ∀ (j u : Nat) (m1 : xM), v 5 < (u : Int) + j → (u : Int) ≤ v 5 → ag [86, 87, 89, 90] m m1 → cT v m1 → xX E (("aground", some .int, []), (7, 0, 0), P, PX) RX5 cX5_aground 3 0 0 4 [(0, vr E 40), (1, vi ((cset (agS v) u : Nat) : Int)), (2, vi (u : Int))] [] (gS f D n) m1 := by
    intro j
    induction j with
    | zero => intro u m1 h1 h2; omega
    | succ j ih =>
      intro u m1 h1 h2 ha1 hT1
      refine x_iload_n dX5_aground_4 rfl ?_
      refine x_aload_n dX5_aground_5 rfl ?_
      refine x_getR (r := 41) fX5_10 dX5_aground_6 rfl rfl ?_
      refine x_getI fX5_92 dX5_aground_9 rfl ?_
      refine x_top (hT1.1.2.2.2.1) ?_
      refine x_icmp_ge (tgt := 69) dX5_aground_12 (by decide) (by omega) (fun h12 => ?_) (fun h12 => ?_)
      · refine x_iload_n dX5_aground_69 rfl ?_
        exact x_iret dX5_aground_70  (by rw [show u = (v 5).toNat by omega]; exact hP m1 ha1 hT1)
      · have hu : (u : Int) < v 5 := by omega
        obtain ⟨-, -, -, hls, -, hbo⟩ := hV.1.1.2.2.2.2.2.2 u hu
        refine x_aload_n dX5_aground_15 rfl ?_
        refine x_getR (r := 41) fX5_10 dX5_aground_16 rfl rfl ?_
        refine x_iload_n dX5_aground_19 rfl ?_
        refine x_V1 mX5_118 dX5_aground_20 rfl (s_isBooked hV.1.1 hT1.1 hu ?_)
        refine x_if_eq (tgt := 63) dX5_aground_23 (by decide) (zi_r _) (fun h23 => ?_) (fun h23 => ?_)
        · have hb := zi_0.mp h23
          refine x_iinc dX5_aground_63 rfl ?_
          refine x_goto (tgt := 4) dX5_aground_66 (by decide) ?_
          exact x_loc (lv' := [(0, vr E 40), (1, vi ((cset (agS v) (u + 1) : Nat) : Int)), (2, vi ((u + 1 : Nat) : Int))]) ⟨rfl, xl_i rfl (by rw [cset_f (fun zz : agS v u => hb zz.1)]), xl_i rfl (by omega), trivial⟩ (ih (u + 1) m1 (by omega) (by omega) ha1 hT1)
        · have hb := zi_1.mp h23
          have hb6 : ¬ sh v u 6 = -1 := hb
          refine x_aload_n dX5_aground_26 rfl ?_
          refine x_getR (r := 88) fX5_50 dX5_aground_27 rfl rfl ?_
          refine x_iload_n dX5_aground_30 rfl ?_
          refine x_aload_n dX5_aground_31 rfl ?_
          refine x_getR (r := 41) fX5_10 dX5_aground_32 rfl rfl ?_
          refine x_iload_n dX5_aground_35 rfl ?_
          refine x_bipush dX5_aground_36 (h := ?_)
          refine x_V2 mX5_109 dX5_aground_38 rfl (s_shipOf (8 * u + 6) (by omega) (by omega) ?_)
          refine x_top (hT1.1.2.2.2.s hu (by omega)) ?_
          refine x_aload_n dX5_aground_41 rfl ?_
          refine x_getR (r := 41) fX5_10 dX5_aground_42 rfl rfl ?_
          refine x_iload_n dX5_aground_45 rfl ?_
          refine x_bipush dX5_aground_46 (h := ?_)
          refine x_V2 mX5_109 dX5_aground_48 rfl (s_shipOf (8 * u + 7) (by omega) (by omega) ?_)
          refine x_top (hT1.1.2.2.2.s hu (by omega)) ?_
          refine x_V3 mX5_122 dX5_aground_51 rfl (s_isGood hE (hV.t ha1 hT1 (by decide) (by decide)) hu (by omega) (by omega) (fun m2 ha2 hT2 => ?_))
          refine x_if_ne (tgt := 63) dX5_aground_54 (by decide) (zi_r _) (fun h54 => ?_) (fun h54 => ?_)
          · have hg := zi_1.mp h54
            refine x_iinc dX5_aground_63 rfl ?_
            refine x_goto (tgt := 4) dX5_aground_66 (by decide) ?_
            exact x_loc (lv' := [(0, vr E 40), (1, vi ((cset (agS v) (u + 1) : Nat) : Int)), (2, vi ((u + 1 : Nat) : Int))]) ⟨rfl, xl_i rfl (by rw [cset_f (fun zz : agS v u => zz.2 hg)]), xl_i rfl (by omega), trivial⟩ (ih (u + 1) m2 (by omega) (by omega) (ha1.tr1 ha2) hT2)
          · have hg := zi_0.mp h54
            refine x_iload_n dX5_aground_57 rfl ?_
            refine x_iconst dX5_aground_58 ?_
            refine x_iload_n dX5_aground_59 rfl ?_
            refine x_ishl (z := ((2 ^ u : Nat) : Int)) dX5_aground_60 (b_shl1 u (by omega)) ?_
            refine x_ior (z := ((cset (agS v) u + 2 ^ u : Nat) : Int)) dX5_aground_61 (b_or u (by omega) _ (cset_b _ u)) ?_
            refine x_istore_n dX5_aground_62 ?_
            refine x_iinc dX5_aground_63 rfl ?_
            refine x_goto (tgt := 4) dX5_aground_66 (by decide) ?_
            exact x_loc (lv' := [(0, vr E 40), (1, vi ((cset (agS v) (u + 1) : Nat) : Int)), (2, vi ((u + 1 : Nat) : Int))]) ⟨rfl, xl_i rfl (by rw [cset_t (show agS v u from ⟨hb, hg⟩)]), xl_i rfl (by omega), trivial⟩ (ih (u + 1) m2 (by omega) (by omega) (ha1.tr1 ha2) hT2)
  refine x_iconst dX5_aground_0 ?_
  refine x_istore_n dX5_aground_1 ?_
  refine x_iconst dX5_aground_2 ?_
  refine x_istore_n dX5_aground_3 ?_
  exact x_loc (lv' := [(0, vr E 40), (1, vi ((cset (agS v) 0 : Nat) : Int)), (2, vi ((0 : Nat) : Int))]) ⟨rfl, rfl, rfl, trivial⟩ (loop 7 0 m (by omega) (by omega) ag.rf hV.2.1)

end CG
