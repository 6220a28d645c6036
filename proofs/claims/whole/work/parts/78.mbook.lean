section MY
def rf3 (p1 p2 p3 : Prop) (k : Int) (q : Nat) : Prop := (¬ p1 ∧ k = 1 ∧ q = 0) ∨ (p1 ∧ ¬ p2 ∧ k = 2 ∧ q = 1) ∨ (p1 ∧ p2 ∧ ¬ p3 ∧ k = 3 ∧ q = 2)
set_option maxRecDepth 20000 in
theorem s_mbook {E : xE} {f : Nat → Nat} {D : Nat → Nat × Nat} {n : Nat} {m : xM} {P : xPo} {PX : xPx} {v : Nat → Int} {h : List (Nat → Int)} {x y z : Int} (hv : vOk v) (hN : mN v m) (hH : mH h m) (hx : -2147483648 ≤ x ∧ x ≤ 2147483647) (hy : -2147483648 ≤ y ∧ y ≤ 2147483647) (hz : -2147483648 ≤ z ∧ z ≤ 2147483647) (hP : ∀ m' r, moA (rf3 (0 ≤ x ∧ x < v 5) ((0 ≤ y ∧ y ≤ 2000) ∧ (sh v x.toNat 3 ≤ z ∧ z ≤ sh v x.toNat 4)) (¬ bk v x.toNat ∧ good v x.toNat (sh v x.toNat 0) y z ∧ cset (cls v x.toNat y z) (v 5).toNat = 0)) ((0 ≤ x ∧ x < v 5) ∧ ((0 ≤ y ∧ y ≤ 2000) ∧ (sh v x.toNat 3 ≤ z ∧ z ≤ sh v x.toNat 4)) ∧ (¬ bk v x.toNat ∧ good v x.toNat (sh v x.toNat 0) y z ∧ cset (cls v x.toNat y z) (v 5).toNat = 0)) (fun r => r = y + pt v x.toNat z) (vbk v x.toNat y z) (psh h v) m m' r → P (some (vi r)) (gS f D n) m') : xC E (yX6_book, cX6_book, 4, some .int) 9 0 0 [vr E 96, vi x, vi y, vi z] (gS f D n) m P PX := by
  refine x_enter (by decide) rfl rfl (Nat.le_of_ble_eq_true rfl) ?_
  have hv5 := hv.1.2.2.2.2.2.1
  have hv4 := hv.1.2.2.2.2.1.1
  have hv3 := hv.1.2.2.2.1.1
  refine x_aload_n dX6_book_0 rfl ?_
  refine x_iconst dX6_book_1 ?_
  refine x_putI fX6_1 dX6_book_2 rfl (by decide) rfl rfl ?_
  refine x_aload_n dX6_book_5 rfl ?_
  refine x_aload_n dX6_book_6 rfl ?_
  refine x_iload_n dX6_book_7 rfl ?_
  refine x_V1 mX6_300 dX6_book_8 rfl (s_isShip hv hN.z hx ?_)
  refine x_iconst dX6_book_11 ?_
  refine x_iconst dX6_book_12 ?_
  refine x_V3 mX6_196 dX6_book_13 rfl (s_isFine (p := 0 ≤ x ∧ x < v 5) (c := 1) (k := 0) th_0 (by omega) (by omega) (fun m1 r1 hf1 => ?_))
  refine x_if_eq (tgt := 67) dX6_book_16 (by decide) hf1.r (fun h16 => ?_) (fun h16 => ?_)
  · obtain ⟨hp1, rfl⟩ := hf1.f h16
    refine x_iconst dX6_book_67 ?_
    exact x_iret dX6_book_68  (hP _ 0 (Or.inl ⟨1, _, _, Or.inl ⟨hp1, rfl, rfl⟩, ag.rf, rfl⟩))
  · obtain ⟨hp1, rfl⟩ := hf1.t h16
    obtain ⟨s, rfl⟩ := nat_of hp1.1
    have hs := hp1.2
    obtain ⟨-, -, -, hls, -⟩ := hv.1.2.2.2.2.2.2 s hs
    refine x_aload_n dX6_book_19 rfl ?_
    refine x_iload_n dX6_book_20 rfl ?_
    refine x_i2l dX6_book_21 (by omega) ?_
    refine x_lconst0 dX6_book_22 ?_
    refine x_ldc2_w kX6_316 dX6_book_23 ?_
    refine x_S3 mX6_122 dX6_book_26 (s_lies (by omega) ?_)
    refine x_if_eq (tgt := 58) dX6_book_29 (by decide) (zi_r _) (fun h29 => ?_) (fun h29 => ?_)
    · refine x_iconst dX6_book_58 ?_
      refine x_top ((zi_f (fun zz : ((0 ≤ y ∧ y ≤ 2000) ∧ (sh v s 3 ≤ z ∧ z ≤ sh v s 4)) => zi_0.mp h29 zz.1)).symm) ?_
      refine x_iconst dX6_book_59 ?_
      refine x_iconst dX6_book_60 ?_
      refine x_V3 mX6_196 dX6_book_61 rfl (s_isFine (p := (0 ≤ y ∧ y ≤ 2000) ∧ (sh v s 3 ≤ z ∧ z ≤ sh v s 4)) (c := 2) (k := 1) th_0 (by omega) (by omega) (fun m2 r2 hf2 => ?_))
      refine x_if_ne (tgt := 69) dX6_book_64 (by decide) hf2.r (fun h64 => ?_) (fun h64 => ?_)
      · obtain ⟨hp2, rfl⟩ := hf2.t h64
        have hsp : 4 ≤ z ∧ z ≤ 25 := by omega
        refine x_aload_n dX6_book_69 rfl ?_
        refine x_aload_n dX6_book_70 rfl ?_
        refine x_iload_n dX6_book_71 rfl ?_
        refine x_V1 mX6_309 dX6_book_72 rfl (s_misBooked hv hN.z hs ?_)
        refine x_if_ne (tgt := 102) dX6_book_75 (by decide) (zi_r _) (fun h75 => ?_) (fun h75 => ?_)
        · refine x_iconst dX6_book_102 ?_
          refine x_top ((zi_f (fun zz : (¬ bk v s ∧ good v s (sh v s 0) y z ∧ cset (cls v s y z) (v 5).toNat = 0) => zz.1 (zi_1.mp h75))).symm) ?_
          refine x_iconst dX6_book_103 ?_
          refine x_iconst dX6_book_104 ?_
          refine x_V3 mX6_196 dX6_book_105 rfl (s_isFine (p := ¬ bk v s ∧ good v s (sh v s 0) y z ∧ cset (cls v s y z) (v 5).toNat = 0) (c := 3) (k := 2) th_0 (by omega) (by omega) (fun m3 r3 hf3 => ?_))
          refine x_if_ne (tgt := 113) dX6_book_108 (by decide) hf3.r (fun h108 => ?_) (fun h108 => ?_)
          · exact absurd (zi_1.mp h75) (hf3.t h108).1.1
          · obtain ⟨hp3, rfl⟩ := hf3.f h108
            refine x_iconst dX6_book_111 ?_
            exact x_iret dX6_book_112  (hP _ 0 (Or.inl ⟨3, 2, _, Or.inr (Or.inr ⟨hp1, hp2, hp3, rfl, rfl⟩), ag.rf, rfl⟩))
        · refine x_aload_n dX6_book_78 rfl ?_
          refine x_iload_n dX6_book_79 rfl ?_
          refine x_iload_n dX6_book_80 rfl ?_
          refine x_iload_n dX6_book_81 rfl ?_
          refine x_V3 mX6_318 dX6_book_82 rfl (s_goesWell hv hN.z hs (by omega) hsp (fun m2 ha2 => ?_))
          refine x_if_eq (tgt := 102) dX6_book_85 (by decide) (zi_r _) (fun h85 => ?_) (fun h85 => ?_)
          · refine x_iconst dX6_book_102 ?_
            refine x_top ((zi_f (fun zz : (¬ bk v s ∧ good v s (sh v s 0) y z ∧ cset (cls v s y z) (v 5).toNat = 0) => zi_0.mp h85 zz.2.1)).symm) ?_
            refine x_iconst dX6_book_103 ?_
            refine x_iconst dX6_book_104 ?_
            refine x_V3 mX6_196 dX6_book_105 rfl (s_isFine (p := ¬ bk v s ∧ good v s (sh v s 0) y z ∧ cset (cls v s y z) (v 5).toNat = 0) (c := 3) (k := 2) (by rw [ha2 96 (by decide)]; exact th_0) (by omega) (by omega) (fun m3 r3 hf3 => ?_))
            refine x_if_ne (tgt := 113) dX6_book_108 (by decide) hf3.r (fun h108 => ?_) (fun h108 => ?_)
            · exact absurd (hf3.t h108).1.2.1 (zi_0.mp h85)
            · obtain ⟨hp3, rfl⟩ := hf3.f h108
              refine x_iconst dX6_book_111 ?_
              exact x_iret dX6_book_112  (hP _ 0 (Or.inl ⟨3, 2, _, Or.inr (Or.inr ⟨hp1, hp2, hp3, rfl, rfl⟩), ha2, rfl⟩))
          · refine x_aload_n dX6_book_88 rfl ?_
            refine x_iload_n dX6_book_89 rfl ?_
            refine x_iload_n dX6_book_90 rfl ?_
            refine x_iload_n dX6_book_91 rfl ?_
            refine x_V3 mX6_322 dX6_book_92 rfl (s_mcloseTo hv (hN.z.ag ha2 (by decide)) hs hsp (by omega) ?_)
            refine x_if_ne (tgt := 102) dX6_book_95 (by decide) (by have := cset_6 (cls v s y z) (u := (v 5).toNat) (by omega); omega) (fun h95 => ?_) (fun h95 => ?_)
            · refine x_iconst dX6_book_102 ?_
              refine x_top ((zi_f (fun zz : (¬ bk v s ∧ good v s (sh v s 0) y z ∧ cset (cls v s y z) (v 5).toNat = 0) => h95 (by rw [zz.2.2]; rfl))).symm) ?_
              refine x_iconst dX6_book_103 ?_
              refine x_iconst dX6_book_104 ?_
              refine x_V3 mX6_196 dX6_book_105 rfl (s_isFine (p := ¬ bk v s ∧ good v s (sh v s 0) y z ∧ cset (cls v s y z) (v 5).toNat = 0) (c := 3) (k := 2) (by rw [ha2 96 (by decide)]; exact th_0) (by omega) (by omega) (fun m3 r3 hf3 => ?_))
              refine x_if_ne (tgt := 113) dX6_book_108 (by decide) hf3.r (fun h108 => ?_) (fun h108 => ?_)
              · exact absurd (by rw [(hf3.t h108).1.2.2]; rfl) h95
              · obtain ⟨hp3, rfl⟩ := hf3.f h108
                refine x_iconst dX6_book_111 ?_
                exact x_iret dX6_book_112  (hP _ 0 (Or.inl ⟨3, 2, _, Or.inr (Or.inr ⟨hp1, hp2, hp3, rfl, rfl⟩), ha2, rfl⟩))
            · refine x_iconst dX6_book_98 ?_
              refine x_goto (tgt := 103) dX6_book_99 (by decide) ?_
              refine x_top ((zi_t (show ¬ bk v s ∧ good v s (sh v s 0) y z ∧ cset (cls v s y z) (v 5).toNat = 0 from ⟨zi_0.mp h75, zi_1.mp h85, by omega⟩)).symm) ?_
              refine x_iconst dX6_book_103 ?_
              refine x_iconst dX6_book_104 ?_
              refine x_V3 mX6_196 dX6_book_105 rfl (s_isFine (p := ¬ bk v s ∧ good v s (sh v s 0) y z ∧ cset (cls v s y z) (v 5).toNat = 0) (c := 3) (k := 2) (by rw [ha2 96 (by decide)]; exact th_0) (by omega) (by omega) (fun m3 r3 hf3 => ?_))
              refine x_if_ne (tgt := 113) dX6_book_108 (by decide) hf3.r (fun h108 => ?_) (fun h108 => ?_)
              · obtain ⟨hp3, rfl⟩ := hf3.t h108
                refine x_aload_n dX6_book_113 rfl ?_
                refine x_V0 mX6_205 dX6_book_114 rfl (s_keeps (h := h) (hN.z.ag ha2 (by decide)) (hH.z.ag (by rw [ha2 96 (by decide)]) (ha2 100 (by decide))) (fun m4 ha4 hk4 hH4 => ?_))
                have hN4 := (hN.z.ag ha2 (by decide)).ag ha4 (by decide)
                refine x_aload_n dX6_book_117 rfl ?_
                refine x_getR (r := 98) fX6_17 dX6_book_118 rfl rfl ?_
                refine x_bipush dX6_book_121 (h := ?_)
                refine x_bipush dX6_book_123 (h := ?_)
                refine x_iload_n dX6_book_125 rfl ?_
                refine x_imul dX6_book_126 ?_
                refine x_iadd dX6_book_127 ?_
                refine x_bipush dX6_book_128 (h := ?_)
                refine x_iadd dX6_book_130 ?_
                refine x_iload_n dX6_book_131 rfl ?_
                refine x_iast (j := 60 + 8 * s + 6) dX6_book_132 rfl (by decide) (by omega) (show _ < 709 by omega) (by omega) ?_
                refine x_aload_n dX6_book_133 rfl ?_
                refine x_getR (r := 98) fX6_17 dX6_book_134 rfl rfl ?_
                refine x_bipush dX6_book_137 (h := ?_)
                refine x_bipush dX6_book_139 (h := ?_)
                refine x_iload_n dX6_book_141 rfl ?_
                refine x_imul dX6_book_142 ?_
                refine x_iadd dX6_book_143 ?_
                refine x_bipush dX6_book_144 (h := ?_)
                refine x_iadd dX6_book_146 ?_
                refine x_iload_n dX6_book_147 rfl ?_
                refine x_iast (j := 60 + 8 * s + 7) dX6_book_148 rfl (by decide) (by omega) (show _ < 709 by omega) (by omega) ?_
                refine x_aload_n dX6_book_149 rfl ?_
                refine x_iload_n dX6_book_150 rfl ?_
                refine x_iload_n dX6_book_151 rfl ?_
                refine x_iload_n dX6_book_152 rfl ?_
                refine x_V3 mX6_325 dX6_book_153 rfl (s_endsIn (v := vbk v s y z) (s := s) (vOk_bk hv hs (Or.inr ⟨by omega, by omega, by omega, by omega⟩)) hN4.u.u (by rw [vbk_ne (by omega) (by omega)]; exact hs) hsp ?_)
                refine x_top (show y + pt (vbk v s y z) s z = y + pt v s z by rw [pt_c (vbk_ne (by omega) (by omega)) hv4 (fun k _ _ => vbk_ne (by omega) (by omega)) (vbk_ne (by omega) (by omega))]) ?_
                exact x_iret dX6_book_156  (hP _ _ (Or.inr ⟨⟨hp1, hp2, hp3⟩, rfl, (((ha2.wk (U := [96, 98, 100, 103]) (by decide)).tr1 (ha4.wk (by decide))).u (by decide)).u (by decide), fun j hj => by rw [xu_ne (by decide), xu_ne (by decide), hk4 j hj, ha2 96 (by decide)], hN4.u.u, hH4.ag (by rw [xu_ne (by decide), xu_ne (by decide)]) (by rw [xu_ne (by decide), xu_ne (by decide)])⟩))
              · obtain ⟨hp3, rfl⟩ := hf3.f h108
                refine x_iconst dX6_book_111 ?_
                exact x_iret dX6_book_112  (hP _ 0 (Or.inl ⟨3, 2, _, Or.inr (Or.inr ⟨hp1, hp2, hp3, rfl, rfl⟩), ha2, rfl⟩))
      · obtain ⟨hp2, rfl⟩ := hf2.f h64
        refine x_iconst dX6_book_67 ?_
        exact x_iret dX6_book_68  (hP _ 0 (Or.inl ⟨2, _, _, Or.inr (Or.inl ⟨hp1, hp2, rfl, rfl⟩), ag.rf, rfl⟩))
    · refine x_iload_n dX6_book_32 rfl ?_
      refine x_i2l dX6_book_33 (by omega) ?_
      refine x_aload_n dX6_book_34 rfl ?_
      refine x_iload_n dX6_book_35 rfl ?_
      refine x_iconst dX6_book_36 ?_
      refine x_V2 mX6_241 dX6_book_37 rfl (s_ofShip (60 + 8 * s + 3) (by omega) (by omega) ?_)
      refine x_top (hN.z.s (s := s) (by omega) (by omega)) ?_
      refine x_i2l dX6_book_40 (by omega) ?_
      refine x_aload_n dX6_book_41 rfl ?_
      refine x_iload_n dX6_book_42 rfl ?_
      refine x_iconst dX6_book_43 ?_
      refine x_V2 mX6_241 dX6_book_44 rfl (s_ofShip (60 + 8 * s + 4) (by omega) (by omega) ?_)
      refine x_top (hN.z.s (s := s) (by omega) (by omega)) ?_
      refine x_i2l dX6_book_47 (by omega) ?_
      refine x_S3 mX6_122 dX6_book_48 (s_lies (by omega) ?_)
      refine x_if_eq (tgt := 58) dX6_book_51 (by decide) (zi_r _) (fun h51 => ?_) (fun h51 => ?_)
      · refine x_iconst dX6_book_58 ?_
        refine x_top ((zi_f (fun zz : ((0 ≤ y ∧ y ≤ 2000) ∧ (sh v s 3 ≤ z ∧ z ≤ sh v s 4)) => zi_0.mp h51 zz.2)).symm) ?_
        refine x_iconst dX6_book_59 ?_
        refine x_iconst dX6_book_60 ?_
        refine x_V3 mX6_196 dX6_book_61 rfl (s_isFine (p := (0 ≤ y ∧ y ≤ 2000) ∧ (sh v s 3 ≤ z ∧ z ≤ sh v s 4)) (c := 2) (k := 1) th_0 (by omega) (by omega) (fun m2 r2 hf2 => ?_))
        refine x_if_ne (tgt := 69) dX6_book_64 (by decide) hf2.r (fun h64 => ?_) (fun h64 => ?_)
        · obtain ⟨hp2, rfl⟩ := hf2.t h64
          have hsp : 4 ≤ z ∧ z ≤ 25 := by omega
          refine x_aload_n dX6_book_69 rfl ?_
          refine x_aload_n dX6_book_70 rfl ?_
          refine x_iload_n dX6_book_71 rfl ?_
          refine x_V1 mX6_309 dX6_book_72 rfl (s_misBooked hv hN.z hs ?_)
          refine x_if_ne (tgt := 102) dX6_book_75 (by decide) (zi_r _) (fun h75 => ?_) (fun h75 => ?_)
          · refine x_iconst dX6_book_102 ?_
            refine x_top ((zi_f (fun zz : (¬ bk v s ∧ good v s (sh v s 0) y z ∧ cset (cls v s y z) (v 5).toNat = 0) => zz.1 (zi_1.mp h75))).symm) ?_
            refine x_iconst dX6_book_103 ?_
            refine x_iconst dX6_book_104 ?_
            refine x_V3 mX6_196 dX6_book_105 rfl (s_isFine (p := ¬ bk v s ∧ good v s (sh v s 0) y z ∧ cset (cls v s y z) (v 5).toNat = 0) (c := 3) (k := 2) th_0 (by omega) (by omega) (fun m3 r3 hf3 => ?_))
            refine x_if_ne (tgt := 113) dX6_book_108 (by decide) hf3.r (fun h108 => ?_) (fun h108 => ?_)
            · exact absurd (zi_1.mp h75) (hf3.t h108).1.1
            · obtain ⟨hp3, rfl⟩ := hf3.f h108
              refine x_iconst dX6_book_111 ?_
              exact x_iret dX6_book_112  (hP _ 0 (Or.inl ⟨3, 2, _, Or.inr (Or.inr ⟨hp1, hp2, hp3, rfl, rfl⟩), ag.rf, rfl⟩))
          · refine x_aload_n dX6_book_78 rfl ?_
            refine x_iload_n dX6_book_79 rfl ?_
            refine x_iload_n dX6_book_80 rfl ?_
            refine x_iload_n dX6_book_81 rfl ?_
            refine x_V3 mX6_318 dX6_book_82 rfl (s_goesWell hv hN.z hs (by omega) hsp (fun m2 ha2 => ?_))
            refine x_if_eq (tgt := 102) dX6_book_85 (by decide) (zi_r _) (fun h85 => ?_) (fun h85 => ?_)
            · refine x_iconst dX6_book_102 ?_
              refine x_top ((zi_f (fun zz : (¬ bk v s ∧ good v s (sh v s 0) y z ∧ cset (cls v s y z) (v 5).toNat = 0) => zi_0.mp h85 zz.2.1)).symm) ?_
              refine x_iconst dX6_book_103 ?_
              refine x_iconst dX6_book_104 ?_
              refine x_V3 mX6_196 dX6_book_105 rfl (s_isFine (p := ¬ bk v s ∧ good v s (sh v s 0) y z ∧ cset (cls v s y z) (v 5).toNat = 0) (c := 3) (k := 2) (by rw [ha2 96 (by decide)]; exact th_0) (by omega) (by omega) (fun m3 r3 hf3 => ?_))
              refine x_if_ne (tgt := 113) dX6_book_108 (by decide) hf3.r (fun h108 => ?_) (fun h108 => ?_)
              · exact absurd (hf3.t h108).1.2.1 (zi_0.mp h85)
              · obtain ⟨hp3, rfl⟩ := hf3.f h108
                refine x_iconst dX6_book_111 ?_
                exact x_iret dX6_book_112  (hP _ 0 (Or.inl ⟨3, 2, _, Or.inr (Or.inr ⟨hp1, hp2, hp3, rfl, rfl⟩), ha2, rfl⟩))
            · refine x_aload_n dX6_book_88 rfl ?_
              refine x_iload_n dX6_book_89 rfl ?_
              refine x_iload_n dX6_book_90 rfl ?_
              refine x_iload_n dX6_book_91 rfl ?_
              refine x_V3 mX6_322 dX6_book_92 rfl (s_mcloseTo hv (hN.z.ag ha2 (by decide)) hs hsp (by omega) ?_)
              refine x_if_ne (tgt := 102) dX6_book_95 (by decide) (by have := cset_6 (cls v s y z) (u := (v 5).toNat) (by omega); omega) (fun h95 => ?_) (fun h95 => ?_)
              · refine x_iconst dX6_book_102 ?_
                refine x_top ((zi_f (fun zz : (¬ bk v s ∧ good v s (sh v s 0) y z ∧ cset (cls v s y z) (v 5).toNat = 0) => h95 (by rw [zz.2.2]; rfl))).symm) ?_
                refine x_iconst dX6_book_103 ?_
                refine x_iconst dX6_book_104 ?_
                refine x_V3 mX6_196 dX6_book_105 rfl (s_isFine (p := ¬ bk v s ∧ good v s (sh v s 0) y z ∧ cset (cls v s y z) (v 5).toNat = 0) (c := 3) (k := 2) (by rw [ha2 96 (by decide)]; exact th_0) (by omega) (by omega) (fun m3 r3 hf3 => ?_))
                refine x_if_ne (tgt := 113) dX6_book_108 (by decide) hf3.r (fun h108 => ?_) (fun h108 => ?_)
                · exact absurd (by rw [(hf3.t h108).1.2.2]; rfl) h95
                · obtain ⟨hp3, rfl⟩ := hf3.f h108
                  refine x_iconst dX6_book_111 ?_
                  exact x_iret dX6_book_112  (hP _ 0 (Or.inl ⟨3, 2, _, Or.inr (Or.inr ⟨hp1, hp2, hp3, rfl, rfl⟩), ha2, rfl⟩))
              · refine x_iconst dX6_book_98 ?_
                refine x_goto (tgt := 103) dX6_book_99 (by decide) ?_
                refine x_top ((zi_t (show ¬ bk v s ∧ good v s (sh v s 0) y z ∧ cset (cls v s y z) (v 5).toNat = 0 from ⟨zi_0.mp h75, zi_1.mp h85, by omega⟩)).symm) ?_
                refine x_iconst dX6_book_103 ?_
                refine x_iconst dX6_book_104 ?_
                refine x_V3 mX6_196 dX6_book_105 rfl (s_isFine (p := ¬ bk v s ∧ good v s (sh v s 0) y z ∧ cset (cls v s y z) (v 5).toNat = 0) (c := 3) (k := 2) (by rw [ha2 96 (by decide)]; exact th_0) (by omega) (by omega) (fun m3 r3 hf3 => ?_))
                refine x_if_ne (tgt := 113) dX6_book_108 (by decide) hf3.r (fun h108 => ?_) (fun h108 => ?_)
                · obtain ⟨hp3, rfl⟩ := hf3.t h108
                  refine x_aload_n dX6_book_113 rfl ?_
                  refine x_V0 mX6_205 dX6_book_114 rfl (s_keeps (h := h) (hN.z.ag ha2 (by decide)) (hH.z.ag (by rw [ha2 96 (by decide)]) (ha2 100 (by decide))) (fun m4 ha4 hk4 hH4 => ?_))
                  have hN4 := (hN.z.ag ha2 (by decide)).ag ha4 (by decide)
                  refine x_aload_n dX6_book_117 rfl ?_
                  refine x_getR (r := 98) fX6_17 dX6_book_118 rfl rfl ?_
                  refine x_bipush dX6_book_121 (h := ?_)
                  refine x_bipush dX6_book_123 (h := ?_)
                  refine x_iload_n dX6_book_125 rfl ?_
                  refine x_imul dX6_book_126 ?_
                  refine x_iadd dX6_book_127 ?_
                  refine x_bipush dX6_book_128 (h := ?_)
                  refine x_iadd dX6_book_130 ?_
                  refine x_iload_n dX6_book_131 rfl ?_
                  refine x_iast (j := 60 + 8 * s + 6) dX6_book_132 rfl (by decide) (by omega) (show _ < 709 by omega) (by omega) ?_
                  refine x_aload_n dX6_book_133 rfl ?_
                  refine x_getR (r := 98) fX6_17 dX6_book_134 rfl rfl ?_
                  refine x_bipush dX6_book_137 (h := ?_)
                  refine x_bipush dX6_book_139 (h := ?_)
                  refine x_iload_n dX6_book_141 rfl ?_
                  refine x_imul dX6_book_142 ?_
                  refine x_iadd dX6_book_143 ?_
                  refine x_bipush dX6_book_144 (h := ?_)
                  refine x_iadd dX6_book_146 ?_
                  refine x_iload_n dX6_book_147 rfl ?_
                  refine x_iast (j := 60 + 8 * s + 7) dX6_book_148 rfl (by decide) (by omega) (show _ < 709 by omega) (by omega) ?_
                  refine x_aload_n dX6_book_149 rfl ?_
                  refine x_iload_n dX6_book_150 rfl ?_
                  refine x_iload_n dX6_book_151 rfl ?_
                  refine x_iload_n dX6_book_152 rfl ?_
                  refine x_V3 mX6_325 dX6_book_153 rfl (s_endsIn (v := vbk v s y z) (s := s) (vOk_bk hv hs (Or.inr ⟨by omega, by omega, by omega, by omega⟩)) hN4.u.u (by rw [vbk_ne (by omega) (by omega)]; exact hs) hsp ?_)
                  refine x_top (show y + pt (vbk v s y z) s z = y + pt v s z by rw [pt_c (vbk_ne (by omega) (by omega)) hv4 (fun k _ _ => vbk_ne (by omega) (by omega)) (vbk_ne (by omega) (by omega))]) ?_
                  exact x_iret dX6_book_156  (hP _ _ (Or.inr ⟨⟨hp1, hp2, hp3⟩, rfl, (((ha2.wk (U := [96, 98, 100, 103]) (by decide)).tr1 (ha4.wk (by decide))).u (by decide)).u (by decide), fun j hj => by rw [xu_ne (by decide), xu_ne (by decide), hk4 j hj, ha2 96 (by decide)], hN4.u.u, hH4.ag (by rw [xu_ne (by decide), xu_ne (by decide)]) (by rw [xu_ne (by decide), xu_ne (by decide)])⟩))
                · obtain ⟨hp3, rfl⟩ := hf3.f h108
                  refine x_iconst dX6_book_111 ?_
                  exact x_iret dX6_book_112  (hP _ 0 (Or.inl ⟨3, 2, _, Or.inr (Or.inr ⟨hp1, hp2, hp3, rfl, rfl⟩), ha2, rfl⟩))
        · obtain ⟨hp2, rfl⟩ := hf2.f h64
          refine x_iconst dX6_book_67 ?_
          exact x_iret dX6_book_68  (hP _ 0 (Or.inl ⟨2, _, _, Or.inr (Or.inl ⟨hp1, hp2, rfl, rfl⟩), ag.rf, rfl⟩))
      · refine x_iconst dX6_book_54 ?_
        refine x_goto (tgt := 59) dX6_book_55 (by decide) ?_
        refine x_top ((zi_t (show (0 ≤ y ∧ y ≤ 2000) ∧ (sh v s 3 ≤ z ∧ z ≤ sh v s 4) from ⟨zi_1.mp h29, zi_1.mp h51⟩)).symm) ?_
        refine x_iconst dX6_book_59 ?_
        refine x_iconst dX6_book_60 ?_
        refine x_V3 mX6_196 dX6_book_61 rfl (s_isFine (p := (0 ≤ y ∧ y ≤ 2000) ∧ (sh v s 3 ≤ z ∧ z ≤ sh v s 4)) (c := 2) (k := 1) th_0 (by omega) (by omega) (fun m2 r2 hf2 => ?_))
        refine x_if_ne (tgt := 69) dX6_book_64 (by decide) hf2.r (fun h64 => ?_) (fun h64 => ?_)
        · obtain ⟨hp2, rfl⟩ := hf2.t h64
          have hsp : 4 ≤ z ∧ z ≤ 25 := by omega
          refine x_aload_n dX6_book_69 rfl ?_
          refine x_aload_n dX6_book_70 rfl ?_
          refine x_iload_n dX6_book_71 rfl ?_
          refine x_V1 mX6_309 dX6_book_72 rfl (s_misBooked hv hN.z hs ?_)
          refine x_if_ne (tgt := 102) dX6_book_75 (by decide) (zi_r _) (fun h75 => ?_) (fun h75 => ?_)
          · refine x_iconst dX6_book_102 ?_
            refine x_top ((zi_f (fun zz : (¬ bk v s ∧ good v s (sh v s 0) y z ∧ cset (cls v s y z) (v 5).toNat = 0) => zz.1 (zi_1.mp h75))).symm) ?_
            refine x_iconst dX6_book_103 ?_
            refine x_iconst dX6_book_104 ?_
            refine x_V3 mX6_196 dX6_book_105 rfl (s_isFine (p := ¬ bk v s ∧ good v s (sh v s 0) y z ∧ cset (cls v s y z) (v 5).toNat = 0) (c := 3) (k := 2) th_0 (by omega) (by omega) (fun m3 r3 hf3 => ?_))
            refine x_if_ne (tgt := 113) dX6_book_108 (by decide) hf3.r (fun h108 => ?_) (fun h108 => ?_)
            · exact absurd (zi_1.mp h75) (hf3.t h108).1.1
            · obtain ⟨hp3, rfl⟩ := hf3.f h108
              refine x_iconst dX6_book_111 ?_
              exact x_iret dX6_book_112  (hP _ 0 (Or.inl ⟨3, 2, _, Or.inr (Or.inr ⟨hp1, hp2, hp3, rfl, rfl⟩), ag.rf, rfl⟩))
          · refine x_aload_n dX6_book_78 rfl ?_
            refine x_iload_n dX6_book_79 rfl ?_
            refine x_iload_n dX6_book_80 rfl ?_
            refine x_iload_n dX6_book_81 rfl ?_
            refine x_V3 mX6_318 dX6_book_82 rfl (s_goesWell hv hN.z hs (by omega) hsp (fun m2 ha2 => ?_))
            refine x_if_eq (tgt := 102) dX6_book_85 (by decide) (zi_r _) (fun h85 => ?_) (fun h85 => ?_)
            · refine x_iconst dX6_book_102 ?_
              refine x_top ((zi_f (fun zz : (¬ bk v s ∧ good v s (sh v s 0) y z ∧ cset (cls v s y z) (v 5).toNat = 0) => zi_0.mp h85 zz.2.1)).symm) ?_
              refine x_iconst dX6_book_103 ?_
              refine x_iconst dX6_book_104 ?_
              refine x_V3 mX6_196 dX6_book_105 rfl (s_isFine (p := ¬ bk v s ∧ good v s (sh v s 0) y z ∧ cset (cls v s y z) (v 5).toNat = 0) (c := 3) (k := 2) (by rw [ha2 96 (by decide)]; exact th_0) (by omega) (by omega) (fun m3 r3 hf3 => ?_))
              refine x_if_ne (tgt := 113) dX6_book_108 (by decide) hf3.r (fun h108 => ?_) (fun h108 => ?_)
              · exact absurd (hf3.t h108).1.2.1 (zi_0.mp h85)
              · obtain ⟨hp3, rfl⟩ := hf3.f h108
                refine x_iconst dX6_book_111 ?_
                exact x_iret dX6_book_112  (hP _ 0 (Or.inl ⟨3, 2, _, Or.inr (Or.inr ⟨hp1, hp2, hp3, rfl, rfl⟩), ha2, rfl⟩))
            · refine x_aload_n dX6_book_88 rfl ?_
              refine x_iload_n dX6_book_89 rfl ?_
              refine x_iload_n dX6_book_90 rfl ?_
              refine x_iload_n dX6_book_91 rfl ?_
              refine x_V3 mX6_322 dX6_book_92 rfl (s_mcloseTo hv (hN.z.ag ha2 (by decide)) hs hsp (by omega) ?_)
              refine x_if_ne (tgt := 102) dX6_book_95 (by decide) (by have := cset_6 (cls v s y z) (u := (v 5).toNat) (by omega); omega) (fun h95 => ?_) (fun h95 => ?_)
              · refine x_iconst dX6_book_102 ?_
                refine x_top ((zi_f (fun zz : (¬ bk v s ∧ good v s (sh v s 0) y z ∧ cset (cls v s y z) (v 5).toNat = 0) => h95 (by rw [zz.2.2]; rfl))).symm) ?_
                refine x_iconst dX6_book_103 ?_
                refine x_iconst dX6_book_104 ?_
                refine x_V3 mX6_196 dX6_book_105 rfl (s_isFine (p := ¬ bk v s ∧ good v s (sh v s 0) y z ∧ cset (cls v s y z) (v 5).toNat = 0) (c := 3) (k := 2) (by rw [ha2 96 (by decide)]; exact th_0) (by omega) (by omega) (fun m3 r3 hf3 => ?_))
                refine x_if_ne (tgt := 113) dX6_book_108 (by decide) hf3.r (fun h108 => ?_) (fun h108 => ?_)
                · exact absurd (by rw [(hf3.t h108).1.2.2]; rfl) h95
                · obtain ⟨hp3, rfl⟩ := hf3.f h108
                  refine x_iconst dX6_book_111 ?_
                  exact x_iret dX6_book_112  (hP _ 0 (Or.inl ⟨3, 2, _, Or.inr (Or.inr ⟨hp1, hp2, hp3, rfl, rfl⟩), ha2, rfl⟩))
              · refine x_iconst dX6_book_98 ?_
                refine x_goto (tgt := 103) dX6_book_99 (by decide) ?_
                refine x_top ((zi_t (show ¬ bk v s ∧ good v s (sh v s 0) y z ∧ cset (cls v s y z) (v 5).toNat = 0 from ⟨zi_0.mp h75, zi_1.mp h85, by omega⟩)).symm) ?_
                refine x_iconst dX6_book_103 ?_
                refine x_iconst dX6_book_104 ?_
                refine x_V3 mX6_196 dX6_book_105 rfl (s_isFine (p := ¬ bk v s ∧ good v s (sh v s 0) y z ∧ cset (cls v s y z) (v 5).toNat = 0) (c := 3) (k := 2) (by rw [ha2 96 (by decide)]; exact th_0) (by omega) (by omega) (fun m3 r3 hf3 => ?_))
                refine x_if_ne (tgt := 113) dX6_book_108 (by decide) hf3.r (fun h108 => ?_) (fun h108 => ?_)
                · obtain ⟨hp3, rfl⟩ := hf3.t h108
                  refine x_aload_n dX6_book_113 rfl ?_
                  refine x_V0 mX6_205 dX6_book_114 rfl (s_keeps (h := h) (hN.z.ag ha2 (by decide)) (hH.z.ag (by rw [ha2 96 (by decide)]) (ha2 100 (by decide))) (fun m4 ha4 hk4 hH4 => ?_))
                  have hN4 := (hN.z.ag ha2 (by decide)).ag ha4 (by decide)
                  refine x_aload_n dX6_book_117 rfl ?_
                  refine x_getR (r := 98) fX6_17 dX6_book_118 rfl rfl ?_
                  refine x_bipush dX6_book_121 (h := ?_)
                  refine x_bipush dX6_book_123 (h := ?_)
                  refine x_iload_n dX6_book_125 rfl ?_
                  refine x_imul dX6_book_126 ?_
                  refine x_iadd dX6_book_127 ?_
                  refine x_bipush dX6_book_128 (h := ?_)
                  refine x_iadd dX6_book_130 ?_
                  refine x_iload_n dX6_book_131 rfl ?_
                  refine x_iast (j := 60 + 8 * s + 6) dX6_book_132 rfl (by decide) (by omega) (show _ < 709 by omega) (by omega) ?_
                  refine x_aload_n dX6_book_133 rfl ?_
                  refine x_getR (r := 98) fX6_17 dX6_book_134 rfl rfl ?_
                  refine x_bipush dX6_book_137 (h := ?_)
                  refine x_bipush dX6_book_139 (h := ?_)
                  refine x_iload_n dX6_book_141 rfl ?_
                  refine x_imul dX6_book_142 ?_
                  refine x_iadd dX6_book_143 ?_
                  refine x_bipush dX6_book_144 (h := ?_)
                  refine x_iadd dX6_book_146 ?_
                  refine x_iload_n dX6_book_147 rfl ?_
                  refine x_iast (j := 60 + 8 * s + 7) dX6_book_148 rfl (by decide) (by omega) (show _ < 709 by omega) (by omega) ?_
                  refine x_aload_n dX6_book_149 rfl ?_
                  refine x_iload_n dX6_book_150 rfl ?_
                  refine x_iload_n dX6_book_151 rfl ?_
                  refine x_iload_n dX6_book_152 rfl ?_
                  refine x_V3 mX6_325 dX6_book_153 rfl (s_endsIn (v := vbk v s y z) (s := s) (vOk_bk hv hs (Or.inr ⟨by omega, by omega, by omega, by omega⟩)) hN4.u.u (by rw [vbk_ne (by omega) (by omega)]; exact hs) hsp ?_)
                  refine x_top (show y + pt (vbk v s y z) s z = y + pt v s z by rw [pt_c (vbk_ne (by omega) (by omega)) hv4 (fun k _ _ => vbk_ne (by omega) (by omega)) (vbk_ne (by omega) (by omega))]) ?_
                  exact x_iret dX6_book_156  (hP _ _ (Or.inr ⟨⟨hp1, hp2, hp3⟩, rfl, (((ha2.wk (U := [96, 98, 100, 103]) (by decide)).tr1 (ha4.wk (by decide))).u (by decide)).u (by decide), fun j hj => by rw [xu_ne (by decide), xu_ne (by decide), hk4 j hj, ha2 96 (by decide)], hN4.u.u, hH4.ag (by rw [xu_ne (by decide), xu_ne (by decide)]) (by rw [xu_ne (by decide), xu_ne (by decide)])⟩))
                · obtain ⟨hp3, rfl⟩ := hf3.f h108
                  refine x_iconst dX6_book_111 ?_
                  exact x_iret dX6_book_112  (hP _ 0 (Or.inl ⟨3, 2, _, Or.inr (Or.inr ⟨hp1, hp2, hp3, rfl, rfl⟩), ha2, rfl⟩))
        · obtain ⟨hp2, rfl⟩ := hf2.f h64
          refine x_iconst dX6_book_67 ?_
          exact x_iret dX6_book_68  (hP _ 0 (Or.inl ⟨2, _, _, Or.inr (Or.inl ⟨hp1, hp2, rfl, rfl⟩), ag.rf, rfl⟩))

set_option maxRecDepth 20000 in
theorem s_mclose {E : xE} {f : Nat → Nat} {D : Nat → Nat × Nat} {n : Nat} {m : xM} {P : xPo} {PX : xPx} {v : Nat → Int} {x y z : Int} (hv : vOk v) (hN : mN v m) (hx : -2147483648 ≤ x ∧ x ≤ 2147483647) (hy : -2147483648 ≤ y ∧ y ≤ 2147483647) (hz : -2147483648 ≤ z ∧ z ≤ 2147483647) (hP : ∀ m' r, moR (rf2 (0 ≤ x ∧ x < v 5) ((0 ≤ y ∧ y ≤ 10000) ∧ (4 ≤ z ∧ z ≤ 25)) 0 1) ((0 ≤ x ∧ x < v 5) ∧ ((0 ≤ y ∧ y ≤ 10000) ∧ (4 ≤ z ∧ z ≤ 25))) (fun r => r = ((cset (cls v x.toNat y z) (v 5).toNat : Nat) : Int)) [] m m' r → P (some (vi r)) (gS f D n) m') : xC E (yX6_close, cX6_close, 4, some .int) 5 0 0 [vr E 96, vi x, vi y, vi z] (gS f D n) m P PX := by
  refine x_enter (by decide) rfl rfl (Nat.le_of_ble_eq_true rfl) ?_
  refine x_aload_n dX6_close_0 rfl ?_
  refine x_iconst dX6_close_1 ?_
  refine x_putI fX6_1 dX6_close_2 rfl (by decide) rfl rfl ?_
  refine x_aload_n dX6_close_5 rfl ?_
  refine x_iload_n dX6_close_6 rfl ?_
  refine x_iload_n dX6_close_7 rfl ?_
  refine x_iload_n dX6_close_8 rfl ?_
  refine x_V3 mX6_348 dX6_close_9 rfl (s_areGiven hv hN.z th_0 hx hy hz (fun m1 r1 ho1 => ?_))
  refine x_if_eq (tgt := 25) dX6_close_12 (by decide) ho1.r (fun h12 => ?_) (fun h12 => ?_)
  · obtain ⟨k1, q1, hrf, rfl⟩ := ho1.f h12
    refine x_iconst dX6_close_25 ?_
    exact x_iret dX6_close_26  (hP _ 0 (Or.inl ⟨k1, q1, hrf, rfl⟩))
  · obtain ⟨hp1, hp2, rfl⟩ := ho1.t h12
    obtain ⟨s, rfl⟩ := nat_of hp1.1
    refine x_aload_n dX6_close_15 rfl ?_
    refine x_iload_n dX6_close_16 rfl ?_
    refine x_iload_n dX6_close_17 rfl ?_
    refine x_iload_n dX6_close_18 rfl ?_
    refine x_V3 mX6_322 dX6_close_19 rfl (s_mcloseTo hv hN.z hp1.2 (by omega) (by omega) ?_)
    refine x_goto (tgt := 26) dX6_close_22 (by decide) ?_
    exact x_iret dX6_close_26  (hP _ _ (Or.inr ⟨⟨hp1, hp2⟩, rfl, ag.rf⟩))

set_option maxRecDepth 20000 in
theorem s_mthrown {E : xE} {f : Nat → Nat} {D : Nat → Nat × Nat} {n : Nat} {m : xM} {P : xPo} {PX : xPx} (hP : P (some (vi (m 96 0))) (gS f D n) m) : xC E (yX6_thrown, cX6_thrown, 1, some .int) 0 0 0 [vr E 96] (gS f D n) m P PX := by
  refine x_enter (by decide) rfl rfl (Nat.le_of_ble_eq_true rfl) ?_
  refine x_aload_n dX6_thrown_0 rfl ?_
  refine x_getI fX6_1 dX6_thrown_1 rfl ?_
  exact x_iret dX6_thrown_4  (hP)

set_option maxRecDepth 20000 in
theorem s_mfault {E : xE} {f : Nat → Nat} {D : Nat → Nat × Nat} {n : Nat} {m : xM} {P : xPo} {PX : xPx} (hP : P (some (vi (m 96 13))) (gS f D n) (xu m 96 0 0)) : xC E (yX6_fault, cX6_fault, 1, some .int) 0 0 0 [vr E 96] (gS f D n) m P PX := by
  refine x_enter (by decide) rfl rfl (Nat.le_of_ble_eq_true rfl) ?_
  refine x_aload_n dX6_fault_0 rfl ?_
  refine x_iconst dX6_fault_1 ?_
  refine x_putI fX6_1 dX6_fault_2 rfl (by decide) rfl rfl ?_
  refine x_aload_n dX6_fault_5 rfl ?_
  refine x_getI fX6_33 dX6_fault_6 rfl ?_
  refine x_top (show xu m 96 0 0 96 13 = m 96 13 by rw [xu_if, if_neg (by omega)]) ?_
  exact x_iret dX6_fault_9  (hP)

set_option maxRecDepth 20000 in
theorem s_mstatus {E : xE} {f : Nat → Nat} {D : Nat → Nat × Nat} {n : Nat} {m : xM} {P : xPo} {PX : xPx} {x : Int} (hx : -2147483648 ≤ x ∧ x ≤ 2147483647) (hP : P (some (vi (if 0 ≤ x ∧ x ≤ 2 then m 97 x.toNat else -1))) (gS f D n) (xu m 96 0 0)) : xC E (yX6_status, cX6_status, 2, some .int) 1 0 0 [vr E 96, vi x] (gS f D n) m P PX := by
  refine x_enter (by decide) rfl rfl (Nat.le_of_ble_eq_true rfl) ?_
  refine x_aload_n dX6_status_0 rfl ?_
  refine x_iconst dX6_status_1 ?_
  refine x_putI fX6_1 dX6_status_2 rfl (by decide) rfl rfl ?_
  refine x_iload_n dX6_status_5 rfl ?_
  refine x_i2l dX6_status_6 (by omega) ?_
  refine x_lconst0 dX6_status_7 ?_
  refine x_ldc2_w kX6_330 dX6_status_8 ?_
  refine x_S3 mX6_122 dX6_status_11 (s_lies (by omega) ?_)
  refine x_if_eq (tgt := 26) dX6_status_14 (by decide) (zi_r _) (fun h14 => ?_) (fun h14 => ?_)
  · have hn := zi_0.mp h14
    refine x_iconst dX6_status_26 ?_
    exact x_iret dX6_status_27  (by rw [if_neg hn] at hP; exact hP)
  · have hn := zi_1.mp h14
    obtain ⟨j, rfl⟩ := nat_of hn.1
    refine x_aload_n dX6_status_17 rfl ?_
    refine x_getR (r := 97) fX6_7 dX6_status_18 rfl rfl ?_
    refine x_iload_n dX6_status_21 rfl ?_
    refine x_iald (j := j) dX6_status_22 rfl (by omega) (show _ < 3 by omega) (by omega) ?_
    refine x_top (show xu m 96 0 0 97 j = m 97 j by rw [xu_ne (by decide)]) ?_
    refine x_goto (tgt := 27) dX6_status_23 (by decide) ?_
    exact x_iret dX6_status_27  (by rw [if_pos hn] at hP; exact hP)

end MY
