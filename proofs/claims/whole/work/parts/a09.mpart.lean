section MPT
theorem MR.leaf5 {q : Nat → Int} {N : Nat} {X X' : pX} {m m' : xM} (h : MR q N X m) (hS : lM q N X' m') (hc : cg 96 [10, 11, 12, 14, 15] m m') (hr : X'.2.2.2 = X.2.2.2) (h0 : X'.1 = 0 → X.1 = 0) : MR q N X' m' := ⟨hS, fun z => by rw [hr]; exact ⟨fun k hk => by rw [hc.1 99 (by decide)]; exact (h.2 (h0 z)).1 k hk, by rw [hc.2 16 (by decide)]; exact (h.2 (h0 z)).2⟩⟩
theorem MR.fl0 {q : Nat → Int} {N k p h h' : Nat} {r r' : Nat → Int} {m : xM} (h9 : MR q N (k, p, h, r) m) (hk : k ≠ 0) : MR q N (k, p, h', r') m := ⟨h9.1.mk0 hk, fun z => absurd z hk⟩
theorem MR.of3 {q : Nat → Int} {N k p : Nat} {X : pX} {m' : xM} (h0 : X.1 = 0) (hk : k ≠ 0) (hS : lM q N (pfl k p X) m') {h' : Nat} {r' : Nat → Int} : MR q N (k, p, h', r') m' := ⟨(lC_k h0 hS).mk0 hk, fun z => absurd z hk⟩
set_option maxRecDepth 20000 in
theorem un_115 {E : xE} {f : Nat → Nat} {D : Nat → Nat × Nat} {n : Nat} {q : Nat → Int} {N : Nat} {X : pX} {dd kk s : Nat} {m m1 : xM} {P : xPo} {PX : xPx} {z1 : Int} (hdd : 6 ≤ dd) (h0 : X.1 = 0) (hs2 : 2 ≤ s) (hsl : slq N s X) (hR1 : MR q N (pskip q N X) m1) (hg1 : frM m m1) (ho1 : m1 96 15 = m 96 15) (hk1 : m1 99 108 = (kk : Int)) (hkk : kk + s ≤ 600) (hP : ∀ m', frM m m' → m' 96 15 = m 96 15 → MR q N (pu0 q N X) m' → ((pu0 q N X).1 ≠ 0 → 0 ≤ m' 99 108 ∧ m' 99 108 + s ≤ 601) → P none (gS f D n) m') : xX E (("partRead", none, []), (dd, 0, 0), P, PX) RX6 cX6_partRead 3 0 0 115 [(0, vr E 96), (1, vi z1)] [] (gS f D n) m1 := by
  have hS1 := hR1.1
  refine x_aload_n dX6_partRead_115 rfl ?_
  refine x_ldcS kX6_144 dX6_partRead_116 ?_
  refine x_V1 mX6_146 dX6_partRead_118 rfl (s_passesWord (i := 7) (by omega) hS1 (fun m8 hc8 hS8 => ?_)) (hdp := by omega)
  rw [pwX_s h0 hsl.1] at hS8
  have hR8 : MR q N (pwX q N 7 X) m8 := hR1.leaf hS8 (hc8.wk (by decide)) (pwX_r.trans pskip_r.symm) (fun z => pskip_1.trans (pwX_0.symm.trans z))
  have hg8 : frM m m8 := hg1.tr (frM.cg hc8 (by decide))
  have hk8 : m8 99 108 = (kk : Int) := by rw [hc8.1 99 (by decide)]; exact hk1
  have ho8 : m8 96 15 = m 96 15 := (hc8.2 15 (by decide)).trans ho1
  refine x_if_eq (tgt := 128) dX6_partRead_121 (by decide) (zi_r _) (fun h121 => ?_) (fun h121 => ?_)
  · have hy7 := fun z => zi_0.mp h121 ((pwT_s h0 hsl.1).mpr z)
    rw [pwX_f hy7] at hS8 hR8
    refine x_aload_n dX6_partRead_128 rfl ?_
    refine x_ldcS kX6_149 dX6_partRead_129 ?_
    refine x_V1 mX6_146 dX6_partRead_131 rfl (s_passesWord (i := 8) (by omega) hS8 (fun m9 hc9 hS9 => ?_)) (hdp := by omega)
    rw [pwX_s h0 hsl.1] at hS9
    have hR9 : MR q N (pwX q N 8 X) m9 := hR8.leaf hS9 (hc9.wk (by decide)) (pwX_r.trans pskip_r.symm) (fun z => pskip_1.trans (pwX_0.symm.trans z))
    have hg9 : frM m m9 := hg8.tr (frM.cg hc9 (by decide))
    have hk9 : m9 99 108 = (kk : Int) := by rw [hc9.1 99 (by decide)]; exact hk8
    have ho9 : m9 96 15 = m 96 15 := (hc9.2 15 (by decide)).trans ho8
    refine x_if_eq (tgt := 142) dX6_partRead_134 (by decide) (zi_r _) (fun h134 => ?_) (fun h134 => ?_)
    · have hy8 := fun z => zi_0.mp h134 ((pwT_s h0 hsl.1).mpr z)
      rw [pwX_f hy8] at hS9 hR9
      refine x_aload_n dX6_partRead_142 rfl ?_
      refine x_ldcS kX6_151 dX6_partRead_143 ?_
      refine x_V1 mX6_146 dX6_partRead_145 rfl (s_passesWord (i := 9) (by omega) hS9 (fun m10 hc10 hS10 => ?_)) (hdp := by omega)
      rw [pwX_s h0 hsl.1] at hS10
      have hR10 : MR q N (pwX q N 9 X) m10 := hR9.leaf hS10 (hc10.wk (by decide)) (pwX_r.trans pskip_r.symm) (fun z => pskip_1.trans (pwX_0.symm.trans z))
      have hg10 : frM m m10 := hg9.tr (frM.cg hc10 (by decide))
      have hk10 : m10 99 108 = (kk : Int) := by rw [hc10.1 99 (by decide)]; exact hk9
      have ho10 : m10 96 15 = m 96 15 := (hc10.2 15 (by decide)).trans ho9
      refine x_if_eq (tgt := 156) dX6_partRead_148 (by decide) (zi_r _) (fun h148 => ?_) (fun h148 => ?_)
      · have hy9 := fun z => zi_0.mp h148 ((pwT_s h0 hsl.1).mpr z)
        rw [pwX_f hy9] at hS10 hR10
        refine x_aload_n dX6_partRead_156 rfl ?_
        refine x_ldcS kX6_153 dX6_partRead_157 ?_
        refine x_V1 mX6_146 dX6_partRead_159 rfl (s_passesWord (i := 10) (by omega) hS10 (fun m11 hc11 hS11 => ?_)) (hdp := by omega)
        rw [pwX_s h0 hsl.1] at hS11
        have hR11 : MR q N (pwX q N 10 X) m11 := hR10.leaf hS11 (hc11.wk (by decide)) (pwX_r.trans pskip_r.symm) (fun z => pskip_1.trans (pwX_0.symm.trans z))
        have hg11 : frM m m11 := hg10.tr (frM.cg hc11 (by decide))
        have hk11 : m11 99 108 = (kk : Int) := by rw [hc11.1 99 (by decide)]; exact hk10
        have ho11 : m11 96 15 = m 96 15 := (hc11.2 15 (by decide)).trans ho10
        refine x_if_eq (tgt := 170) dX6_partRead_162 (by decide) (zi_r _) (fun h162 => ?_) (fun h162 => ?_)
        · have hy10 := fun z => zi_0.mp h162 ((pwT_s h0 hsl.1).mpr z)
          rw [pwX_f hy10] at hS11 hR11
          refine x_iconst dX6_partRead_170 ?_
          refine x_istore_n dX6_partRead_171 ?_
          refine x_aload_n dX6_partRead_172 rfl ?_
          refine x_iload_n dX6_partRead_173 rfl ?_
          refine x_if_eq (tgt := 181) dX6_partRead_174 (by decide) (by omega) (fun h174 => ?_) (fun h174 => absurd (by omega) h174)
          refine x_aload_n dX6_partRead_181 rfl ?_
          refine x_iconst dX6_partRead_182 ?_
          refine x_sipush dX6_partRead_183 (h := ?_)
          refine x_V2 mX6_155 dX6_partRead_186 rfl (s_number (by omega) (by omega) hS11 (fun m12 v12 hc12 hS12 hv12 hb12 => ?_)) (hdp := by omega)
          have hS13 := pnX_sl h0 hsl.1 hS12
          rw [pnX_s0 h0 hsl.1, pnV_s h0 hsl.1] at hv12
          have hR12 : MR q N (pnX q N 0 9999 X) m12 := hR11.leaf hS13 hc12 (pnX_r.trans pskip_r.symm) (fun z => pskip_1.trans (pnX_0 z))
          have hk12 : m12 99 108 = (kk : Int) := by rw [hc12.1 99 (by decide)]; exact hk11
          refine x_V1 mX6_132 dX6_partRead_189 rfl (s_code hk12 (by omega) ?_) (hdp := by omega)
          exact x_vret dX6_partRead_192 (hP _ (hg11.tr (frM.cg hc12 (by decide))).u9.u9 (by rw [xu_ne (by decide), xu_ne (by decide)]; exact (hc12.2 15 (by decide)).trans ho11) (by rw [pu0_5 h0 hy7 hy8 hy9 hy10]; exact hR12.cd hk12 (by omega) (fun z => hv12 z)) (fun _ => by rw [xu_s]; omega))
        · have hy10 := (pwT_s h0 hsl.1).mp (zi_1.mp h162)
          refine x_bipush dX6_partRead_165 (h := ?_)
          refine x_goto (tgt := 171) dX6_partRead_167 (by decide) ?_
          refine x_istore_n dX6_partRead_171 ?_
          refine x_aload_n dX6_partRead_172 rfl ?_
          refine x_iload_n dX6_partRead_173 rfl ?_
          refine x_if_eq (tgt := 181) dX6_partRead_174 (by decide) (by omega) (fun h174 => absurd h174 (by omega)) (fun h174 => ?_)
          refine x_iload_n dX6_partRead_177 rfl ?_
          refine x_goto (tgt := 189) dX6_partRead_178 (by decide) ?_
          refine x_V1 mX6_132 dX6_partRead_189 rfl (s_code hk11 (by omega) ?_) (hdp := by omega)
          exact x_vret dX6_partRead_192 (hP _ hg11.u9.u9 (by rw [xu_ne (by decide), xu_ne (by decide)]; exact ho11) (by rw [pu0_4 hy7 hy8 hy9 hy10]; exact hR11.cd hk11 (by omega) (fun _ => rfl)) (fun _ => by rw [xu_s]; omega))
      · have hy9 := (pwT_s h0 hsl.1).mp (zi_1.mp h148)
        refine x_bipush dX6_partRead_151 (h := ?_)
        refine x_goto (tgt := 171) dX6_partRead_153 (by decide) ?_
        refine x_istore_n dX6_partRead_171 ?_
        refine x_aload_n dX6_partRead_172 rfl ?_
        refine x_iload_n dX6_partRead_173 rfl ?_
        refine x_if_eq (tgt := 181) dX6_partRead_174 (by decide) (by omega) (fun h174 => absurd h174 (by omega)) (fun h174 => ?_)
        refine x_iload_n dX6_partRead_177 rfl ?_
        refine x_goto (tgt := 189) dX6_partRead_178 (by decide) ?_
        refine x_V1 mX6_132 dX6_partRead_189 rfl (s_code hk10 (by omega) ?_) (hdp := by omega)
        exact x_vret dX6_partRead_192 (hP _ hg10.u9.u9 (by rw [xu_ne (by decide), xu_ne (by decide)]; exact ho10) (by rw [pu0_3 hy7 hy8 hy9]; exact hR10.cd hk10 (by omega) (fun _ => rfl)) (fun _ => by rw [xu_s]; omega))
    · have hy8 := (pwT_s h0 hsl.1).mp (zi_1.mp h134)
      refine x_bipush dX6_partRead_137 (h := ?_)
      refine x_goto (tgt := 171) dX6_partRead_139 (by decide) ?_
      refine x_istore_n dX6_partRead_171 ?_
      refine x_aload_n dX6_partRead_172 rfl ?_
      refine x_iload_n dX6_partRead_173 rfl ?_
      refine x_if_eq (tgt := 181) dX6_partRead_174 (by decide) (by omega) (fun h174 => absurd h174 (by omega)) (fun h174 => ?_)
      refine x_iload_n dX6_partRead_177 rfl ?_
      refine x_goto (tgt := 189) dX6_partRead_178 (by decide) ?_
      refine x_V1 mX6_132 dX6_partRead_189 rfl (s_code hk9 (by omega) ?_) (hdp := by omega)
      exact x_vret dX6_partRead_192 (hP _ hg9.u9.u9 (by rw [xu_ne (by decide), xu_ne (by decide)]; exact ho9) (by rw [pu0_2 hy7 hy8]; exact hR9.cd hk9 (by omega) (fun _ => rfl)) (fun _ => by rw [xu_s]; omega))
  · have hy7 := (pwT_s h0 hsl.1).mp (zi_1.mp h121)
    refine x_iconst dX6_partRead_124 ?_
    refine x_goto (tgt := 171) dX6_partRead_125 (by decide) ?_
    refine x_istore_n dX6_partRead_171 ?_
    refine x_aload_n dX6_partRead_172 rfl ?_
    refine x_iload_n dX6_partRead_173 rfl ?_
    refine x_if_eq (tgt := 181) dX6_partRead_174 (by decide) (by omega) (fun h174 => absurd h174 (by omega)) (fun h174 => ?_)
    refine x_iload_n dX6_partRead_177 rfl ?_
    refine x_goto (tgt := 189) dX6_partRead_178 (by decide) ?_
    refine x_V1 mX6_132 dX6_partRead_189 rfl (s_code hk8 (by omega) ?_) (hdp := by omega)
    exact x_vret dX6_partRead_192 (hP _ hg8.u9.u9 (by rw [xu_ne (by decide), xu_ne (by decide)]; exact ho8) (by rw [pu0_1 hy7]; exact hR8.cd hk8 (by omega) (fun _ => rfl)) (fun _ => by rw [xu_s]; omega))

set_option maxRecDepth 20000 in
theorem um_0 {E : xE} {f : Nat → Nat} {D : Nat → Nat × Nat} {n : Nat} {q : Nat → Int} {N : Nat} : uM E f D n q N yX6_partRead cX6_partRead 3 (6) (0) (pun q N (0)) := by
  intro X m P PX s h0 hs2 hsl hR h15 hP
  refine x_enter (by decide) rfl rfl (Nat.le_of_ble_eq_true rfl) ?_
  refine x_aload_n dX6_partRead_0 rfl ?_
  refine x_V0 mX6_84 dX6_partRead_1 rfl (s_sign hR.1 (fun m1 r1 hc1 hS1 hr1 hs1 => ?_)) (hdp := by omega)
  have hs1 := hs1 h0
  have hR1 : MR q N (pskip q N X) m1 := hR.leaf hS1 (hc1.wk (by decide)) pskip_r (fun _ => h0)
  obtain ⟨⟨a1, ha1, haN1, hah1⟩, he1, hf1, -⟩ := id hS1
  have haS : a1 = skp q N X.2.2.1 := (hah1 (pskip_1.trans h0)).trans (by rw [pskip_0 h0]; rfl)
  have hg1 : frM m m1 := frM.cg hc1 (by decide)
  have ho1 : m1 96 15 = m 96 15 := hc1.2 15 (by decide)
  have hf0 : m1 96 11 = 0 := by rw [hf1, pskip_1, h0]; rfl
  have hsb := skp_b (q := q) hsl.1
  have hN6 : N ≤ 600 := hR.1.2.2.2.2.2.1
  obtain ⟨kk, hkk⟩ : ∃ kk : Nat, X.2.2.2 108 = (kk : Int) := ⟨(X.2.2.2 108).toNat, by have := hsl.2.1; omega⟩
  have hks : kk + s ≤ 600 := by have := hsl.2.2; have := hsl.1; omega
  have hk0 : m 99 108 = (kk : Int) := ((hR.2 h0).1 108 (by omega)).trans hkk
  have hk1 : m1 99 108 = (kk : Int) := by rw [hc1.1 99 (by decide)]; exact hk0
  refine x_istore_n dX6_partRead_4 ?_
  refine x_aload_n dX6_partRead_5 rfl ?_
  refine x_getI fX6_72 dX6_partRead_6 rfl ?_
  refine x_top (hf0) ?_
  refine x_if_le (tgt := 13) dX6_partRead_9 (by decide) (by omega) (fun h9 => ?_) (fun h9 => absurd (by omega) h9)
  refine x_iload_n dX6_partRead_13 rfl ?_
  refine x_bipush dX6_partRead_14 (h := ?_)
  refine x_icmp_ne (tgt := 115) dX6_partRead_16 (by decide) (by omega) (fun h16 => ?_) (fun h16 => ?_)
  · have hno : ¬ sgP q N (skp q N X.2.2.1) 40 := fun z => h16 ((hs1.1 z.1).trans z.2)
    exact x_loc (lv' := [(0, vr E 96), (1, vi r1)]) ⟨rfl, rfl, trivial⟩ (un_115 (by omega) h0 hs2 hsl hR1 hg1 ho1 hk1 hks (fun m9 hg9 ho9 hR9 hb9 => hP m9 hg9 ho9 (by unfold pun; rw [if_neg hno]; exact hR9) (fun z => hb9 (by unfold pun at z; rw [if_neg hno] at z; exact z))))
  · have hlt : skp q N X.2.2.1 < N := Classical.not_not.mp (fun z => by have := hs1.2 z; omega)
    have hyes : sgP q N (skp q N X.2.2.1) 40 := ⟨hlt, by have := hs1.1 hlt; omega⟩
    refine x_aload_n dX6_partRead_19 rfl ?_
    refine x_getI fX6_78 dX6_partRead_20 rfl ?_
    refine x_top (ha1) ?_
    refine x_aload_n dX6_partRead_23 rfl ?_
    refine x_getI fX6_81 dX6_partRead_24 rfl ?_
    refine x_top (he1) ?_
    refine x_icmp_ge (tgt := 115) dX6_partRead_27 (by decide) (by omega) (fun h27 => absurd h27 (by omega)) (fun h27 => ?_)
    refine x_aload_n dX6_partRead_30 rfl ?_
    refine x_getI fX6_138 dX6_partRead_31 rfl ?_
    refine x_top (show m1 96 15 = 4 - ((0 : Nat) : Int) by rw [ho1]; exact h15) ?_
    refine x_iconst dX6_partRead_34 ?_
    refine x_icmp_ne (tgt := 47) dX6_partRead_35 (by decide) (by omega) (fun h35 => absurd h35 (by omega)) (fun h35 => ?_)
    refine x_aload_n dX6_partRead_38 rfl ?_
    refine x_iconst dX6_partRead_39 ?_
    refine x_aload_n dX6_partRead_40 rfl ?_
    refine x_getI fX6_78 dX6_partRead_41 rfl ?_
    refine x_top (ha1) ?_
    refine x_V2 mX6_111 dX6_partRead_44 rfl (s_wrong (k := 4) (p := a1) (by omega) hS1 (fun m2 hc2 hS2 => ?_)) (hdp := by omega)
    have hS3 := lC_k (X := pskip q N X) (pskip_1.trans h0) hS2
    obtain ⟨-, -, hf3, -⟩ := id hS3
    refine x_aload_n dX6_partRead_47 rfl ?_
    refine x_getI fX6_72 dX6_partRead_48 rfl ?_
    refine x_top (hf3) ?_
    refine x_if_le (tgt := 55) dX6_partRead_51 (by decide) (by show -2147483648 ≤ ((4 : Nat) : Int) ∧ ((4 : Nat) : Int) ≤ 2147483647; omega) (fun h51 => absurd h51 (show ¬ ((4 : Nat) : Int) ≤ 0 by omega)) (fun h51 => ?_)
    exact x_vret dX6_partRead_54 (hP m2 (hg1.tr (frM.cg hc2 (by decide))) ((hc2.2 15 (by decide)).trans ho1) (by unfold pun; rw [if_pos hyes, ← haS]; exact MR.of3 (pskip_1.trans h0) (by decide) hS2) (fun _ => by rw [hc2.1 99 (by decide), hk1]; omega))

set_option maxRecDepth 20000 in
theorem um_s {E : xE} {f : Nat → Nat} {D : Nat → Nat × Nat} {n : Nat} {q : Nat → Int} {N : Nat} {k : Nat} (hk4 : k < 4) (hU : uM E f D n q N yX6_sumRead cX6_sumRead 2 (8 + 3 * k) k (psm q N (pun q N k))) : uM E f D n q N yX6_partRead cX6_partRead 3 (6 + 3 * (k + 1)) (k + 1) (pun q N (k + 1)) := by
  intro X m P PX s h0 hs2 hsl hR h15 hP
  refine x_enter (by decide) rfl rfl (Nat.le_of_ble_eq_true rfl) ?_
  refine x_aload_n dX6_partRead_0 rfl ?_
  refine x_V0 mX6_84 dX6_partRead_1 rfl (s_sign hR.1 (fun m1 r1 hc1 hS1 hr1 hs1 => ?_)) (hdp := by omega)
  have hs1 := hs1 h0
  have hR1 : MR q N (pskip q N X) m1 := hR.leaf hS1 (hc1.wk (by decide)) pskip_r (fun _ => h0)
  obtain ⟨⟨a1, ha1, haN1, hah1⟩, he1, hf1, -⟩ := id hS1
  have haS : a1 = skp q N X.2.2.1 := (hah1 (pskip_1.trans h0)).trans (by rw [pskip_0 h0]; rfl)
  have hg1 : frM m m1 := frM.cg hc1 (by decide)
  have ho1 : m1 96 15 = m 96 15 := hc1.2 15 (by decide)
  have hf0 : m1 96 11 = 0 := by rw [hf1, pskip_1, h0]; rfl
  have hsb := skp_b (q := q) hsl.1
  have hN6 : N ≤ 600 := hR.1.2.2.2.2.2.1
  obtain ⟨kk, hkk⟩ : ∃ kk : Nat, X.2.2.2 108 = (kk : Int) := ⟨(X.2.2.2 108).toNat, by have := hsl.2.1; omega⟩
  have hks : kk + s ≤ 600 := by have := hsl.2.2; have := hsl.1; omega
  have hk0 : m 99 108 = (kk : Int) := ((hR.2 h0).1 108 (by omega)).trans hkk
  have hk1 : m1 99 108 = (kk : Int) := by rw [hc1.1 99 (by decide)]; exact hk0
  refine x_istore_n dX6_partRead_4 ?_
  refine x_aload_n dX6_partRead_5 rfl ?_
  refine x_getI fX6_72 dX6_partRead_6 rfl ?_
  refine x_top (hf0) ?_
  refine x_if_le (tgt := 13) dX6_partRead_9 (by decide) (by omega) (fun h9 => ?_) (fun h9 => absurd (by omega) h9)
  refine x_iload_n dX6_partRead_13 rfl ?_
  refine x_bipush dX6_partRead_14 (h := ?_)
  refine x_icmp_ne (tgt := 115) dX6_partRead_16 (by decide) (by omega) (fun h16 => ?_) (fun h16 => ?_)
  · have hno : ¬ sgP q N (skp q N X.2.2.1) 40 := fun z => h16 ((hs1.1 z.1).trans z.2)
    exact x_loc (lv' := [(0, vr E 96), (1, vi r1)]) ⟨rfl, rfl, trivial⟩ (un_115 (by omega) h0 hs2 hsl hR1 hg1 ho1 hk1 hks (fun m9 hg9 ho9 hR9 hb9 => hP m9 hg9 ho9 (by unfold pun; rw [if_neg hno]; exact hR9) (fun z => hb9 (by unfold pun at z; rw [if_neg hno] at z; exact z))))
  · have hlt : skp q N X.2.2.1 < N := Classical.not_not.mp (fun z => by have := hs1.2 z; omega)
    have hyes : sgP q N (skp q N X.2.2.1) 40 := ⟨hlt, by have := hs1.1 hlt; omega⟩
    refine x_aload_n dX6_partRead_19 rfl ?_
    refine x_getI fX6_78 dX6_partRead_20 rfl ?_
    refine x_top (ha1) ?_
    refine x_aload_n dX6_partRead_23 rfl ?_
    refine x_getI fX6_81 dX6_partRead_24 rfl ?_
    refine x_top (he1) ?_
    refine x_icmp_ge (tgt := 115) dX6_partRead_27 (by decide) (by omega) (fun h27 => absurd h27 (by omega)) (fun h27 => ?_)
    refine x_aload_n dX6_partRead_30 rfl ?_
    refine x_getI fX6_138 dX6_partRead_31 rfl ?_
    refine x_top (show m1 96 15 = 4 - ((k + 1 : Nat) : Int) by rw [ho1]; exact h15) ?_
    refine x_iconst dX6_partRead_34 ?_
    refine x_icmp_ne (tgt := 47) dX6_partRead_35 (by decide) (by omega) (fun h35 => ?_) (fun h35 => absurd h35 (by omega))
    refine x_aload_n dX6_partRead_47 rfl ?_
    refine x_getI fX6_72 dX6_partRead_48 rfl ?_
    refine x_top (hf0) ?_
    refine x_if_le (tgt := 55) dX6_partRead_51 (by decide) (by omega) (fun h51 => ?_) (fun h51 => absurd (by omega) h51)
    refine x_aload_n dX6_partRead_55 rfl ?_
    refine x_dup dX6_partRead_56 vr_cat ?_
    refine x_getI fX6_138 dX6_partRead_57 rfl ?_
    refine x_top (show m1 96 15 = 4 - ((k + 1 : Nat) : Int) by rw [ho1]; exact h15) ?_
    refine x_iconst dX6_partRead_60 ?_
    refine x_iadd dX6_partRead_61 ?_
    refine x_top (show 4 - ((k + 1 : Nat) : Int) + 1 = 4 - (k : Int) by omega) ?_
    refine x_putI fX6_138 dX6_partRead_62 rfl (by decide) rfl rfl ?_
    refine x_aload_n dX6_partRead_65 rfl ?_
    refine x_dup dX6_partRead_66 vr_cat ?_
    refine x_getI fX6_78 dX6_partRead_67 rfl ?_
    refine x_top (show _ = (a1 : Int) by rw [xu_n (Or.inr (by decide))]; exact ha1) ?_
    refine x_iconst dX6_partRead_70 ?_
    refine x_iadd dX6_partRead_71 ?_
    refine x_top (show (a1 : Int) + 1 = ((a1 + 1 : Nat) : Int) by omega) ?_
    refine x_putI fX6_78 dX6_partRead_72 rfl (by decide) rfl rfl ?_
    have hcu : cg 96 [10, 15] m (xu (xu m1 96 15 (4 - (k : Int))) 96 10 ((a1 + 1 : Nat) : Int)) := (((hc1.wk (by decide)).u (by decide)).u (by decide))
    have hR2 : MR q N (pat (skp q N X.2.2.1 + 1) X) (xu (xu m1 96 15 (4 - (k : Int))) 96 10 ((a1 + 1 : Nat) : Int)) := hR.leaf5 (hR.1.to (X' := pat (skp q N X.2.2.1 + 1) X) hcu (by decide) (by decide) (by decide) (by decide) rfl (fun _ => rfl) (a := a1 + 1) xu_s (by have := hyes.1; omega) (fun _ => by rw [haS]; rfl)) (hcu.wk (by decide)) rfl (fun z => z)
    have hs3 := hsl.to (X' := pat (skp q N X.2.2.1 + 1) X) (cP.at (c := 1) h0 (by omega) (by have := hyes.1; omega)) h0
    refine x_aload_n dX6_partRead_75 rfl ?_
    refine x_V0 mX6_141 dX6_partRead_76 rfl (hU (pat (skp q N X.2.2.1 + 1) X) (xu (xu m1 96 15 (4 - (k : Int))) 96 10 ((a1 + 1 : Nat) : Int)) _ _ (s + 1) h0 (by omega) hs3 hR2 (by rw [xu_n (Or.inr (by decide)), xu_s]) (fun m3 hf3 h315 hR3 hb3 => ?_)) (hdp := by omega)
    have hg3 : frM m m3 := (frM.cg hcu (by decide)).tr hf3
    have h335 : m3 96 15 = 4 - (k : Int) := by rw [h315, xu_n (Or.inr (by decide)), xu_s]
    have hf4 := hR3.1.2.2.1
    have hl4 := hR3.1.2.2.2.2.1
    have hcP := psm_c (q := q) (pun_c (q := q) k) (X := pat (skp q N X.2.2.1 + 1) X) h0 hs3.1
    refine x_aload_n dX6_partRead_79 rfl ?_
    refine x_getI fX6_72 dX6_partRead_80 rfl ?_
    refine x_top (hf4) ?_
    refine x_if_ne (tgt := 104) dX6_partRead_83 (by decide) (by omega) (fun h83 => ?_) (fun h83 => ?_)
    · have hz : (psm q N (pun q N k) (pat (skp q N X.2.2.1 + 1) X)).1 ≠ 0 := by omega
      refine x_aload_n dX6_partRead_104 rfl ?_
      refine x_dup dX6_partRead_105 vr_cat ?_
      refine x_getI fX6_138 dX6_partRead_106 rfl ?_
      refine x_top (h335) ?_
      refine x_iconst dX6_partRead_109 ?_
      refine x_isub dX6_partRead_110 ?_
      refine x_top (show 4 - (k : Int) - 1 = m 96 15 by rw [h15]; omega) ?_
      refine x_putI fX6_138 dX6_partRead_111 rfl (by decide) rfl rfl ?_
      exact x_vret dX6_partRead_114 (hP _ (hg3.tr (frM.cg (cg.rf.u (j := 15) (J := [15]) (by decide)) (by decide))) xu_s (by unfold pun; rw [if_pos hyes]; unfold pnd; rw [if_neg hz]; exact hR3.op) (fun _ => by rw [xu_ne (by decide)]; have := hb3 hz; omega))
    · have hz : (psm q N (pun q N k) (pat (skp q N X.2.2.1 + 1) X)).1 = 0 := by omega
      refine x_aload_n dX6_partRead_86 rfl ?_
      refine x_bipush dX6_partRead_87 (h := ?_)
      refine x_V1 mX6_129 dX6_partRead_89 rfl (s_passesSign (by omega) hR3.1 (fun m4 hc4 hS4 => ?_)) (hdp := by omega)
      have hR4 := hR3.leaf hS4 (hc4.wk (by decide)) psX_r (fun z => psX_0.symm.trans z)
      refine x_if_ne (tgt := 104) dX6_partRead_92 (by decide) (zi_r _) (fun h92 => ?_) (fun h92 => ?_)
      · have hy := zi_1.mp h92
        refine x_aload_n dX6_partRead_104 rfl ?_
        refine x_dup dX6_partRead_105 vr_cat ?_
        refine x_getI fX6_138 dX6_partRead_106 rfl ?_
        refine x_top ((hc4.2 15 (by decide)).trans h335) ?_
        refine x_iconst dX6_partRead_109 ?_
        refine x_isub dX6_partRead_110 ?_
        refine x_top (show 4 - (k : Int) - 1 = m 96 15 by rw [h15]; omega) ?_
        refine x_putI fX6_138 dX6_partRead_111 rfl (by decide) rfl rfl ?_
        exact x_vret dX6_partRead_114 (hP _ ((hg3.tr (frM.cg hc4 (by decide))).tr (frM.cg (cg.rf.u (j := 15) (J := [15]) (by decide)) (by decide))) xu_s (by unfold pun; rw [if_pos hyes, pnd_t hy]; exact hR4.op) (fun z => absurd (by unfold pun; rw [if_pos hyes, pnd_t hy]; exact psX_0.trans hz) z))
      · have hy := zi_0.mp h92
        rw [psX_f hy] at hS4 hR4
        obtain ⟨⟨a4, ha4, haN4, hah4⟩, -⟩ := id hS4
        refine x_aload_n dX6_partRead_95 rfl ?_
        refine x_iconst dX6_partRead_96 ?_
        refine x_aload_n dX6_partRead_97 rfl ?_
        refine x_getI fX6_78 dX6_partRead_98 rfl ?_
        refine x_top (ha4) ?_
        refine x_V2 mX6_111 dX6_partRead_101 rfl (s_wrong (k := 1) (p := a4) (by omega) hS4 (fun m5 hc5 hS5 => ?_)) (hdp := by omega)
        refine x_aload_n dX6_partRead_104 rfl ?_
        refine x_dup dX6_partRead_105 vr_cat ?_
        refine x_getI fX6_138 dX6_partRead_106 rfl ?_
        refine x_top ((hc5.2 15 (by decide)).trans ((hc4.2 15 (by decide)).trans h335)) ?_
        refine x_iconst dX6_partRead_109 ?_
        refine x_isub dX6_partRead_110 ?_
        refine x_top (show 4 - (k : Int) - 1 = m 96 15 by rw [h15]; omega) ?_
        refine x_putI fX6_138 dX6_partRead_111 rfl (by decide) rfl rfl ?_
        exact x_vret dX6_partRead_114 (hP _ (((hg3.tr (frM.cg hc4 (by decide))).tr (frM.cg hc5 (by decide))).tr (frM.cg (cg.rf.u (j := 15) (J := [15]) (by decide)) (by decide))) xu_s (by unfold pun; rw [if_pos hyes, pnd_f hy]; exact (hR4.leaf (lC_fl (fun z => by have := hah4 (pskip_1.trans z); rw [pskip_0 z] at this; exact this) hS5) (hc5.wk (by decide)) (pfl_r.trans pskip_r.symm) (fun z => pskip_1.trans (pfl_0 z))).op) (fun _ => by rw [xu_ne (by decide), hc5.1 99 (by decide), hc4.1 99 (by decide), (hR3.2 hz).1 108 (by omega)]; have w := hs3.to hcP hz; have := w.1; have := w.2.1; have := w.2.2; omega))

theorem s_partRead {E : xE} {f : Nat → Nat} {D : Nat → Nat × Nat} {n : Nat} {q : Nat → Int} {N : Nat} : ∀ k : Nat, k ≤ 4 → uM E f D n q N yX6_partRead cX6_partRead 3 (6 + 3 * k) k (pun q N k)
  | 0, _ => um_0
  | k + 1, h => um_s h (s_sumRead (s_productRead (s_partRead k (Nat.le_of_succ_le h)) (pun_c k)) (fun _ h1 h2 => ppr_c (pun_c k) h1 h2))
theorem s_sumRead4 {E : xE} {f : Nat → Nat} {D : Nat → Nat × Nat} {n : Nat} {q : Nat → Int} {N : Nat} : uM E f D n q N yX6_sumRead cX6_sumRead 2 20 4 (psm q N (pun q N 4)) := s_sumRead (s_productRead (s_partRead 4 (Nat.le_refl _)) (pun_c 4)) (fun _ h1 h2 => ppr_c (pun_c 4) h1 h2)
end MPT
