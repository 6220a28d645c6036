section MLN
noncomputable def pim (q : Nat → Int) (N t i : Nat) (X : pX) : pX := if X.2.2.2 t < 6 then pwX q N i X else (3, skp q N X.2.2.1, X.2.2)
noncomputable def pio (q : Nat → Int) (N b i : Nat) (X : pX) : pX := if X.2.2.2 (900 + b) = 0 then pset (900 + b) 1 (pwX q N i X) else (1, skp q N X.2.2.1, X.2.2)
def imR (q : Nat → Int) (N i : Nat) (X Y : pX) (m' : xM) (r : Int) : Prop := (r = 0 ∧ ¬ pwT q N i X ∧ MR q N (pskip q N X) m') ∨ (r = 1 ∧ pwT q N i X ∧ MR q N Y m')
theorem imR.r {q : Nat → Int} {N i : Nat} {X Y : pX} {m' : xM} {r : Int} (h : imR q N i X Y m' r) : -2147483648 ≤ r ∧ r ≤ 2147483647 := by rcases h with ⟨h, -⟩ | ⟨h, -⟩ <;> omega
theorem imR.f {q : Nat → Int} {N i : Nat} {X Y : pX} {m' : xM} {r : Int} (h : imR q N i X Y m' r) (hr : r = 0) : ¬ pwT q N i X ∧ MR q N (pskip q N X) m' := by
  rcases h with ⟨-, h⟩ | ⟨h, -⟩
  · exact h
  · omega
theorem imR.t {q : Nat → Int} {N i : Nat} {X Y : pX} {m' : xM} {r : Int} (h : imR q N i X Y m' r) (hr : ¬ r = 0) : pwT q N i X ∧ MR q N Y m' := by
  rcases h with ⟨h, -⟩ | ⟨-, h⟩
  · exact absurd h hr
  · exact h
theorem im_w {E : xE} {f : Nat → Nat} {D : Nat → Nat × Nat} {n : Nat} {m : xM} {P : xPo} {PX : xPx} {q : Nat → Int} {N : Nat} {X : pX} {i t : Nat} (hi : i < 13) (ht : t < 6) (hX : X.1 = 0) (hN : X.2.2.1 ≤ N) (hr : 0 ≤ X.2.2.2 t ∧ X.2.2.2 t ≤ 6) (hR : MR q N (pskip q N X) m) (hP : ∀ m' r, frM m m' → m' 96 15 = m 96 15 → imR q N i X (pim q N t i X) m' r → P (some (vi r)) (gS f D n) m') : xC E (yX6_isOneMore, cX6_isOneMore, 4, some .boolean) 6 0 0 [vr E 96, vr E (9 + i), vi (t : Int)] (gS f D n) m P PX := by
  have hb := skp_b (q := q) hN
  refine s_isOneMore (X := pskip q N X) hi ht (pskip_1.trans hX) (by rw [pskip_0 hX]; exact hb.2.1) (by rw [pskip_r]; exact hr) hR (fun hn m' h1 h2 h3 => hP m' 0 h1 h2 (Or.inl ⟨rfl, fun z => hn ((pwT_s hX hN).mpr z), ?_⟩)) (fun hy hc m' h1 h2 h3 => hP m' 1 h1 h2 (Or.inr ⟨rfl, (pwT_s hX hN).mp hy, ?_⟩)) (fun hy hc m' h1 h2 h3 => hP m' 1 h1 h2 (Or.inr ⟨rfl, (pwT_s hX hN).mp hy, ?_⟩))
  · rw [pskip_pskip hN] at h3; exact h3
  · rw [pwX_s hX hN] at h3; rw [pskip_r] at hc; unfold pim; rw [if_pos hc]; exact h3
  · rw [skp_pskip hX hN] at h3; rw [pskip_r] at hc; unfold pim; rw [if_neg hc]; exact h3.fl0 (by decide)
theorem io_w {E : xE} {f : Nat → Nat} {D : Nat → Nat × Nat} {n : Nat} {m : xM} {P : xPo} {PX : xPx} {q : Nat → Int} {N : Nat} {X : pX} {i b : Nat} (hi : i < 13) (hb3 : b < 3) (hX : X.1 = 0) (hN : X.2.2.1 ≤ N) (hK : pK X.2.2.2) (hR : MR q N (pskip q N X) m) (hP : ∀ m' r, frM m m' → m' 96 15 = m 96 15 → imR q N i X (pio q N b i X) m' r → P (some (vi r)) (gS f D n) m') : xC E (yX6_isOnce, cX6_isOnce, 4, some .boolean) 6 0 0 [vr E 96, vr E (9 + i), vi (b : Int)] (gS f D n) m P PX := by
  have hb := skp_b (q := q) hN
  refine s_isOnce (X := pskip q N X) hi hb3 (pskip_1.trans hX) (by rw [pskip_0 hX]; exact hb.2.1) (by rw [pskip_r]; exact hK) hR (fun hn m' h1 h2 h3 => hP m' 0 h1 h2 (Or.inl ⟨rfl, fun z => hn ((pwT_s hX hN).mpr z), ?_⟩)) (fun hy hc m' h1 h2 h3 => hP m' 1 h1 h2 (Or.inr ⟨rfl, (pwT_s hX hN).mp hy, ?_⟩)) (fun hy hc m' h1 h2 h3 => hP m' 1 h1 h2 (Or.inr ⟨rfl, (pwT_s hX hN).mp hy, ?_⟩))
  · rw [pskip_pskip hN] at h3; exact h3
  · rw [pwX_s hX hN] at h3; rw [pskip_r] at hc; unfold pio; rw [if_pos hc]; exact h3
  · rw [skp_pskip hX hN] at h3; rw [pskip_r] at hc; unfold pio; rw [if_neg hc]; exact h3.fl0 (by decide)
set_option maxRecDepth 20000 in
theorem li_183 {E : xE} {f : Nat → Nat} {D : Nat → Nat × Nat} {n : Nat} {m : xM} {P : xPo} {PX : xPx} {q : Nat → Int} {N : Nat} {X : pX} {mY : xM} (hR : MR q N (pst q N X) mY) (hg : frM m mY) (ho : mY 96 15 = m 96 15) (hP : ∀ m', frM m m' → m' 96 15 = m 96 15 → MR q N (pnd q N 59 (pst q N X)) m' → P none (gS f D n) m') : xX E (("lineRead", none, []), (21, 0, 0), P, PX) RX6 cX6_lineRead 3 0 0 183 [(0, vr E 96)] [] (gS f D n) mY := by
  have hf := hR.1.2.2.1
  have h4 := hR.1.2.2.2.2.1
  refine x_aload_n dX6_lineRead_183 rfl ?_
  refine x_getI fX6_72 dX6_lineRead_184 rfl ?_
  refine x_top (hf) ?_
  refine x_if_ne (tgt := 208) dX6_lineRead_187 (by decide) (by omega) (fun h187 => ?_) (fun h187 => ?_)
  · have h0 : (pst q N X).1 ≠ 0 := by omega
    exact x_vret dX6_lineRead_208 (hP mY hg ho (by unfold pnd; rw [if_neg h0]; exact hR))
  · have h0 : (pst q N X).1 = 0 := by omega
    refine x_aload_n dX6_lineRead_190 rfl ?_
    refine x_bipush dX6_lineRead_191 (h := ?_)
    refine x_V1 mX6_129 dX6_lineRead_193 rfl (s_passesSign (by omega) hR.1 (fun m1 hc1 hS1 => ?_))
    have hR1 := hR.leaf hS1 (hc1.wk (by decide)) psX_r (fun z => psX_0.symm.trans z)
    refine x_if_ne (tgt := 208) dX6_lineRead_196 (by decide) (zi_r _) (fun h196 => ?_) (fun h196 => ?_)
    · have hy := zi_1.mp h196
      exact x_vret dX6_lineRead_208 (hP m1 (hg.tr (frM.cg hc1 (by decide))) ((hc1.2 15 (by decide)).trans ho) (by rw [pnd_t hy]; exact hR1))
    · have hy := zi_0.mp h196
      rw [psX_f hy] at hS1 hR1
      obtain ⟨⟨a1, ha1, haN1, hah1⟩, -⟩ := id hS1
      refine x_aload_n dX6_lineRead_199 rfl ?_
      refine x_iconst dX6_lineRead_200 ?_
      refine x_aload_n dX6_lineRead_201 rfl ?_
      refine x_getI fX6_78 dX6_lineRead_202 rfl ?_
      refine x_top (ha1) ?_
      refine x_V2 mX6_111 dX6_lineRead_205 rfl (s_wrong (k := 1) (p := a1) (by omega) hS1 (fun m2 hc2 hS2 => ?_))
      exact x_vret dX6_lineRead_208 (hP m2 ((hg.tr (frM.cg hc1 (by decide))).tr (frM.cg hc2 (by decide))) ((hc2.2 15 (by decide)).trans ((hc1.2 15 (by decide)).trans ho)) (by rw [pnd_f hy]; exact hR1.leaf (lC_fl (fun z => by have := hah1 (pskip_1.trans z); rw [pskip_0 z] at this; exact this) hS2) (hc2.wk (by decide)) (pfl_r.trans pskip_r.symm) (fun z => pskip_1.trans (pfl_0 z))))

theorem psX_n {q : Nat → Int} {N : Nat} {X : pX} {c : Int} (h : X.1 ≠ 0) : psX q N c X = X := if_neg h
set_option maxRecDepth 20000 in
theorem s_lineRead {E : xE} {f : Nat → Nat} {D : Nat → Nat × Nat} {n : Nat} {m : xM} {P : xPo} {PX : xPx} {q : Nat → Int} {N : Nat} {X : pX} (hX : X.1 = 0) (hN : X.2.2.1 ≤ N) (hN6 : N ≤ 600) (hh2 : 2 ≤ X.2.2.1) (hK : pK X.2.2.2) (h15 : m 96 15 = 0) (hR : MR q N X m) (hP : ∀ m', frM m m' → m' 96 15 = m 96 15 → MR q N (pnd q N 59 (pst q N X)) m' → P none (gS f D n) m') : xC E (yX6_lineRead, cX6_lineRead, 3, none) 21 0 0 [vr E 96] (gS f D n) m P PX := by
  refine x_enter (by decide) rfl rfl (Nat.le_of_ble_eq_true rfl) ?_
  have hv3 := hK.1.1.2.2.2.1.1
  have hv4 := hK.1.1.2.2.2.2.1.1
  have hv5 := hK.1.1.2.2.2.2.2.1
  obtain ⟨w3, hw3⟩ := nat_of hv3.1
  obtain ⟨w4, hw4⟩ := nat_of hv4.1
  obtain ⟨w5, hw5⟩ := nat_of hv5.1
  obtain ⟨-, k0, k1, k2, k3, k4⟩ := id hK
  refine x_aload_n dX6_lineRead_0 rfl ?_
  refine x_V0 mX6_84 dX6_lineRead_1 rfl (s_sign hR.1 (fun m1 r1 hc1 hS1 hr1 hs1 => ?_))
  have hR1 : MR q N (pskip q N X) m1 := hR.leaf hS1 (hc1.wk (by decide)) pskip_r (fun _ => hX)
  obtain ⟨⟨a1, ha1, haN1, hah1⟩, -⟩ := id hS1
  have haS : a1 = skp q N X.2.2.1 := (hah1 (pskip_1.trans hX)).trans (by rw [pskip_0 hX]; rfl)
  have hg1 : frM m m1 := frM.cg hc1 (by decide)
  have ho1 : m1 96 15 = m 96 15 := hc1.2 15 (by decide)
  refine x_pop dX6_lineRead_4 rfl ?_
  refine x_aload_n dX6_lineRead_5 rfl ?_
  refine x_getI fX6_78 dX6_lineRead_6 rfl ?_
  refine x_top (ha1) ?_
  refine x_istore_n dX6_lineRead_9 ?_
  refine x_aload_n dX6_lineRead_10 rfl ?_
  refine x_ldcS kX6_168 dX6_lineRead_11 ?_
  refine x_iconst dX6_lineRead_13 ?_
  refine x_V2 mX6_170 dX6_lineRead_14 rfl (im_w (i := 1) (t := 3) (by omega) (by omega) hX hN (by omega) hR1 (fun m2 r2 hf2 ho29 hq2 => ?_))
  have hg2 : frM m m2 := hg1.tr hf2
  have ho2 : m2 96 15 = m 96 15 := ho29.trans ho1
  refine x_if_eq (tgt := 34) dX6_lineRead_17 (by decide) hq2.r (fun h17 => ?_) (fun h17 => ?_)
  · obtain ⟨hn2, hR2⟩ := hq2.f h17
    refine x_aload_n dX6_lineRead_34 rfl ?_
    refine x_ldcS kX6_177 dX6_lineRead_35 ?_
    refine x_iconst dX6_lineRead_37 ?_
    refine x_V2 mX6_170 dX6_lineRead_38 rfl (im_w (i := 2) (t := 4) (by omega) (by omega) hX hN (by omega) hR2 (fun m3 r3 hf3 ho39 hq3 => ?_))
    have hg3 : frM m m3 := hg2.tr hf3
    have ho3 : m3 96 15 = m 96 15 := ho39.trans ho2
    refine x_if_eq (tgt := 58) dX6_lineRead_41 (by decide) hq3.r (fun h41 => ?_) (fun h41 => ?_)
    · obtain ⟨hn3, hR3⟩ := hq3.f h41
      refine x_aload_n dX6_lineRead_58 rfl ?_
      refine x_ldcS kX6_182 dX6_lineRead_59 ?_
      refine x_iconst dX6_lineRead_61 ?_
      refine x_V2 mX6_170 dX6_lineRead_62 rfl (im_w (i := 4) (t := 5) (by omega) (by omega) hX hN (by omega) hR3 (fun m4 r4 hf4 ho49 hq4 => ?_))
      have hg4 : frM m m4 := hg3.tr hf4
      have ho4 : m4 96 15 = m 96 15 := ho49.trans ho3
      refine x_if_eq (tgt := 82) dX6_lineRead_65 (by decide) hq4.r (fun h65 => ?_) (fun h65 => ?_)
      · obtain ⟨hn4, hR4⟩ := hq4.f h65
        refine x_aload_n dX6_lineRead_82 rfl ?_
        refine x_ldcS kX6_187 dX6_lineRead_83 ?_
        refine x_iconst dX6_lineRead_85 ?_
        refine x_V2 mX6_189 dX6_lineRead_86 rfl (io_w (i := 6) (b := 0) (by omega) (by omega) hX hN hK hR4 (fun m5 r5 hf5 ho59 hq5 => ?_))
        have hg5 : frM m m5 := hg4.tr hf5
        have ho5 : m5 96 15 = m 96 15 := ho59.trans ho4
        refine x_if_eq (tgt := 106) dX6_lineRead_89 (by decide) hq5.r (fun h89 => ?_) (fun h89 => ?_)
        · obtain ⟨hn5, hR5⟩ := hq5.f h89
          refine x_aload_n dX6_lineRead_106 rfl ?_
          refine x_ldcS kX6_192 dX6_lineRead_107 ?_
          refine x_iconst dX6_lineRead_109 ?_
          refine x_V2 mX6_189 dX6_lineRead_110 rfl (io_w (i := 11) (b := 1) (by omega) (by omega) hX hN hK hR5 (fun m6 r6 hf6 ho69 hq6 => ?_))
          have hg6 : frM m m6 := hg5.tr hf6
          have ho6 : m6 96 15 = m 96 15 := ho69.trans ho5
          refine x_if_eq (tgt := 133) dX6_lineRead_113 (by decide) hq6.r (fun h113 => ?_) (fun h113 => ?_)
          · obtain ⟨hn6, hR6⟩ := hq6.f h113
            refine x_aload_n dX6_lineRead_133 rfl ?_
            refine x_ldcS kX6_194 dX6_lineRead_134 ?_
            refine x_iconst dX6_lineRead_136 ?_
            refine x_V2 mX6_189 dX6_lineRead_137 rfl (io_w (i := 12) (b := 2) (by omega) (by omega) hX hN hK hR6 (fun m7 r7 hf7 ho79 hq7 => ?_))
            have hg7 : frM m m7 := hg6.tr hf7
            have ho7 : m7 96 15 = m 96 15 := ho79.trans ho6
            refine x_if_eq (tgt := 177) dX6_lineRead_140 (by decide) hq7.r (fun h140 => ?_) (fun h140 => ?_)
            · obtain ⟨hn7, hR7⟩ := hq7.f h140
              refine x_aload_n dX6_lineRead_177 rfl ?_
              refine x_iconst dX6_lineRead_178 ?_
              refine x_iload_n dX6_lineRead_179 rfl ?_
              refine x_V2 mX6_111 dX6_lineRead_180 rfl (s_wrong (k := 1) (p := a1) (by omega) hR7.1 (fun m8 hc8 hS8 => ?_))
              exact x_loc (lv' := [(0, vr E 96)]) ⟨rfl, trivial⟩ (li_183 (mY := m8) (by rw [pst_7 hX hn2 hn3 hn4 (fun z => hn5 z.2) (fun z => hn6 z.2) (fun z => hn7 z.2), ← haS]; exact MR.of3 (pskip_1.trans hX) (by decide) hS8) (hg7.tr (frM.cg hc8 (by decide))) ((hc8.2 15 (by decide)).trans ho7) hP)
            · obtain ⟨hy7, hR7⟩ := hq7.t h140
              have hfl7 := hR7.1.2.2.1
              have hl47 := hR7.1.2.2.2.2.1
              refine x_aload_n dX6_lineRead_143 rfl ?_
              refine x_bipush dX6_lineRead_144 (h := ?_)
              refine x_V1 mX6_129 dX6_lineRead_146 rfl (s_passesSign (by omega) hR7.1 (fun m8 hc8 hS8 => ?_))
              have hR8 := hR7.leaf hS8 (hc8.wk (by decide)) psX_r (fun z => psX_0.symm.trans z)
              refine x_if_eq (tgt := 156) dX6_lineRead_149 (by decide) (zi_r _) (fun h149 => ?_) (fun h149 => ?_)
              · have hys := zi_0.mp h149
                refine x_iconst dX6_lineRead_156 ?_
                refine x_istore_n dX6_lineRead_157 ?_
                refine x_aload_n dX6_lineRead_158 rfl ?_
                refine x_getR (r := 99) fX6_20 dX6_lineRead_159 rfl rfl ?_
                refine x_iconst dX6_lineRead_162 ?_
                refine x_iload_n dX6_lineRead_163 rfl ?_
                refine x_aload_n dX6_lineRead_164 rfl ?_
                refine x_iconst dX6_lineRead_165 ?_
                refine x_sipush dX6_lineRead_166 (h := ?_)
                refine x_V2 mX6_155 dX6_lineRead_169 rfl (s_number (by omega) (by omega) hR8.1 (fun m9 v9 hc9 hS9 hv9 hb9 => ?_))
                refine x_imul dX6_lineRead_172 ?_
                refine x_iast (j := 2) dX6_lineRead_173 rfl (by decide) rfl (show 2 < 709 by omega) (by omega) ?_
                have hR9 := (hR8.leaf hS9 hc9 pnX_r pnX_0).st (k := 2) (z := (1 - 2 * zi (psT q N 45 (pio q N 2 12 X))) * pnV q N (psX q N 45 (pio q N 2 12 X))) (z' := 1 * v9) (by omega) (fun z => by rw [zi_f hys, ← hv9 z]; omega)
                refine x_goto (tgt := 183) dX6_lineRead_174 (by decide) ?_
                exact x_loc (lv' := [(0, vr E 96)]) ⟨rfl, trivial⟩ (li_183 (mY := _) (by
                          by_cases h9 : X.2.2.2 902 = 0
                          · rw [pst_6 hn2 hn3 hn4 (fun z => hn5 z.2) (fun z => hn6 z.2) h9 hy7]; rw [show pio q N 2 12 X = pset 902 1 (pwX q N 12 X) from if_pos h9] at hR9; exact hR9
                          · rw [pst_7 hX hn2 hn3 hn4 (fun z => hn5 z.2) (fun z => hn6 z.2) (fun z => h9 z.1)]; rw [show pio q N 2 12 X = (1, skp q N X.2.2.1, X.2.2) from if_neg h9, psX_n (X := (1, skp q N X.2.2.1, X.2.2)) (by show (1 : Nat) ≠ 0; omega), pnX_n (X := (1, skp q N X.2.2.1, X.2.2)) (by show (1 : Nat) ≠ 0; omega)] at hR9; exact (show MR q N (1, skp q N X.2.2.1, _, _) _ from hR9).fl0 (by decide)) ((hg7.tr (frM.cg hc8 (by decide))).tr (frM.cg hc9 (by decide))).u9 (by rw [xu_ne (by decide)]; exact (hc9.2 15 (by decide)).trans ((hc8.2 15 (by decide)).trans ho7)) hP)
              · have hys := zi_1.mp h149
                refine x_iconst dX6_lineRead_152 ?_
                refine x_goto (tgt := 157) dX6_lineRead_153 (by decide) ?_
                refine x_istore_n dX6_lineRead_157 ?_
                refine x_aload_n dX6_lineRead_158 rfl ?_
                refine x_getR (r := 99) fX6_20 dX6_lineRead_159 rfl rfl ?_
                refine x_iconst dX6_lineRead_162 ?_
                refine x_iload_n dX6_lineRead_163 rfl ?_
                refine x_aload_n dX6_lineRead_164 rfl ?_
                refine x_iconst dX6_lineRead_165 ?_
                refine x_sipush dX6_lineRead_166 (h := ?_)
                refine x_V2 mX6_155 dX6_lineRead_169 rfl (s_number (by omega) (by omega) hR8.1 (fun m9 v9 hc9 hS9 hv9 hb9 => ?_))
                refine x_imul dX6_lineRead_172 ?_
                refine x_iast (j := 2) dX6_lineRead_173 rfl (by decide) rfl (show 2 < 709 by omega) (by omega) ?_
                have hR9 := (hR8.leaf hS9 hc9 pnX_r pnX_0).st (k := 2) (z := (1 - 2 * zi (psT q N 45 (pio q N 2 12 X))) * pnV q N (psX q N 45 (pio q N 2 12 X))) (z' := (-1) * v9) (by omega) (fun z => by rw [zi_t hys, ← hv9 z]; omega)
                refine x_goto (tgt := 183) dX6_lineRead_174 (by decide) ?_
                exact x_loc (lv' := [(0, vr E 96)]) ⟨rfl, trivial⟩ (li_183 (mY := _) (by
                          by_cases h9 : X.2.2.2 902 = 0
                          · rw [pst_6 hn2 hn3 hn4 (fun z => hn5 z.2) (fun z => hn6 z.2) h9 hy7]; rw [show pio q N 2 12 X = pset 902 1 (pwX q N 12 X) from if_pos h9] at hR9; exact hR9
                          · rw [pst_7 hX hn2 hn3 hn4 (fun z => hn5 z.2) (fun z => hn6 z.2) (fun z => h9 z.1)]; rw [show pio q N 2 12 X = (1, skp q N X.2.2.1, X.2.2) from if_neg h9, psX_n (X := (1, skp q N X.2.2.1, X.2.2)) (by show (1 : Nat) ≠ 0; omega), pnX_n (X := (1, skp q N X.2.2.1, X.2.2)) (by show (1 : Nat) ≠ 0; omega)] at hR9; exact (show MR q N (1, skp q N X.2.2.1, _, _) _ from hR9).fl0 (by decide)) ((hg7.tr (frM.cg hc8 (by decide))).tr (frM.cg hc9 (by decide))).u9 (by rw [xu_ne (by decide)]; exact (hc9.2 15 (by decide)).trans ((hc8.2 15 (by decide)).trans ho7)) hP)
          · obtain ⟨hy6, hR6⟩ := hq6.t h113
            have hfl6 := hR6.1.2.2.1
            have hl46 := hR6.1.2.2.2.2.1
            refine x_aload_n dX6_lineRead_116 rfl ?_
            refine x_getR (r := 99) fX6_20 dX6_lineRead_117 rfl rfl ?_
            refine x_iconst dX6_lineRead_120 ?_
            refine x_aload_n dX6_lineRead_121 rfl ?_
            refine x_iconst dX6_lineRead_122 ?_
            refine x_sipush dX6_lineRead_123 (h := ?_)
            refine x_V2 mX6_155 dX6_lineRead_126 rfl (s_number (by omega) (by omega) hR6.1 (fun m8 v8 hc8 hS8 hv8 hb8 => ?_))
            refine x_iast (j := 1) dX6_lineRead_129 rfl (by decide) rfl (show 1 < 709 by omega) (by omega) ?_
            have hR8 := (hR6.leaf hS8 hc8 pnX_r pnX_0).st (k := 1) (z := pnV q N (pio q N 1 11 X)) (z' := v8) (by omega) (fun z => hv8 z)
            refine x_goto (tgt := 183) dX6_lineRead_130 (by decide) ?_
            exact x_loc (lv' := [(0, vr E 96)]) ⟨rfl, trivial⟩ (li_183 (mY := _) (by
                      by_cases h9 : X.2.2.2 901 = 0
                      · rw [pst_5 hn2 hn3 hn4 (fun z => hn5 z.2) h9 hy6]; rw [show pio q N 1 11 X = pset 901 1 (pwX q N 11 X) from if_pos h9] at hR8; exact hR8
                      · rw [pst_7 hX hn2 hn3 hn4 (fun z => hn5 z.2) (fun z => h9 z.1) (fun z => wd_11_12 hy6.2 z.2.2)]; rw [show pio q N 1 11 X = (1, skp q N X.2.2.1, X.2.2) from if_neg h9, pnX_n (X := (1, skp q N X.2.2.1, X.2.2)) (by show (1 : Nat) ≠ 0; omega)] at hR8; exact (show MR q N (1, skp q N X.2.2.1, _, _) _ from hR8).fl0 (by decide)) (hg6.tr (frM.cg hc8 (by decide))).u9 (by rw [xu_ne (by decide)]; exact (hc8.2 15 (by decide)).trans ho6) hP)
        · obtain ⟨hy5, hR5⟩ := hq5.t h89
          have hfl5 := hR5.1.2.2.1
          have hl45 := hR5.1.2.2.2.2.1
          refine x_aload_n dX6_lineRead_92 rfl ?_
          refine x_getI fX6_72 dX6_lineRead_93 rfl ?_
          refine x_top (hfl5) ?_
          refine x_if_ne (tgt := 183) dX6_lineRead_96 (by decide) (by omega) (fun h96 => ?_) (fun h96 => ?_)
          · have hz : (pio q N 0 6 X).1 ≠ 0 := by omega
            have h9 : ¬ X.2.2.2 900 = 0 := fun z => hz (by unfold pio; rw [if_pos z]; exact pwX_0.trans hX)
            exact x_loc (lv' := [(0, vr E 96)]) ⟨rfl, trivial⟩ (li_183 (mY := m5) (by rw [pst_7 hX hn2 hn3 hn4 (fun z => h9 z.1) (fun z => wd_6_11 hy5.2 z.2.2) (fun z => wd_6_12 hy5.2 z.2.2)]; unfold pio at hR5; rw [if_neg h9] at hR5; exact hR5) hg5 ho5 hP)
          · have hz : (pio q N 0 6 X).1 = 0 := by omega
            have h9 : X.2.2.2 900 = 0 := Classical.not_not.mp (fun z => by unfold pio at hz; rw [if_neg z] at hz; exact absurd hz (by show (1 : Nat) ≠ 0; omega))
            rw [show pio q N 0 6 X = pset 900 1 (pwX q N 6 X) from if_pos h9] at hR5
            refine x_aload_n dX6_lineRead_99 rfl ?_
            refine x_V0 mX6_141 dX6_lineRead_100 rfl (s_sumRead4 (pset 900 1 (pwX q N 6 X)) m5 _ _ 2 (pwX_0.trans hX) (by omega) ⟨by have := pwX_p (by omega) hN hy5; exact this.2, by rw [pset_ne (by omega), pwX_r, k3 h9]; omega, by rw [pset_ne (by omega), pwX_r, k3 h9]; have := (pwX_p (by omega) hN hy5).1; show _ ≤ 600 + ((pwX q N 6 X).2.2.1 : Int); omega⟩ hR5 (by rw [ho5, h15]; rfl) (fun m8 hf8 ho8 hR8 hb8 => ?_))
            refine x_goto (tgt := 183) dX6_lineRead_103 (by decide) ?_
            exact x_loc (lv' := [(0, vr E 96)]) ⟨rfl, trivial⟩ (li_183 (mY := m8) (by rw [pst_4 hn2 hn3 hn4 h9 hy5]; exact hR8) (hg5.tr hf8) (ho8.trans ho5) hP)
      · obtain ⟨hy4, hR4⟩ := hq4.t h65
        have hfl4 := hR4.1.2.2.1
        have hl44 := hR4.1.2.2.2.2.1
        refine x_aload_n dX6_lineRead_68 rfl ?_
        refine x_getI fX6_72 dX6_lineRead_69 rfl ?_
        refine x_top (hfl4) ?_
        refine x_if_ne (tgt := 183) dX6_lineRead_72 (by decide) (by omega) (fun h72 => ?_) (fun h72 => ?_)
        · have hz : (pim q N 5 4 X).1 ≠ 0 := by omega
          have hge : ¬ X.2.2.2 5 < 6 := fun z => hz (by unfold pim; rw [if_pos z]; exact pwX_0.trans hX)
          exact x_loc (lv' := [(0, vr E 96)]) ⟨rfl, trivial⟩ (li_183 (mY := m4) (by rw [pst_3 hn2 hn3 hy4, if_neg hge]; unfold pim at hR4; rw [if_neg hge] at hR4; exact hR4) hg4 ho4 hP)
        · have hz : (pim q N 5 4 X).1 = 0 := by omega
          have hlt : X.2.2.2 5 < 6 := Classical.not_not.mp (fun z => by unfold pim at hz; rw [if_neg z] at hz; exact absurd hz (by show (3 : Nat) ≠ 0; omega))
          unfold pim at hR4
          rw [if_pos hlt] at hR4
          refine x_aload_n dX6_lineRead_75 rfl ?_
          refine x_V0 mX6_184 dX6_lineRead_76 rfl (s_shipRead (w := w5) (pwX_0.trans hX) (by rw [pwX_t hy4]; exact hy4.2.1) (by rw [pwX_r]; exact hw5) (by omega) hR4 (fun m8 hf8 ho8 hR8 => ?_))
          refine x_goto (tgt := 183) dX6_lineRead_79 (by decide) ?_
          exact x_loc (lv' := [(0, vr E 96)]) ⟨rfl, trivial⟩ (li_183 (mY := m8) (by rw [pst_3 hn2 hn3 hy4, if_pos hlt]; exact hR8) (hg4.tr hf8) (ho8.trans ho4) hP)
    · obtain ⟨hy3, hR3⟩ := hq3.t h41
      have hfl3 := hR3.1.2.2.1
      have hl43 := hR3.1.2.2.2.2.1
      refine x_aload_n dX6_lineRead_44 rfl ?_
      refine x_getI fX6_72 dX6_lineRead_45 rfl ?_
      refine x_top (hfl3) ?_
      refine x_if_ne (tgt := 183) dX6_lineRead_48 (by decide) (by omega) (fun h48 => ?_) (fun h48 => ?_)
      · have hz : (pim q N 4 2 X).1 ≠ 0 := by omega
        have hge : ¬ X.2.2.2 4 < 6 := fun z => hz (by unfold pim; rw [if_pos z]; exact pwX_0.trans hX)
        exact x_loc (lv' := [(0, vr E 96)]) ⟨rfl, trivial⟩ (li_183 (mY := m3) (by rw [pst_2 hn2 hy3, if_neg hge]; unfold pim at hR3; rw [if_neg hge] at hR3; exact hR3) hg3 ho3 hP)
      · have hz : (pim q N 4 2 X).1 = 0 := by omega
        have hlt : X.2.2.2 4 < 6 := Classical.not_not.mp (fun z => by unfold pim at hz; rw [if_neg z] at hz; exact absurd hz (by show (3 : Nat) ≠ 0; omega))
        unfold pim at hR3
        rw [if_pos hlt] at hR3
        refine x_aload_n dX6_lineRead_51 rfl ?_
        refine x_V0 mX6_179 dX6_lineRead_52 rfl (s_barRead (w := w4) (pwX_0.trans hX) (by rw [pwX_t hy3]; exact hy3.2.1) (by rw [pwX_r]; exact hw4) (by omega) hR3 (fun m8 hf8 ho8 hR8 => ?_))
        refine x_goto (tgt := 183) dX6_lineRead_55 (by decide) ?_
        exact x_loc (lv' := [(0, vr E 96)]) ⟨rfl, trivial⟩ (li_183 (mY := m8) (by rw [pst_2 hn2 hy3, if_pos hlt]; exact hR8) (hg3.tr hf8) (ho8.trans ho3) hP)
  · obtain ⟨hy2, hR2⟩ := hq2.t h17
    have hfl2 := hR2.1.2.2.1
    have hl42 := hR2.1.2.2.2.2.1
    refine x_aload_n dX6_lineRead_20 rfl ?_
    refine x_getI fX6_72 dX6_lineRead_21 rfl ?_
    refine x_top (hfl2) ?_
    refine x_if_ne (tgt := 183) dX6_lineRead_24 (by decide) (by omega) (fun h24 => ?_) (fun h24 => ?_)
    · have hz : (pim q N 3 1 X).1 ≠ 0 := by omega
      have hge : ¬ X.2.2.2 3 < 6 := fun z => hz (by unfold pim; rw [if_pos z]; exact pwX_0.trans hX)
      exact x_loc (lv' := [(0, vr E 96)]) ⟨rfl, trivial⟩ (li_183 (mY := m2) (by rw [pst_1 hy2, if_neg hge]; unfold pim at hR2; rw [if_neg hge] at hR2; exact hR2) hg2 ho2 hP)
    · have hz : (pim q N 3 1 X).1 = 0 := by omega
      have hlt : X.2.2.2 3 < 6 := Classical.not_not.mp (fun z => by unfold pim at hz; rw [if_neg z] at hz; exact absurd hz (by show (3 : Nat) ≠ 0; omega))
      unfold pim at hR2
      rw [if_pos hlt] at hR2
      refine x_aload_n dX6_lineRead_27 rfl ?_
      refine x_V0 mX6_174 dX6_lineRead_28 rfl (s_waveRead (w := w3) (pwX_0.trans hX) (by rw [pwX_t hy2]; exact hy2.2.1) (by rw [pwX_r]; exact hw3) (by omega) hR2 (fun m8 hf8 ho8 hR8 => ?_))
      refine x_goto (tgt := 183) dX6_lineRead_31 (by decide) ?_
      exact x_loc (lv' := [(0, vr E 96)]) ⟨rfl, trivial⟩ (li_183 (mY := m8) (by rw [pst_1 hy2, if_pos hlt]; exact hR8) (hg2.tr hf8) (ho8.trans ho2) hP)

end MLN
