section MTX
set_option maxRecDepth 20000 in
theorem tx_241 {E : xE} {f : Nat → Nat} {D : Nat → Nat × Nat} {n : Nat} {P : xPo} {PX : xPx} {q : Nat → Int} {N : Nat} {m : xM} {r : Nat → Int} (hr : ∀ k, k < 709 → m 99 k = r k) (hK : ∀ m1, ag [98] m m1 → (∀ k, k < 709 → m1 98 k = r k) → xX E (("text", some .int, []), (22, 0, 0), P, PX) RX6 cX6_text 3 0 0 266 [(0, vr E 96)] [] (gS f D n) m1) : ∀ (j k : Nat) (m1 : xM), 709 < k + j → k ≤ 709 → ag [98] m m1 → (∀ z, z < k → m1 98 z = r z) → xX E (("text", some .int, []), (22, 0, 0), P, PX) RX6 cX6_text 3 0 0 241 [(0, vr E 96), (2, vi (k : Int))] [] (gS f D n) m1 := by
  intro j
  induction j with
  | zero => intro k m1 h1 h2; omega
  | succ j ih =>
    intro k m1 h1 h2 ha1 hb
    refine x_iload_n dX6_text_241 rfl ?_
    refine x_sipush dX6_text_242 (h := ?_)
    refine x_icmp_ge (tgt := 266) dX6_text_245 (by decide) (by omega) (fun h245 => ?_) (fun h245 => ?_)
    · exact x_loc (lv' := [(0, vr E 96)]) ⟨rfl, trivial⟩ (hK m1 ha1 (fun z hz => hb z (by omega)))
    · refine x_aload_n dX6_text_248 rfl ?_
      refine x_getR (r := 98) fX6_17 dX6_text_249 rfl rfl ?_
      refine x_iload_n dX6_text_252 rfl ?_
      refine x_aload_n dX6_text_253 rfl ?_
      refine x_getR (r := 99) fX6_20 dX6_text_254 rfl rfl ?_
      refine x_iload_n dX6_text_257 rfl ?_
      refine x_iald (j := k) dX6_text_258 rfl (by omega) (show _ < 709 by omega) (by omega) ?_
      refine x_top (show m1 99 k = r k by rw [ha1 99 (by decide)]; exact hr k (by omega)) ?_
      refine x_iast (j := k) dX6_text_259 rfl (by decide) (by omega) (show _ < 709 by omega) (by omega) ?_
      refine x_iinc dX6_text_260 rfl ?_
      refine x_goto (tgt := 241) dX6_text_263 (by decide) ?_
      exact x_loc (lv' := [(0, vr E 96), (2, vi ((k + 1 : Nat) : Int))]) ⟨rfl, xl_i rfl (by omega), trivial⟩ (ih (k + 1) _ (by omega) (by omega) (ha1.u (by decide)) (lt_s (fun z hz => by rw [xu_if, if_neg (by omega)]; exact hb z hz) (by rw [xu_if, if_pos rfl])))

set_option maxRecDepth 20000 in
theorem tx_201 {E : xE} {f : Nat → Nat} {D : Nat → Nat × Nat} {n : Nat} {P : xPo} {PX : xPx} {q : Nat → Int} {N : Nat} {mB : xM} {v : Nat → Int} {h : List (Nat → Int)} {Z : pX} {mZ : xM} (hZ1 : Z.1 = (ptx q N).1) (hZ2 : Z.2.1 = (ptx q N).2.1) (hZ3 : Z.2.2.2 = (ptx q N).2.2.2) (hvB : mN v mB) (hhB : mH h mB) (hRZ : MR q N Z mZ) (hB : frM mB mZ) (hPA : (ptx q N).1 ≠ 0 → ∀ m', ag [96, 99] mB m' → (∀ j, j ∉ [10, 11, 12, 13, 14, 15, 16] → m' 96 j = mB 96 j) → m' 96 13 = ((ptx q N).2.1 : Int) → P (some (vi (((ptx q N).1 : Int) - 10))) (gS f D n) m') (hPB : (ptx q N).1 = 0 → ∀ m', ag [96, 98, 99, 100] mB m' → (∀ j, j ∉ [5, 10, 11, 12, 13, 14, 15, 16] → m' 96 j = mB 96 j) → m' 96 13 = -1 → mN (ptx q N).2.2.2 m' → mH (psh h v) m' → P (some (vi ((ptx q N).2.2.2 4 + (ptx q N).2.2.2 5))) (gS f D n) m') : xX E (("text", some .int, []), (22, 0, 0), P, PX) RX6 cX6_text 3 0 0 201 [(0, vr E 96)] [] (gS f D n) mZ := by
  have hf := hRZ.1.2.2.1
  have h4 := hRZ.1.2.2.2.2.1
  refine x_aload_n dX6_text_201 rfl ?_
  refine x_aload_n dX6_text_202 rfl ?_
  refine x_getI fX6_72 dX6_text_203 rfl ?_
  refine x_top (hf) ?_
  refine x_if_le (tgt := 216) dX6_text_206 (by decide) (by omega) (fun h206 => ?_) (fun h206 => ?_)
  · have h0 : Z.1 = 0 := by omega
    refine x_iconst dX6_text_216 ?_
    refine x_putI fX6_33 dX6_text_217 rfl (by decide) rfl rfl ?_
    refine x_aload_n dX6_text_220 rfl ?_
    refine x_getI fX6_72 dX6_text_221 rfl ?_
    refine x_top (show _ = ((Z.1 : Nat) : Int) by rw [xu_n (Or.inr (by decide))]; exact hf) ?_
    refine x_if_le (tgt := 235) dX6_text_224 (by decide) (by omega) (fun h224 => ?_) (fun h224 => absurd (by omega) h224)
    refine x_aload_n dX6_text_235 rfl ?_
    refine x_V0 mX6_205 dX6_text_236 rfl (s_keeps (v := v) (h := h) (hvB.ag (S := [96, 99]) (hB.1.u (by decide)) (by decide)) (hhB.ag (by rw [xu_n (Or.inr (by decide))]; exact hB.2 5 (by decide)) (by rw [xu_ne (by decide)]; exact hB.1 100 (by decide))) (fun m2 hg2 hk2 hH2 => ?_))
    refine x_iconst dX6_text_239 ?_
    refine x_istore_n dX6_text_240 ?_
    refine x_loc (lv' := [(0, vr E 96), (2, vi ((0 : Nat) : Int))]) ⟨rfl, rfl, trivial⟩ (tx_241 (q := q) (N := N) (m := m2) (r := (ptx q N).2.2.2) (fun k hk => by rw [hg2 99 (by decide), xu_ne (by decide), ← hZ3]; exact (hRZ.2 h0).1 k hk) (fun m3 hg3 hn3 => ?_) 710 0 m2 (by omega) (by omega) ag.rf (fun z hz => by omega))
    refine x_aload_n dX6_text_266 rfl ?_
    refine x_getR (r := 98) fX6_17 dX6_text_267 rfl rfl ?_
    refine x_iconst dX6_text_270 ?_
    refine x_iald (j := 4) dX6_text_271 rfl rfl (show 4 < 709 by omega) (by omega) ?_
    refine x_top (hn3 4 (by omega)) ?_
    refine x_aload_n dX6_text_272 rfl ?_
    refine x_getR (r := 98) fX6_17 dX6_text_273 rfl rfl ?_
    refine x_iconst dX6_text_276 ?_
    refine x_iald (j := 5) dX6_text_277 rfl rfl (show 5 < 709 by omega) (by omega) ?_
    refine x_top (hn3 5 (by omega)) ?_
    refine x_iadd dX6_text_278 ?_
    exact x_iret dX6_text_279  (hPB (by omega) m3 (((hB.1.u (by decide)).tr hg2 (U := [96, 98, 99, 100]) (by decide) (by decide)).tr hg3 (by decide) (by decide)) (fun j hj => by rw [hg3 96 (by decide), hk2 j (fun z => hj (by rw [z]; decide)), xu_n (Or.inr (fun z => hj (by rw [z]; decide)))]; exact hB.2 j (fun z => hj (by revert z; simp; omega))) (by rw [hg3 96 (by decide), hk2 13 (by decide), xu_s]) hn3 (hH2.ag (by rw [hg3 96 (by decide)]) (hg3 100 (by decide))))
  · have h0 : Z.1 ≠ 0 := by omega
    refine x_aload_n dX6_text_209 rfl ?_
    refine x_getI fX6_75 dX6_text_210 rfl ?_
    refine x_top (hRZ.1.2.2.2.1 h0) ?_
    refine x_goto (tgt := 217) dX6_text_213 (by decide) ?_
    refine x_putI fX6_33 dX6_text_217 rfl (by decide) rfl rfl ?_
    refine x_aload_n dX6_text_220 rfl ?_
    refine x_getI fX6_72 dX6_text_221 rfl ?_
    refine x_top (show _ = ((Z.1 : Nat) : Int) by rw [xu_n (Or.inr (by decide))]; exact hf) ?_
    refine x_if_le (tgt := 235) dX6_text_224 (by decide) (by omega) (fun h224 => absurd h224 (by omega)) (fun h224 => ?_)
    refine x_aload_n dX6_text_227 rfl ?_
    refine x_getI fX6_72 dX6_text_228 rfl ?_
    refine x_top (show _ = ((Z.1 : Nat) : Int) by rw [xu_n (Or.inr (by decide))]; exact hf) ?_
    refine x_bipush dX6_text_231 (h := ?_)
    refine x_isub dX6_text_233 ?_
    exact x_iret dX6_text_234  (by rw [hZ1]; exact hPA (by omega) _ (hB.1.u (by decide)) (fun j hj => by rw [xu_n (Or.inr (fun z => hj (by rw [z]; decide)))]; exact hB.2 j (fun z => hj (by revert z; simp; omega))) (by rw [xu_s, hZ2]))

set_option maxRecDepth 20000 in
theorem tx_169 {E : xE} {f : Nat → Nat} {D : Nat → Nat × Nat} {n : Nat} {P : xPo} {PX : xPx} {q : Nat → Int} {N : Nat} {mB : xM} {v : Nat → Int} {h : List (Nat → Int)} (hN6 : N ≤ 600) (hvB : mN v mB) (hhB : mH h mB) (hPA : (ptx q N).1 ≠ 0 → ∀ m', ag [96, 99] mB m' → (∀ j, j ∉ [10, 11, 12, 13, 14, 15, 16] → m' 96 j = mB 96 j) → m' 96 13 = ((ptx q N).2.1 : Int) → P (some (vi (((ptx q N).1 : Int) - 10))) (gS f D n) m') (hPB : (ptx q N).1 = 0 → ∀ m', ag [96, 98, 99, 100] mB m' → (∀ j, j ∉ [5, 10, 11, 12, 13, 14, 15, 16] → m' 96 j = mB 96 j) → m' 96 13 = -1 → mN (ptx q N).2.2.2 m' → mH (psh h v) m' → P (some (vi ((ptx q N).2.2.2 4 + (ptx q N).2.2.2 5))) (gS f D n) m') : ∀ (j : Nat) (Y : pX) (mY : xM), MR q N Y mY → (Y.1 = 0 → Y.2.2.1 ≤ N ∧ 2 ≤ Y.2.2.1 ∧ pK Y.2.2.2 ∧ 600 ≤ j + Y.2.2.1) → pln q N j Y = ptx q N → frM mB mY → mY 96 15 = 0 → xX E (("text", some .int, []), (22, 0, 0), P, PX) RX6 cX6_text 3 0 0 169 [(0, vr E 96)] [] (gS f D n) mY := by
  intro j
  induction j with
  | zero =>
    intro Y mY hRY hY hfin hB h15
    have hf := hRY.1.2.2.1
    have h4 := hRY.1.2.2.2.2.1
    refine x_aload_n dX6_text_169 rfl ?_
    refine x_getI fX6_72 dX6_text_170 rfl ?_
    refine x_top (hf) ?_
    refine x_if_ne (tgt := 201) dX6_text_173 (by decide) (by omega) (fun h173 => ?_) (fun h173 => ?_)
    · have h0 : Y.1 ≠ 0 := by omega
      have hfin9 : Y = ptx q N := hfin
      exact x_loc (lv' := [(0, vr E 96)]) ⟨rfl, trivial⟩ (tx_201 (Z := Y) (by rw [← hfin9]) (by rw [← hfin9]) (by rw [← hfin9]) hvB hhB hRY hB hPA hPB)
    · have h0 : Y.1 = 0 := by omega
      have hY0 := hY h0
      have hsk := skp_b (q := q) hY0.1
      have hsN : (pskip q N Y).2.2.1 ≤ N := by rw [pskip_0 h0]; exact hsk.2.1
      refine x_aload_n dX6_text_176 rfl ?_
      refine x_V0 mX6_84 dX6_text_177 rfl (s_sign hRY.1 (fun m1 r1 hc1 hS1 hr1 hs1 => ?_))
      have hs1 := hs1 h0
      have hR1 : MR q N (pskip q N Y) m1 := hRY.leaf hS1 (hc1.wk (by decide)) pskip_r (fun _ => h0)
      obtain ⟨⟨a1, ha1, haN1, hah1⟩, he1, -⟩ := id hS1
      have haS : a1 = skp q N Y.2.2.1 := (hah1 (pskip_1.trans h0)).trans (by rw [pskip_0 h0]; rfl)
      have hg1 : frM mY m1 := frM.cg hc1 (by decide)
      have hfin9 : Y = ptx q N := hfin
      refine x_if_ne (tgt := 194) dX6_text_180 (by decide) (by omega) (fun h180 => absurd (hs1.2 (by have := hY0.2.2.2; omega)) h180) (fun h180 => ?_)
      refine x_aload_n dX6_text_183 rfl ?_
      refine x_getI fX6_78 dX6_text_184 rfl ?_
      refine x_top (ha1) ?_
      refine x_aload_n dX6_text_187 rfl ?_
      refine x_getI fX6_81 dX6_text_188 rfl ?_
      refine x_top (he1) ?_
      refine x_icmp_ge (tgt := 201) dX6_text_191 (by decide) (by omega) (fun h191 => ?_) (fun h191 => absurd (by have := hY0.2.2.2; omega) h191)
      exact x_loc (lv' := [(0, vr E 96)]) ⟨rfl, trivial⟩ (tx_201 (Z := pskip q N Y) (pskip_1.trans (by rw [← hfin9])) (pskip_2.trans (by rw [← hfin9])) (pskip_r.trans (by rw [← hfin9])) hvB hhB hR1 (hB.tr hg1) hPA hPB)
  | succ j ih =>
    intro Y mY hRY hY hfin hB h15
    have hf := hRY.1.2.2.1
    have h4 := hRY.1.2.2.2.2.1
    refine x_aload_n dX6_text_169 rfl ?_
    refine x_getI fX6_72 dX6_text_170 rfl ?_
    refine x_top (hf) ?_
    refine x_if_ne (tgt := 201) dX6_text_173 (by decide) (by omega) (fun h173 => ?_) (fun h173 => ?_)
    · have h0 : Y.1 ≠ 0 := by omega
      have hfin9 : Y = ptx q N := by rw [← hfin, pln, if_neg h0]
      exact x_loc (lv' := [(0, vr E 96)]) ⟨rfl, trivial⟩ (tx_201 (Z := Y) (by rw [← hfin9]) (by rw [← hfin9]) (by rw [← hfin9]) hvB hhB hRY hB hPA hPB)
    · have h0 : Y.1 = 0 := by omega
      have hY0 := hY h0
      have hsk := skp_b (q := q) hY0.1
      have hsN : (pskip q N Y).2.2.1 ≤ N := by rw [pskip_0 h0]; exact hsk.2.1
      refine x_aload_n dX6_text_176 rfl ?_
      refine x_V0 mX6_84 dX6_text_177 rfl (s_sign hRY.1 (fun m1 r1 hc1 hS1 hr1 hs1 => ?_))
      have hs1 := hs1 h0
      have hR1 : MR q N (pskip q N Y) m1 := hRY.leaf hS1 (hc1.wk (by decide)) pskip_r (fun _ => h0)
      obtain ⟨⟨a1, ha1, haN1, hah1⟩, he1, -⟩ := id hS1
      have haS : a1 = skp q N Y.2.2.1 := (hah1 (pskip_1.trans h0)).trans (by rw [pskip_0 h0]; rfl)
      have hg1 : frM mY m1 := frM.cg hc1 (by decide)
      refine x_if_ne (tgt := 194) dX6_text_180 (by decide) (by omega) (fun h180 => ?_) (fun h180 => ?_)
      · have hlt : skp q N Y.2.2.1 < N := Classical.not_not.mp (fun z => h180 (hs1.2 z))
        refine x_aload_n dX6_text_194 rfl ?_
        refine x_V0 mX6_202 dX6_text_195 rfl (s_lineRead (X := pskip q N Y) (pskip_1.trans h0) hsN hN6 (by rw [pskip_0 h0]; show 2 ≤ skp q N Y.2.2.1; have := hY0.2.1; omega) (by rw [pskip_r]; exact hY0.2.2.1) ((hc1.2 15 (by decide)).trans h15) hR1 (fun m2 hg2 ho2 hR2 => ?_))
        refine x_goto (tgt := 169) dX6_text_198 (by decide) ?_
        exact x_loc (lv' := [(0, vr E 96)]) ⟨rfl, trivial⟩ (ih _ m2 hR2 (fun z => by have k := pline_K (q := q) (N := N) (X := pskip q N Y) (pskip_1.trans h0) hsN hN6 (by rw [pskip_r]; exact hY0.2.2.1) z; exact ⟨k.2.2, by have h1 := k.2.1; rw [pskip_0 h0] at h1; have h2 : skp q N Y.2.2.1 < _ := h1; rw [← pskip_0 h0] at h2; omega, k.1, by have h1 := k.2.1; rw [pskip_0 h0] at h1; have h2 : skp q N Y.2.2.1 < _ := h1; rw [← pskip_0 h0] at h2; have := hY0.2.2.2; omega⟩) (by rw [← hfin, pln, if_pos h0, if_pos hlt]) ((hB.tr hg1).tr hg2) (ho2.trans ((hc1.2 15 (by decide)).trans h15)))
      · refine x_aload_n dX6_text_183 rfl ?_
        refine x_getI fX6_78 dX6_text_184 rfl ?_
        refine x_top (ha1) ?_
        refine x_aload_n dX6_text_187 rfl ?_
        refine x_getI fX6_81 dX6_text_188 rfl ?_
        refine x_top (he1) ?_
        refine x_icmp_ge (tgt := 201) dX6_text_191 (by decide) (by omega) (fun h191 => ?_) (fun h191 => ?_)
        · have hfin9 : Y = ptx q N := by rw [← hfin, pln, if_pos h0, if_neg (by omega)]
          exact x_loc (lv' := [(0, vr E 96)]) ⟨rfl, trivial⟩ (tx_201 (Z := pskip q N Y) (pskip_1.trans (by rw [← hfin9])) (pskip_2.trans (by rw [← hfin9])) (pskip_r.trans (by rw [← hfin9])) hvB hhB hR1 (hB.tr hg1) hPA hPB)
        · have hlt : skp q N Y.2.2.1 < N := by omega
          refine x_aload_n dX6_text_194 rfl ?_
          refine x_V0 mX6_202 dX6_text_195 rfl (s_lineRead (X := pskip q N Y) (pskip_1.trans h0) hsN hN6 (by rw [pskip_0 h0]; show 2 ≤ skp q N Y.2.2.1; have := hY0.2.1; omega) (by rw [pskip_r]; exact hY0.2.2.1) ((hc1.2 15 (by decide)).trans h15) hR1 (fun m2 hg2 ho2 hR2 => ?_))
          refine x_goto (tgt := 169) dX6_text_198 (by decide) ?_
          exact x_loc (lv' := [(0, vr E 96)]) ⟨rfl, trivial⟩ (ih _ m2 hR2 (fun z => by have k := pline_K (q := q) (N := N) (X := pskip q N Y) (pskip_1.trans h0) hsN hN6 (by rw [pskip_r]; exact hY0.2.2.1) z; exact ⟨k.2.2, by have h1 := k.2.1; rw [pskip_0 h0] at h1; have h2 : skp q N Y.2.2.1 < _ := h1; rw [← pskip_0 h0] at h2; omega, k.1, by have h1 := k.2.1; rw [pskip_0 h0] at h1; have h2 : skp q N Y.2.2.1 < _ := h1; rw [← pskip_0 h0] at h2; have := hY0.2.2.2; omega⟩) (by rw [← hfin, pln, if_pos h0, if_pos hlt]) ((hB.tr hg1).tr hg2) (ho2.trans ((hc1.2 15 (by decide)).trans h15)))

set_option maxRecDepth 20000 in
theorem tx_112 {E : xE} {f : Nat → Nat} {D : Nat → Nat × Nat} {n : Nat} {P : xPo} {PX : xPx} {q : Nat → Int} {N : Nat} {mB : xM} {v : Nat → Int} {h : List (Nat → Int)} (hN6 : N ≤ 600) (hvB : mN v mB) (hhB : mH h mB) (h15 : mB 96 15 = 0) (hR : MR q N (0, 0, 0, pr0) mB) (hPA : (ptx q N).1 ≠ 0 → ∀ m', ag [96, 99] mB m' → (∀ j, j ∉ [10, 11, 12, 13, 14, 15, 16] → m' 96 j = mB 96 j) → m' 96 13 = ((ptx q N).2.1 : Int) → P (some (vi (((ptx q N).1 : Int) - 10))) (gS f D n) m') (hPB : (ptx q N).1 = 0 → ∀ m', ag [96, 98, 99, 100] mB m' → (∀ j, j ∉ [5, 10, 11, 12, 13, 14, 15, 16] → m' 96 j = mB 96 j) → m' 96 13 = -1 → mN (ptx q N).2.2.2 m' → mH (psh h v) m' → P (some (vi ((ptx q N).2.2.2 4 + (ptx q N).2.2.2 5))) (gS f D n) m') : xX E (("text", some .int, []), (22, 0, 0), P, PX) RX6 cX6_text 3 0 0 112 [(0, vr E 96)] [] (gS f D n) mB := by
  refine x_aload_n dX6_text_112 rfl ?_
  refine x_ldcS kX6_200 dX6_text_113 ?_
  refine x_V1 mX6_146 dX6_text_115 rfl (s_passesWord (i := 0) (by omega) hR.1 (fun m1 hc1 hS1 => ?_))
  have hR1 := hR.leaf hS1 (hc1.wk (by decide)) pwX_r (fun z => pwX_0.symm.trans z)
  refine x_if_ne (tgt := 130) dX6_text_118 (by decide) (zi_r _) (fun h118 => ?_) (fun h118 => ?_)
  · have hy := zi_1.mp h118
    have hR2 : MR q N (pm0 q N) m1 := by rw [pm0_t hy]; exact hR1
    have hg2 : frM mB m1 := frM.cg hc1 (by decide)
    have ho2 : m1 96 15 = 0 := (hc1.2 15 (by decide)).trans h15
    refine x_aload_n dX6_text_130 rfl ?_
    refine x_getR (r := 99) fX6_20 dX6_text_131 rfl rfl ?_
    refine x_iconst dX6_text_134 ?_
    refine x_aload_n dX6_text_135 rfl ?_
    refine x_iconst dX6_text_136 ?_
    refine x_sipush dX6_text_137 (h := ?_)
    refine x_V2 mX6_155 dX6_text_140 rfl (s_number (by omega) (by omega) hR2.1 (fun m3 v3 hc3 hS3 hv3 hb3 => ?_))
    refine x_iast (j := 0) dX6_text_143 rfl (by decide) rfl (show 0 < 709 by omega) (by omega) ?_
    have hR4 : MR q N (pnum q N 0 0 1000 (pm0 q N)) (xu m3 99 0 v3) := (hR2.leaf hS3 hc3 pnX_r pnX_0).st (by omega) (fun z => hv3 z)
    have hg4 : frM mB (xu m3 99 0 v3) := (hg2.tr (frM.cg hc3 (by decide))).u9
    have ho4 : (xu m3 99 0 v3) 96 15 = 0 := by rw [xu_ne (by decide)]; exact (hc3.2 15 (by decide)).trans ho2
    have hf4 := hR4.1.2.2.1
    have h44 := hR4.1.2.2.2.2.1
    refine x_aload_n dX6_text_144 rfl ?_
    refine x_getI fX6_72 dX6_text_145 rfl ?_
    refine x_top (hf4) ?_
    refine x_if_ne (tgt := 169) dX6_text_148 (by decide) (by omega) (fun h148 => ?_) (fun h148 => ?_)
    · have h0 : (pnum q N 0 0 1000 (pm0 q N)).1 ≠ 0 := by omega
      exact x_loc (lv' := [(0, vr E 96)]) ⟨rfl, trivial⟩ (tx_169 hN6 hvB hhB hPA hPB 600 (pmn q N) _ (by rw [pmn_e]; unfold pnd; rw [if_neg h0]; exact hR4) (fun z => by have k := pmn_K z; exact ⟨k.1, by omega, k.2.2, by omega⟩) rfl hg4 ho4)
    · have h0 : (pnum q N 0 0 1000 (pm0 q N)).1 = 0 := by omega
      refine x_aload_n dX6_text_151 rfl ?_
      refine x_bipush dX6_text_152 (h := ?_)
      refine x_V1 mX6_129 dX6_text_154 rfl (s_passesSign (by omega) hR4.1 (fun m5 hc5 hS5 => ?_))
      have hR5 := hR4.leaf hS5 (hc5.wk (by decide)) psX_r (fun z => psX_0.symm.trans z)
      refine x_if_ne (tgt := 169) dX6_text_157 (by decide) (zi_r _) (fun h157 => ?_) (fun h157 => ?_)
      · have hz := zi_1.mp h157
        exact x_loc (lv' := [(0, vr E 96)]) ⟨rfl, trivial⟩ (tx_169 hN6 hvB hhB hPA hPB 600 (pmn q N) _ (by rw [pmn_e, pnd_t hz]; exact hR5) (fun z => by have k := pmn_K z; exact ⟨k.1, by omega, k.2.2, by omega⟩) rfl (hg4.tr (frM.cg hc5 (by decide))) ((hc5.2 15 (by decide)).trans ho4))
      · have hz := zi_0.mp h157
        rw [psX_f hz] at hS5 hR5
        obtain ⟨⟨a5, ha5, haN5, hah5⟩, -⟩ := id hS5
        refine x_aload_n dX6_text_160 rfl ?_
        refine x_iconst dX6_text_161 ?_
        refine x_aload_n dX6_text_162 rfl ?_
        refine x_getI fX6_78 dX6_text_163 rfl ?_
        refine x_top (ha5) ?_
        refine x_V2 mX6_111 dX6_text_166 rfl (s_wrong (k := 1) (p := a5) (by omega) hS5 (fun m6 hc6 hS6 => ?_))
        exact x_loc (lv' := [(0, vr E 96)]) ⟨rfl, trivial⟩ (tx_169 hN6 hvB hhB hPA hPB 600 (pmn q N) _ (by rw [pmn_e, pnd_f hz]; exact hR5.leaf (lC_fl (fun z => by have := hah5 (pskip_1.trans z); rw [pskip_0 z] at this; exact this) hS6) (hc6.wk (by decide)) (pfl_r.trans pskip_r.symm) (fun z => pskip_1.trans (pfl_0 z))) (fun z => by have k := pmn_K z; exact ⟨k.1, by omega, k.2.2, by omega⟩) rfl ((hg4.tr (frM.cg hc5 (by decide))).tr (frM.cg hc6 (by decide))) ((hc6.2 15 (by decide)).trans ((hc5.2 15 (by decide)).trans ho4)))
  · have hy := zi_0.mp h118
    rw [pwX_f hy] at hS1 hR1
    obtain ⟨⟨a1, ha1, haN1, hah1⟩, -⟩ := id hS1
    have haS : a1 = skp q N 0 := hah1 rfl
    refine x_aload_n dX6_text_121 rfl ?_
    refine x_iconst dX6_text_122 ?_
    refine x_aload_n dX6_text_123 rfl ?_
    refine x_getI fX6_78 dX6_text_124 rfl ?_
    refine x_top (ha1) ?_
    refine x_V2 mX6_111 dX6_text_127 rfl (s_wrong (k := 1) (p := a1) (by omega) hS1 (fun m2 hc2 hS2 => ?_))
    have hR2 : MR q N (pm0 q N) m2 := by rw [pm0_f hy, ← haS]; exact MR.of3 rfl (by decide) hS2
    have hg2 : frM mB m2 := (frM.cg hc1 (by decide)).tr (frM.cg hc2 (by decide))
    have ho2 : m2 96 15 = 0 := (hc2.2 15 (by decide)).trans ((hc1.2 15 (by decide)).trans h15)
    refine x_aload_n dX6_text_130 rfl ?_
    refine x_getR (r := 99) fX6_20 dX6_text_131 rfl rfl ?_
    refine x_iconst dX6_text_134 ?_
    refine x_aload_n dX6_text_135 rfl ?_
    refine x_iconst dX6_text_136 ?_
    refine x_sipush dX6_text_137 (h := ?_)
    refine x_V2 mX6_155 dX6_text_140 rfl (s_number (by omega) (by omega) hR2.1 (fun m3 v3 hc3 hS3 hv3 hb3 => ?_))
    refine x_iast (j := 0) dX6_text_143 rfl (by decide) rfl (show 0 < 709 by omega) (by omega) ?_
    have hR4 : MR q N (pnum q N 0 0 1000 (pm0 q N)) (xu m3 99 0 v3) := (hR2.leaf hS3 hc3 pnX_r pnX_0).st (by omega) (fun z => hv3 z)
    have hg4 : frM mB (xu m3 99 0 v3) := (hg2.tr (frM.cg hc3 (by decide))).u9
    have ho4 : (xu m3 99 0 v3) 96 15 = 0 := by rw [xu_ne (by decide)]; exact (hc3.2 15 (by decide)).trans ho2
    have hf4 := hR4.1.2.2.1
    have h44 := hR4.1.2.2.2.2.1
    refine x_aload_n dX6_text_144 rfl ?_
    refine x_getI fX6_72 dX6_text_145 rfl ?_
    refine x_top (hf4) ?_
    refine x_if_ne (tgt := 169) dX6_text_148 (by decide) (by omega) (fun h148 => ?_) (fun h148 => ?_)
    · have h0 : (pnum q N 0 0 1000 (pm0 q N)).1 ≠ 0 := by omega
      exact x_loc (lv' := [(0, vr E 96)]) ⟨rfl, trivial⟩ (tx_169 hN6 hvB hhB hPA hPB 600 (pmn q N) _ (by rw [pmn_e]; unfold pnd; rw [if_neg h0]; exact hR4) (fun z => by have k := pmn_K z; exact ⟨k.1, by omega, k.2.2, by omega⟩) rfl hg4 ho4)
    · have h0 : (pnum q N 0 0 1000 (pm0 q N)).1 = 0 := by omega
      refine x_aload_n dX6_text_151 rfl ?_
      refine x_bipush dX6_text_152 (h := ?_)
      refine x_V1 mX6_129 dX6_text_154 rfl (s_passesSign (by omega) hR4.1 (fun m5 hc5 hS5 => ?_))
      have hR5 := hR4.leaf hS5 (hc5.wk (by decide)) psX_r (fun z => psX_0.symm.trans z)
      refine x_if_ne (tgt := 169) dX6_text_157 (by decide) (zi_r _) (fun h157 => ?_) (fun h157 => ?_)
      · have hz := zi_1.mp h157
        exact x_loc (lv' := [(0, vr E 96)]) ⟨rfl, trivial⟩ (tx_169 hN6 hvB hhB hPA hPB 600 (pmn q N) _ (by rw [pmn_e, pnd_t hz]; exact hR5) (fun z => by have k := pmn_K z; exact ⟨k.1, by omega, k.2.2, by omega⟩) rfl (hg4.tr (frM.cg hc5 (by decide))) ((hc5.2 15 (by decide)).trans ho4))
      · have hz := zi_0.mp h157
        rw [psX_f hz] at hS5 hR5
        obtain ⟨⟨a5, ha5, haN5, hah5⟩, -⟩ := id hS5
        refine x_aload_n dX6_text_160 rfl ?_
        refine x_iconst dX6_text_161 ?_
        refine x_aload_n dX6_text_162 rfl ?_
        refine x_getI fX6_78 dX6_text_163 rfl ?_
        refine x_top (ha5) ?_
        refine x_V2 mX6_111 dX6_text_166 rfl (s_wrong (k := 1) (p := a5) (by omega) hS5 (fun m6 hc6 hS6 => ?_))
        exact x_loc (lv' := [(0, vr E 96)]) ⟨rfl, trivial⟩ (tx_169 hN6 hvB hhB hPA hPB 600 (pmn q N) _ (by rw [pmn_e, pnd_f hz]; exact hR5.leaf (lC_fl (fun z => by have := hah5 (pskip_1.trans z); rw [pskip_0 z] at this; exact this) hS6) (hc6.wk (by decide)) (pfl_r.trans pskip_r.symm) (fun z => pskip_1.trans (pfl_0 z))) (fun z => by have k := pmn_K z; exact ⟨k.1, by omega, k.2.2, by omega⟩) rfl ((hg4.tr (frM.cg hc5 (by decide))).tr (frM.cg hc6 (by decide))) ((hc6.2 15 (by decide)).trans ((hc5.2 15 (by decide)).trans ho4)))

set_option maxRecDepth 20000 in
theorem tx_84 {E : xE} {f : Nat → Nat} {D : Nat → Nat × Nat} {n : Nat} {P : xPo} {PX : xPx} {q : Nat → Int} {N : Nat} {m : xM} (hK : ∀ m1, ag [99] m m1 → (∀ k, k < 709 → m1 99 k = 0) → xX E (("text", some .int, []), (22, 0, 0), P, PX) RX6 cX6_text 3 0 0 104 [(0, vr E 96)] [] (gS f D n) m1) : ∀ (j k : Nat) (m1 : xM), 709 < k + j → k ≤ 709 → ag [99] m m1 → (∀ z, z < k → m1 99 z = 0) → xX E (("text", some .int, []), (22, 0, 0), P, PX) RX6 cX6_text 3 0 0 84 [(0, vr E 96), (2, vi (k : Int))] [] (gS f D n) m1 := by
  intro j
  induction j with
  | zero => intro k m1 h1 h2; omega
  | succ j ih =>
    intro k m1 h1 h2 ha1 hb
    refine x_iload_n dX6_text_84 rfl ?_
    refine x_sipush dX6_text_85 (h := ?_)
    refine x_icmp_ge (tgt := 104) dX6_text_88 (by decide) (by omega) (fun h88 => ?_) (fun h88 => ?_)
    · exact x_loc (lv' := [(0, vr E 96)]) ⟨rfl, trivial⟩ (hK m1 ha1 (fun z hz => hb z (by omega)))
    · refine x_aload_n dX6_text_91 rfl ?_
      refine x_getR (r := 99) fX6_20 dX6_text_92 rfl rfl ?_
      refine x_iload_n dX6_text_95 rfl ?_
      refine x_iconst dX6_text_96 ?_
      refine x_iast (j := k) dX6_text_97 rfl (by decide) (by omega) (show _ < 709 by omega) (by omega) ?_
      refine x_iinc dX6_text_98 rfl ?_
      refine x_goto (tgt := 84) dX6_text_101 (by decide) ?_
      exact x_loc (lv' := [(0, vr E 96), (2, vi ((k + 1 : Nat) : Int))]) ⟨rfl, xl_i rfl (by omega), trivial⟩ (ih (k + 1) _ (by omega) (by omega) (ha1.u (by decide)) (lt_s (fun z hz => by rw [xu_if, if_neg (by omega)]; exact hb z hz) (by rw [xu_if, if_pos rfl])))

set_option maxRecDepth 20000 in
theorem tx_29 {E : xE} {f : Nat → Nat} {D : Nat → Nat × Nat} {n : Nat} {P : xPo} {PX : xPx} {q : Nat → Int} {N : Nat} {m : xM} (hN6 : N ≤ 600) (hq : ∀ k, k < 600 → -128 ≤ m 101 k ∧ m 101 k ≤ 127) (hK : ∀ m1, ag [102] m m1 → (∀ k, k < N → m1 102 k = m 101 k) → xX E (("text", some .int, []), (22, 0, 0), P, PX) RX6 cX6_text 3 0 0 52 [(0, vr E 96), (1, vi (N : Int))] [] (gS f D n) m1) : ∀ (j k : Nat) (m1 : xM), N < k + j → k ≤ N → ag [102] m m1 → (∀ z, z < k → m1 102 z = m 101 z) → xX E (("text", some .int, []), (22, 0, 0), P, PX) RX6 cX6_text 3 0 0 29 [(0, vr E 96), (1, vi (N : Int)), (2, vi (k : Int))] [] (gS f D n) m1 := by
  intro j
  induction j with
  | zero => intro k m1 h1 h2; omega
  | succ j ih =>
    intro k m1 h1 h2 ha1 hb
    refine x_iload_n dX6_text_29 rfl ?_
    refine x_iload_n dX6_text_30 rfl ?_
    refine x_icmp_ge (tgt := 52) dX6_text_31 (by decide) (by omega) (fun h31 => ?_) (fun h31 => ?_)
    · exact x_loc (lv' := [(0, vr E 96), (1, vi (N : Int))]) ⟨rfl, rfl, trivial⟩ (hK m1 ha1 (fun z hz => hb z (by omega)))
    · refine x_aload_n dX6_text_34 rfl ?_
      refine x_getR (r := 102) fX6_30 dX6_text_35 rfl rfl ?_
      refine x_iload_n dX6_text_38 rfl ?_
      refine x_aload_n dX6_text_39 rfl ?_
      refine x_getR (r := 101) fX6_26 dX6_text_40 rfl rfl ?_
      refine x_iload_n dX6_text_43 rfl ?_
      refine x_bald (j := k) dX6_text_44 rfl (by omega) (show _ < 600 by omega) (by omega) ?_
      refine x_top (show m1 101 k = m 101 k by rw [ha1 101 (by decide)]) ?_
      refine x_bast (j := k) dX6_text_45 rfl (by decide) (by omega) (show _ < 600 by omega) (by omega) (hq k (by omega)) ?_
      refine x_iinc dX6_text_46 rfl ?_
      refine x_goto (tgt := 29) dX6_text_49 (by decide) ?_
      exact x_loc (lv' := [(0, vr E 96), (1, vi (N : Int)), (2, vi ((k + 1 : Nat) : Int))]) ⟨rfl, rfl, xl_i rfl (by omega), trivial⟩ (ih (k + 1) _ (by omega) (by omega) (ha1.u (by decide)) (lt_s (fun z hz => by rw [xu_if, if_neg (by omega)]; exact hb z hz) (by rw [xu_if, if_pos rfl])))

/-- what the model's text leaves -/
def mtR (v : Nat → Int) (h : List (Nat → Int)) (p : Nat) (x : Int) (m m' : xM) (r : Int) : Prop :=
  (¬ (0 ≤ x ∧ x ≤ (p : Int)) ∧ m' = mrf (xu m 96 0 0) 1 1) ∨
  ((0 ≤ x ∧ x ≤ (p : Int)) ∧ m' 96 0 = 0 ∧ m' 96 8 = 0 ∧ (((ptx (m 101) x.toNat).1 ≠ 0 ∧ r = ((ptx (m 101) x.toNat).1 : Int) - 10 ∧ m' 96 13 = ((ptx (m 101) x.toNat).2.1 : Int) ∧ ag [96, 99, 102] m m' ∧ ∀ j, j ∉ [0, 8, 9, 10, 11, 12, 13, 14, 15, 16] → m' 96 j = m 96 j) ∨
   ((ptx (m 101) x.toNat).1 = 0 ∧ r = (ptx (m 101) x.toNat).2.2.2 4 + (ptx (m 101) x.toNat).2.2.2 5 ∧ m' 96 13 = -1 ∧ ag [96, 98, 99, 100, 102] m m' ∧ (∀ j, j ∉ [0, 5, 8, 9, 10, 11, 12, 13, 14, 15, 16] → m' 96 j = m 96 j) ∧ mN (ptx (m 101) x.toNat).2.2.2 m' ∧ mH (psh h v) m')))
set_option maxRecDepth 20000 in
theorem s_mtext {E : xE} {f : Nat → Nat} {D : Nat → Nat × Nat} {n : Nat} {P : xPo} {PX : xPx}  {m : xM} {v : Nat → Int} {h : List (Nat → Int)} {x : Int} {p : Nat} (hp : m 96 8 = (p : Int)) (hp6 : p ≤ 600) (hq : ∀ k, k < 600 → -128 ≤ m 101 k ∧ m 101 k ≤ 127) (hNv : mN v m) (hHv : mH h m) (hx : -2147483648 ≤ x ∧ x ≤ 2147483647) (hP : ∀ m' r, mtR v h p x m m' r → P (some (vi r)) (gS f D n) m') : xC E (yX6_text, cX6_text, 3, some .int) 22 0 0 [vr E 96, vi x] (gS f D n) m P PX := by
  refine x_enter (by decide) rfl rfl (Nat.le_of_ble_eq_true rfl) ?_
  refine x_aload_n dX6_text_0 rfl ?_
  refine x_iconst dX6_text_1 ?_
  refine x_putI fX6_1 dX6_text_2 rfl (by decide) rfl rfl ?_
  refine x_aload_n dX6_text_5 rfl ?_
  refine x_iload_n dX6_text_6 rfl ?_
  refine x_i2l dX6_text_7 (by omega) ?_
  refine x_lconst0 dX6_text_8 ?_
  refine x_aload_n dX6_text_9 rfl ?_
  refine x_getI fX6_65 dX6_text_10 rfl ?_
  refine x_top (show _ = (p : Int) by rw [xu_n (Or.inr (by decide))]; exact hp) ?_
  refine x_i2l dX6_text_13 (by omega) ?_
  refine x_S3 mX6_122 dX6_text_14 (s_lies (by omega) ?_)
  refine x_iconst dX6_text_17 ?_
  refine x_iconst dX6_text_18 ?_
  refine x_V3 mX6_196 dX6_text_19 rfl (s_isFine (p := 0 ≤ x ∧ x ≤ (p : Int)) (c := 1) (k := 1) th_0 (by omega) (by omega) (fun m1 r1 hf1 => ?_))
  refine x_if_ne (tgt := 27) dX6_text_22 (by decide) hf1.r (fun h22 => ?_) (fun h22 => ?_)
  · obtain ⟨hp1, rfl⟩ := hf1.t h22
    obtain ⟨N, rfl⟩ := nat_of hp1.1
    have hN6 : N ≤ 600 := by omega
    refine x_iconst dX6_text_27 ?_
    refine x_istore_n dX6_text_28 ?_
    refine x_loc (lv' := [(0, vr E 96), (1, vi (N : Int)), (2, vi ((0 : Nat) : Int))]) ⟨rfl, rfl, rfl, trivial⟩ (tx_29 (q := m 101) (m := xu m 96 0 0) hN6 (fun k hk => by rw [xu_ne (by decide)]; exact hq k hk) (fun m2 hg2 hb2 => ?_) (N + 1) 0 _ (by omega) (by omega) ag.rf (fun z hz => by omega))
    refine x_aload_n dX6_text_52 rfl ?_
    refine x_iconst dX6_text_53 ?_
    refine x_putI fX6_65 dX6_text_54 rfl (by decide) rfl rfl ?_
    refine x_aload_n dX6_text_57 rfl ?_
    refine x_iload_n dX6_text_58 rfl ?_
    refine x_putI fX6_81 dX6_text_59 rfl (by decide) rfl rfl ?_
    refine x_aload_n dX6_text_62 rfl ?_
    refine x_iconst dX6_text_63 ?_
    refine x_putI fX6_78 dX6_text_64 rfl (by decide) rfl rfl ?_
    refine x_aload_n dX6_text_67 rfl ?_
    refine x_iconst dX6_text_68 ?_
    refine x_putI fX6_72 dX6_text_69 rfl (by decide) rfl rfl ?_
    refine x_aload_n dX6_text_72 rfl ?_
    refine x_iconst dX6_text_73 ?_
    refine x_putI fX6_138 dX6_text_74 rfl (by decide) rfl rfl ?_
    refine x_aload_n dX6_text_77 rfl ?_
    refine x_iconst dX6_text_78 ?_
    refine x_putI fX6_165 dX6_text_79 rfl (by decide) rfl rfl ?_
    refine x_iconst dX6_text_82 ?_
    refine x_istore_n dX6_text_83 ?_
    refine x_loc (lv' := [(0, vr E 96), (2, vi ((0 : Nat) : Int))]) ⟨rfl, rfl, trivial⟩ (tx_84 (q := m 101) (N := N) (m := (xu (xu (xu (xu (xu (xu m2 96 8 0) 96 9 (N : Int)) 96 10 0) 96 11 0) 96 15 0) 96 16 0)) (fun m3 hg3 hz3 => ?_) 710 0 _ (by omega) (by omega) ag.rf (fun z hz => by omega))
    refine x_aload_n dX6_text_104 rfl ?_
    refine x_getR (r := 99) fX6_20 dX6_text_105 rfl rfl ?_
    refine x_iconst dX6_text_108 ?_
    refine x_bipush dX6_text_109 (h := ?_)
    refine x_iast (j := 1) dX6_text_111 rfl (by decide) rfl (show 1 < 709 by omega) (by omega) ?_
    have hall : ag [96, 99, 102] m (xu m3 99 1 15) := by
      intro c hc
      have e1 : c ≠ 99 := fun z => hc (by rw [z]; decide)
      have e2 : c ≠ 96 := fun z => hc (by rw [z]; decide)
      have e3 : c ≠ 102 := fun z => hc (by rw [z]; decide)
      rw [xu_ne e1, hg3 c (fun z => e1 (List.mem_singleton.mp z)), xu_ne e2, xu_ne e2, xu_ne e2, xu_ne e2, xu_ne e2, xu_ne e2, hg2 c (fun z => e3 (List.mem_singleton.mp z)), xu_ne e2]
    have h96 : ∀ j, (xu m3 99 1 15) 96 j = (xu (xu (xu (xu (xu (xu m2 96 8 0) 96 9 (N : Int)) 96 10 0) 96 11 0) 96 15 0) 96 16 0) 96 j := fun j => by rw [xu_ne (by decide), hg3 96 (by decide)]
    have h9o : ∀ j, j ∉ [0, 8, 9, 10, 11, 15, 16] → (xu m3 99 1 15) 96 j = m 96 j := fun j hj => by
      rw [h96, xu_n (Or.inr (fun z => hj (by rw [z]; decide))), xu_n (Or.inr (fun z => hj (by rw [z]; decide))), xu_n (Or.inr (fun z => hj (by rw [z]; decide))), xu_n (Or.inr (fun z => hj (by rw [z]; decide))), xu_n (Or.inr (fun z => hj (by rw [z]; decide))), xu_n (Or.inr (fun z => hj (by rw [z]; decide))), hg2 96 (by decide), xu_n (Or.inr (fun z => hj (by rw [z]; decide)))]
    have h90 : (xu m3 99 1 15) 96 0 = 0 := by rw [h96, xu_n (Or.inr (by decide)), xu_n (Or.inr (by decide)), xu_n (Or.inr (by decide)), xu_n (Or.inr (by decide)), xu_n (Or.inr (by decide)), xu_n (Or.inr (by decide)), hg2 96 (by decide), xu_s]
    have h98 : (xu m3 99 1 15) 96 8 = 0 := by rw [h96, xu_n (Or.inr (by decide)), xu_n (Or.inr (by decide)), xu_n (Or.inr (by decide)), xu_n (Or.inr (by decide)), xu_n (Or.inr (by decide)), xu_s]
    have hR9 : MR (m 101) N (0, 0, 0, pr0) (xu m3 99 1 15) := by
      refine ⟨⟨⟨0, ?_, Nat.zero_le _, fun _ => rfl⟩, ?_, ?_, fun z => absurd rfl z, Nat.zero_le _, hN6, fun k hk => ?_⟩, fun _ => ⟨fun k hk => ?_, ?_⟩⟩
      · rw [h96, xu_n (Or.inr (by decide)), xu_n (Or.inr (by decide)), xu_n (Or.inr (by decide)), xu_s]; rfl
      · rw [h96, xu_n (Or.inr (by decide)), xu_n (Or.inr (by decide)), xu_n (Or.inr (by decide)), xu_n (Or.inr (by decide)), xu_s]
      · rw [h96, xu_n (Or.inr (by decide)), xu_n (Or.inr (by decide)), xu_s]; rfl
      · refine ⟨?_, hq k (by omega)⟩
        rw [xu_ne (by decide), hg3 102 (by decide)]
        simp only [xu_ne (show (102 : Nat) ≠ 96 by decide)]
        rw [hb2 k hk, xu_ne (by decide)]
      · by_cases e : k = 1
        · subst e; rw [xu_s]; rfl
        · rw [xu_n (Or.inr e), hz3 k hk]; show (0 : Int) = if k = 1 then 15 else 0; rw [if_neg e]
      · rw [h96, xu_s]; rfl
    refine tx_112 (q := m 101) (v := v) (h := h) hN6 (hNv.ag hall (by decide)) (hHv.ag (h9o 5 (by decide)) (hall 100 (by decide))) (by rw [h96, xu_n (Or.inr (by decide)), xu_s]) hR9 (fun z m' k1 k2 k3 => hP m' _ (Or.inr ⟨hp1, (k2 0 (by decide)).trans h90, (k2 8 (by decide)).trans h98, Or.inl ⟨z, rfl, k3, hall.tr k1 (by decide) (by decide), fun j hj => (k2 j (fun y => hj (by revert y; simp; omega))).trans (h9o j (fun y => hj (by revert y; simp; omega)))⟩⟩)) (fun z m' k1 k2 k3 k4 k5 => hP m' _ (Or.inr ⟨hp1, (k2 0 (by decide)).trans h90, (k2 8 (by decide)).trans h98, Or.inr ⟨z, rfl, k3, hall.tr k1 (by decide) (by decide), fun j hj => (k2 j (fun y => hj (by revert y; simp; omega))).trans (h9o j (fun y => hj (by revert y; simp; omega))), k4, k5⟩⟩))
  · obtain ⟨hp1, rfl⟩ := hf1.f h22
    refine x_iconst dX6_text_25 ?_
    exact x_iret dX6_text_26  (hP _ 0 (Or.inl ⟨hp1, rfl⟩))

end MTX
