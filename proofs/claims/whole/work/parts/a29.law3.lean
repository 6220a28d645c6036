section LY
section C9
variable {v v' : Nat → Int} {h h' : List (Nat → Int)} {f f' : Nat → Nat} {D D' : Nat → Nat × Nat} {n n' : Nat} {m m1 m2 : xM}
theorem cI.o79 (hI : cI v h f D n m) (h7 : m1 40 7 = m 40 7) (ho : ∀ c, c ≠ 40 → c ≠ 79 → c < 96 ∨ 112 ≤ c → m1 c = m c) : cI v h f D n m1 := by
  obtain ⟨i1, i2, i3, i5, i6, p, q1, q2, q3, q4, q5⟩ := hI
  obtain ⟨j0, j1, j2⟩ := i1
  have h41 : hA 41 v v f D m := ⟨j0, hC_41.mpr ⟨j1.1, j2⟩, j1.2.1.2, j1.2.2.1.1, i3.1⟩
  have hmv : ∀ c w, 40 < c → c < 76 → hA c w v f D m → hA c w v f D m1 := fun c w hc0 hc hh => hh.mv rfl rfl (ho _ (by omega) (by omega) (by omega)) (ho _ (by omega) (by omega) (by omega)) (ho _ (by omega) (by omega) (by omega)) (ho _ (by omega) (by omega) (by omega)) (fun y => ho _ (by omega) (by omega) (by omega)) (by rw [h7]; exact Int.le_refl _) (fun _ _ _ _ => rfl)
  obtain ⟨a1, a2, a3, a4, a5⟩ := hmv 41 v (by omega) (by omega) h41
  obtain ⟨b1, b2⟩ := hC_41.mp a2
  refine ⟨⟨j0, ⟨b1, ⟨?_, a3⟩, by rw [ho 41 (by omega) (by omega) (by omega)]; exact j1.2.2.1, by rw [ho 86 (by omega) (by omega) (by omega)]; exact j1.2.2.2⟩, b2⟩, by rw [h7]; exact i2, by rw [h7, ho 41 (by omega) (by omega) (by omega)]; exact i3, i5, i6, p, by rw [ho 45 (by omega) (by omega) (by omega)]; exact q1, q2, by rw [ho 45 (by omega) (by omega) (by omega)]; exact q3, q4, fun i hi => hmv _ _ (by omega) (by omega) (q5 i hi)⟩
  rw [ho 86 (by omega) (by omega) (by omega), ho 87 (by omega) (by omega) (by omega)]; exact j1.2.1.1
theorem kq.rf {L : List Nat} : kq L m m := ⟨fun _ _ _ => rfl, rfl, fun _ _ => rfl⟩
theorem put4_r {q : Nat → Int} {p : Nat} {x : Int} (hq : ∀ k, -128 ≤ q k ∧ q k ≤ 127) : ∀ k, -128 ≤ put4 q p x k ∧ put4 q p x k ≤ 127 := by
  intro k
  unfold put4
  repeat' split
  all_goals first | exact i8_r _ | exact hq k
theorem put20_r {q : Nat → Int} {p : Nat} {a b c d e : Int} (hq : ∀ k, -128 ≤ q k ∧ q k ≤ 127) : ∀ k, -128 ≤ put20 q p a b c d e k ∧ put20 q p a b c d e k ≤ 127 := put4_r (put4_r (put4_r (put4_r (put4_r hq))))
theorem tI_feed {p : Nat} {a b c d e r r' : Int} (hI : tI v h f D n m) (hp : m 40 6 = (p : Int)) (h1 : fdR 40 6 79 p a b c d e m m1 r) (h2 : fdR 96 8 101 p a b c d e (xu m1 96 0 0) m2 r') : r' = r ∧ tI v h f D n m2 ∧ m2 40 7 = m 40 7 := by
  obtain ⟨t1, t2, t3, ⟨p', t4, t5, t6⟩, t7, t8, t9⟩ := id hI
  have hpp : p' = p := by omega
  subst hpp
  rcases h1 with ⟨g1, g2, g3⟩ | ⟨g1, g2, g3, g4, g5, g6⟩
  · rcases h2 with ⟨k1, k2, k3⟩ | ⟨k1, -⟩
    · subst g3 k3
      have := tI_ans hI t1 (m1 := m1) (m2 := xu m1 96 0 0) kq.rf ⟨fun _ _ => rfl, fun _ _ => rfl⟩ (fun k hk => by rw [xu_ne (by omega)]; exact t2 k hk) t3.z
      exact ⟨by omega, this.1, by rw [this.2.2.2]⟩
    · omega
  · rcases h2 with ⟨k1, -⟩ | ⟨k1, k2, k3, k4, k5, k6⟩
    · omega
    · have e1 : ∀ c, c ≠ 96 → c ≠ 101 → m2 c = m1 c := fun c a b => by rw [k3 c (by simp; omega), xu_ne (by omega)]
      have e0 : ∀ c, c ≠ 40 → c ≠ 79 → m1 c = m c := fun c a b => g3 c (by simp; omega)
      have e96 : ∀ j, j ≠ 0 → j ≠ 8 → m2 96 j = m 96 j := fun j a b => by rw [k4 j b, xu_if, if_neg a, e0 96 (by omega) (by omega)]
      have e40 : ∀ j, j ≠ 6 → m2 40 j = m 40 j := fun j a => by rw [e1 40 (by omega) (by omega), g4 j a]
      refine ⟨by omega, ⟨t1.o79 (e40 7 (by omega)) (fun c a b d => by rw [e1 c (by omega) (by omega), e0 c a b]), fun k hk => by rw [e1 98 (by omega) (by omega), e0 98 (by omega) (by omega)]; exact t2 k hk, t3.ag (e96 5 (by omega) (by omega)) (by rw [e1 100 (by omega) (by omega), e0 100 (by omega) (by omega)]), ⟨p' + 20, g1, by rw [e1 40 (by omega) (by omega), g5], k5⟩, ⟨?_, ?_⟩, ?_, fun q hq => ?_⟩, e40 7 (by omega)⟩
      · rw [e1 79 (by omega) (by omega), g6, k6, xu_ne (by omega), e0 101 (by omega) (by omega), t7.1]
      · rw [k6, xu_ne (by omega), e0 101 (by omega) (by omega)]; exact put20_r t7.2
      · rw [e40 8 (by omega), e96 13 (by omega) (by omega)]; exact t8
      · rw [e40 _ (by omega), e1 97 (by omega) (by omega), e0 97 (by omega) (by omega)]; exact t9 q hq
theorem tI_z (hI : tI v h f D n m) (hc : cI v' h' f' D' n' m1) (hk : kq [] m m1) (hN : mN v' m1) (hH : mH h' m1) : tI v' h' f' D' n' (xu m1 96 0 0) ∧ xu m1 96 0 0 40 = m1 40 := by
  have := tI_ans hI hc hk (m2 := xu m1 96 0 0) ⟨fun _ _ => rfl, fun _ _ => rfl⟩ (fun k hk => by rw [xu_ne (by omega)]; exact hN k hk) hH.z
  exact ⟨this.1, xu_ne (by omega)⟩
theorem mN.l {w : Nat → Int} (hN : mN v m) (he : ∀ k, k < 1000 → w k = v k) : mN w m := fun k hk => by rw [he k (by omega)]; exact hN k hk
theorem tI_txA {p : Nat} {x r : Int} (hI : tI v h f D n m) (hc : cI v h f' D n m1) (hk : kq [6, 8] m m1) (h6 : m1 40 6 = 0) (hx : 0 ≤ x ∧ x ≤ (p : Int)) (hfl : (ptx (m 79) x.toNat).1 ≠ 0) (h8 : m1 40 8 = ((ptx (m 79) x.toNat).2.1 : Int)) (ho : mtR v h p x m1 m2 r) : tI v h f' D n m2 ∧ m2 96 0 = 0 ∧ r = ((ptx (m 79) x.toNat).1 : Int) - 10 ∧ m2 111 = m1 111 ∧ m2 40 7 = m 40 7 := by
  obtain ⟨t1, t2, t3, ⟨p', t4, t5, t6⟩, t7, t8, t9⟩ := id hI
  have e101 : m1 101 = m 79 := by rw [hk.1 101 (by omega) (by omega), t7.1]
  rcases ho with ⟨g1, -⟩ | ⟨-, g2, g3, g4⟩
  · exact absurd hx g1
  · rw [e101] at g4
    rcases g4 with ⟨k1, k2, k3, k4, k5⟩ | ⟨k1, -⟩
    · have e1 : ∀ c, c ≠ 96 → c ≠ 99 → c ≠ 102 → m2 c = m1 c := fun c a b d => k4 c (by simp; omega)
      refine ⟨⟨hc.hi (fun c hcc => e1 c (by omega) (by omega) (by omega)), fun k hkk => by rw [e1 98 (by omega) (by omega) (by omega), hk.1 98 (by omega) (by omega)]; exact t2 k hkk, t3.ag (by rw [k5 5 (by decide), hk.1 96 (by omega) (by omega)]) (by rw [e1 100 (by omega) (by omega) (by omega), hk.1 100 (by omega) (by omega)]), ⟨0, by omega, by rw [e1 40 (by omega) (by omega) (by omega)]; exact h6, g3⟩, ?_, ?_, fun q hq => ?_⟩, g2, k2, e1 111 (by omega) (by omega) (by omega), by rw [e1 40 (by omega) (by omega) (by omega), hk.2.2 7 (by decide)]⟩
      · rw [e1 79 (by omega) (by omega) (by omega), e1 101 (by omega) (by omega) (by omega), hk.2.1, hk.1 101 (by omega) (by omega)]; exact t7
      · rw [e1 40 (by omega) (by omega) (by omega), h8, k3]
      · rw [e1 40 (by omega) (by omega) (by omega), e1 97 (by omega) (by omega) (by omega), hk.2.2 _ (by simp; omega), hk.1 97 (by omega) (by omega)]; exact t9 q hq
    · exact absurd k1 hfl
theorem tI_txB {p : Nat} {x r : Int} {w : Nat → Int} (hI : tI v h f D n m) (hc : cI w (psh h v) f' D' n' m1) (hk : kq [6, 7, 8] m m1) (h6 : m1 40 6 = 0) (hx : 0 ≤ x ∧ x ≤ (p : Int)) (hfl : (ptx (m 79) x.toNat).1 = 0) (hw : ∀ k, k < 1000 → w k = (ptx (m 79) x.toNat).2.2.2 k) (h8 : m1 40 8 = -1) (ho : mtR v h p x m1 m2 r) : tI w (psh h v) f' D' n' m2 ∧ m2 96 0 = 0 ∧ r = (ptx (m 79) x.toNat).2.2.2 4 + (ptx (m 79) x.toNat).2.2.2 5 ∧ m2 111 = m1 111 ∧ m2 40 = m1 40 := by
  obtain ⟨t1, t2, t3, ⟨p', t4, t5, t6⟩, t7, t8, t9⟩ := id hI
  have e101 : m1 101 = m 79 := by rw [hk.1 101 (by omega) (by omega), t7.1]
  rcases ho with ⟨g1, -⟩ | ⟨-, g2, g3, g4⟩
  · exact absurd hx g1
  · rw [e101] at g4
    rcases g4 with ⟨k1, -⟩ | ⟨k1, k2, k3, k4, k5, k6, k7⟩
    · exact absurd hfl k1
    · have e1 : ∀ c, c < 96 ∨ 112 ≤ c ∨ c = 97 ∨ c = 101 ∨ c = 111 → m2 c = m1 c := fun c a => k4 c (by simp; omega)
      refine ⟨⟨hc.hi (fun c hcc => e1 c (by omega)), k6.l hw, k7, ⟨0, by omega, by rw [e1 40 (by omega)]; exact h6, g3⟩, ?_, ?_, fun q hq => ?_⟩, g2, k2, e1 111 (by omega), e1 40 (by omega)⟩
      · rw [e1 79 (by omega), e1 101 (by omega), hk.2.1, hk.1 101 (by omega) (by omega)]; exact t7
      · rw [e1 40 (by omega), h8, k3]
      · rw [e1 40 (by omega), e1 97 (by omega), hk.2.2 _ (by simp; omega), hk.1 97 (by omega) (by omega)]; exact t9 q hq
theorem tI_un {r : Int} (hI : tI v h f D n m) {t : Nat} (ht : h.length = t + 1) (hc : cI (vun v (h.getD t (fun _ => 0))) h.dropLast f' D' n' m1) (hk : kq [] m m1) (ho : muR v h m1 m2 r) : r = (t : Int) ∧ tI (vun v (h.getD t (fun _ => 0))) h.dropLast f' D' n' m2 ∧ m2 40 = m1 40 := by
  rcases ho with ⟨g1, -⟩ | ⟨t', v9, g1, g2, g3, g4, g5, g6, g7⟩
  · rw [g1] at ht; cases ht
  · have : t' = t := by omega
    subst this
    have h9 := tI_ans hI hc hk (m2 := m2) ⟨fun c a => g4 c (by simp; omega), fun j a => g5 j (by omega)⟩ ((g2 ▸ g6).l (fun k hk => if_pos hk)) g7
    exact ⟨g3, h9.1, h9.2.2.2⟩
end C9
set_option maxRecDepth 20000 in
theorem af_text {E : xE} {f : Nat → Nat} {D : Nat → Nat × Nat} {n : Nat} {m : xM} {P : xPo} {PX : xPx} {v : Nat → Int} {h : List (Nat → Int)} {i kk nn : Nat} {c : Int} {p : Nat} (hp : m 96 8 = (p : Int)) (hp6 : p ≤ 600) (hq : ∀ k, k < 600 → -128 ≤ m 101 k ∧ m 101 k ≤ 127) (hN : mN v m) (hH : mH h m) (hlen : i + 6 < (E.2.2.2.2.2 1).1) (hl31 : (E.2.2.2.2.2 1).1 < 2147483648) (hsc : ∀ j, -2147483648 ≤ (E.2.2.2.2.2 1).2 j ∧ (E.2.2.2.2.2 1).2 j ≤ 2147483647) (hc : 0 ≤ c ∧ c ≤ 3) (hkk : kk ≤ 600000) (hnn : nn ≤ 7000000) (hQ : ∀ m3 r3, mtR v h p ((E.2.2.2.2.2 1).2 (i + 1)) m m3 r3 → (m3 96 0 = c ∧ (c = 0 → m3 111 0 = r32 r3)) ∧ xX E (("law", some .boolean, []), (25, 600000, 7000000), P, PX) RL cL_law 7 kk nn 2309 [(0, vr E 1), (1, vr E 40), (2, vr E 96), (3, vr E 111), (4, vi (i : Int))] [] (gS f D n) m3) : xX E (("law", some .boolean, []), (25, 600000, 7000000), P, PX) RL cL_law 7 kk nn 268 [(0, vr E 1), (1, vr E 40), (2, vr E 96), (3, vr E 111), (4, vi (i : Int))] [vi c] (gS f D n) m := by
  refine x_istore dL_law_268 ?_
  refine x_aload_n dL_law_270 rfl ?_
  refine x_aload_n dL_law_271 rfl ?_
  refine x_iload dL_law_272 rfl ?_
  refine x_iconst dL_law_274 ?_
  refine x_iadd dL_law_275 ?_
  refine x_siald (j := i + 1) dL_law_276 (by decide) (by decide) (by omega) (by omega) (by omega) ?_
  refine x_callV (as := [vi ((E.2.2.2.2.2 1).2 (i + 1))]) (rest := []) (mc' := 0) (ms' := 0) mL_112 dL_law_277 rfl rfl rfl (by decide) (by decide) hkk hnn (s_mtext hp hp6 hq hN hH (hsc _) (fun m3 r3 ho => ?_))
  obtain ⟨⟨e0, e1⟩, hX9⟩ := hQ m3 r3 ho
  refine x_istore dL_law_280 ?_
  refine x_aload_n dL_law_282 rfl ?_
  refine x_callV (as := []) (rest := []) (mc' := 0) (ms' := 0) mL_113 dL_law_283 rfl rfl rfl (by decide) (by decide) hkk hnn (s_mthrown ?_)
  refine x_ci e0 ?_
  refine x_iload dL_law_286 rfl ?_
  refine x_icmp_T (tgt := 293) dL_law_288 (by decide) ?_
  refine x_iload dL_law_293 rfl ?_
  refine x_if_ne (tgt := 310) dL_law_295 (by decide) (by omega) (fun _ => ?_) (fun hc0 => ?_)
  · refine x_goto (tgt := 2309) dL_law_310 (by decide) ?_
    exact x_loc (lv' := [(0, vr E 1), (1, vr E 40), (2, vr E 96), (3, vr E 111), (4, vi (i : Int))]) ⟨rfl, rfl, rfl, rfl, rfl, trivial⟩ hX9
  · refine x_aload_n dL_law_298 rfl ?_
    refine x_iconst dL_law_299 ?_
    refine x_lald (j := 0) dL_law_300 rfl rfl (by show 0 < 1; decide) (by decide) ?_
    refine x_topl (e1 hc0) ?_
    refine x_iload dL_law_301 rfl ?_
    refine x_i2lz dL_law_303 ?_
    refine x_leq_T (tgt := 310) dL_law_304 dL_law_305 (by decide) ?_
    refine x_goto (tgt := 2309) dL_law_310 (by decide) ?_
    exact x_loc (lv' := [(0, vr E 1), (1, vr E 40), (2, vr E 96), (3, vr E 111), (4, vi (i : Int))]) ⟨rfl, rfl, rfl, rfl, rfl, trivial⟩ hX9

theorem wl_text : Cond.methodLink RL 107 yL_text ∈ xTb := xTb_of 498 (by decide +kernel) (by decide +kernel)
theorem ws_text : Cond.static yL_text ∈ xTb := xTb_of 499 (by decide +kernel) (by decide +kernel)
theorem wc_text : Cond.codeWith yL_text cL_text 4 (some .int) [(0, 9, 12, 13)] ∈ xTb := xTb_of 500 (by decide +kernel) (by decide +kernel)
set_option maxRecDepth 20000 in
theorem lw_text {E : xE} {f : Nat → Nat} {D : Nat → Nat × Nat} {n : Nat} {m : xM} {P : xPo} {PX : xPx} {v : Nat → Int} {h : List (Nat → Int)} {i kk nn : Nat} (hL : eL E) (hI : tI v h f D n m) (hT : m 40 7 < 100000) (hlen : i + 6 < (E.2.2.2.2.2 1).1) (hl31 : (E.2.2.2.2.2 1).1 < 2147483648) (hsc : ∀ j, -2147483648 ≤ (E.2.2.2.2.2 1).2 j ∧ (E.2.2.2.2.2 1).2 j ≤ 2147483647) (hkk : kk + 8 ≤ 600000) (hnn : nn + 640 ≤ 7000000) (hK : ∀ v' h' f' D' n' m', tI v' h' f' D' n' m' → m' 40 7 ≤ m 40 7 + 1 → xX E (("law", some .boolean, []), (25, 600000, 7000000), P, PX) RL cL_law 7 (kk + 8) (nn + 640) 2309 [(0, vr E 1), (1, vr E 40), (2, vr E 96), (3, vr E 111), (4, vi (i : Int))] [] (gS f' D' n') m') : xX E (("law", some .boolean, []), (25, 600000, 7000000), P, PX) RL cL_law 7 kk nn 257 [(0, vr E 1), (1, vr E 40), (2, vr E 96), (3, vr E 111), (4, vi (i : Int))] [] (gS f D n) m := by
  obtain ⟨t1, t2, t3, ⟨p, t4, t5, t6⟩, t7, t8, t9⟩ := id hI
  refine x_aload_n dL_law_257 rfl ?_
  refine x_aload_n dL_law_258 rfl ?_
  refine x_iload dL_law_259 rfl ?_
  refine x_iconst dL_law_261 ?_
  refine x_iadd dL_law_262 ?_
  refine x_siald (j := i + 1) dL_law_263 (by decide) (by decide) (by omega) (by omega) (by omega) ?_
  refine x_aload_n dL_law_264 rfl ?_
  have hP9 : ∀ (L : List Nat) (m' : xM), kq L m m' → m' 96 8 = (p : Int) ∧ ∀ k, k < 600 → -128 ≤ m' 101 k ∧ m' 101 k ≤ 127 := fun L m' hk => ⟨by rw [hk.1 96 (by omega) (by omega)]; exact t6, fun k _ => by rw [hk.1 101 (by omega) (by omega)]; exact t7.2 k⟩
  refine x_callSH (na := 3) (as := [vr E 40, vi ((E.2.2.2.2.2 1).2 (i + 1)), vr E 111]) (rest := []) (hy := [(0, 9, 12, 13)]) wl_text ws_text wc_text qSL (by decide) (by decide +kernel) (by decide) dL_law_265 rfl rfl (by decide) (by decide) (by omega) (by omega) (s_wtext hL hI.1 (hsc _) t5 t4 (fun k hk => by rw [t7.1]; exact t7.2 k) hT (fun hx n' m' hc hk hu => ?_) (fun hx hfl m' f' hc hk h6 h8 h111 => ?_) (fun hx hfl f' D' n' m' hc hk h6 h8 h7 h111 => ?_))
  · refine af_text (p := p) (v := v) (h := h) (hP9 _ _ hk).1 t4 (hP9 _ _ hk).2 (hI.N hk) (hI.H hk) hlen hl31 hsc (by omega) (by omega) (by omega) (fun m3 r3 ho => ?_)
    rcases ho with ⟨-, rfl⟩ | ⟨g1, -⟩
    · have h9 := tI_ref (k := 1) hI hc hk hu (by omega) mk0.rf
      exact ⟨⟨h9.2.1, fun z => by omega⟩, (hK _ _ _ _ _ _ h9.1 (by rw [h9.2.2, hk.2.2 7 (by simp)]; omega))⟩
    · exact absurd g1 hx
  · refine af_text (p := p) (v := v) (h := h) (hP9 _ _ hk).1 t4 (hP9 _ _ hk).2 (hI.N hk) (hI.H hk) hlen hl31 hsc (by omega) (by omega) (by omega) (fun m3 r3 ho => ?_)
    obtain ⟨g1, g2, g3, g4, g5⟩ := tI_txA hI hc hk h6 hx hfl h8 ho
    exact ⟨⟨g2, fun _ => by rw [g4, g3]; exact h111⟩, hK _ _ _ _ _ _ g1 (by omega)⟩
  · refine af_text (p := p) (v := v) (h := h) (hP9 _ _ hk).1 t4 (hP9 _ _ hk).2 (hI.N hk) (hI.H hk) hlen hl31 hsc (by omega) (by omega) (by omega) (fun m3 r3 ho => ?_)
    obtain ⟨g1, g2, g3, g4, g5⟩ := tI_txB hI hc hk h6 hx hfl (fun k hk => vtx_l hk) h8 ho
    exact ⟨⟨g2, fun _ => by rw [g4, g3]; exact h111⟩, hK _ _ _ _ _ _ g1 (by rw [g5]; omega)⟩

set_option maxRecDepth 20000 in
theorem lw_feed {E : xE} {f : Nat → Nat} {D : Nat → Nat × Nat} {n : Nat} {m : xM} {P : xPo} {PX : xPx} {v : Nat → Int} {h : List (Nat → Int)} {i kk nn : Nat} (hE : eOk E) (hI : tI v h f D n m) (hlen : i + 6 < (E.2.2.2.2.2 1).1) (hl31 : (E.2.2.2.2.2 1).1 < 2147483648) (hsc : ∀ j, -2147483648 ≤ (E.2.2.2.2.2 1).2 j ∧ (E.2.2.2.2.2 1).2 j ≤ 2147483647) (hkk : kk + 8 ≤ 600000) (hnn : nn + 640 ≤ 7000000) (hK : ∀ v' h' f' D' n' m', tI v' h' f' D' n' m' → m' 40 7 ≤ m 40 7 + 1 → xX E (("law", some .boolean, []), (25, 600000, 7000000), P, PX) RL cL_law 7 (kk + 8) (nn + 640) 2309 [(0, vr E 1), (1, vr E 40), (2, vr E 96), (3, vr E 111), (4, vi (i : Int))] [] (gS f' D' n') m') : xX E (("law", some .boolean, []), (25, 600000, 7000000), P, PX) RL cL_law 7 kk nn 184 [(0, vr E 1), (1, vr E 40), (2, vr E 96), (3, vr E 111), (4, vi (i : Int))] [] (gS f D n) m := by
  obtain ⟨t1, t2, t3, ⟨p, t4, t5, t6⟩, t7, t8, t9⟩ := id hI
  refine x_aload_n dL_law_184 rfl ?_
  refine x_aload_n dL_law_185 rfl ?_
  refine x_iload dL_law_186 rfl ?_
  refine x_iconst dL_law_188 ?_
  refine x_iadd dL_law_189 ?_
  refine x_siald (j := i + 1) dL_law_190 (by decide) (by decide) (by omega) (by omega) (by omega) ?_
  refine x_aload_n dL_law_191 rfl ?_
  refine x_iload dL_law_192 rfl ?_
  refine x_iconst dL_law_194 ?_
  refine x_iadd dL_law_195 ?_
  refine x_siald (j := i + 2) dL_law_196 (by decide) (by decide) (by omega) (by omega) (by omega) ?_
  refine x_aload_n dL_law_197 rfl ?_
  refine x_iload dL_law_198 rfl ?_
  refine x_iconst dL_law_200 ?_
  refine x_iadd dL_law_201 ?_
  refine x_siald (j := i + 3) dL_law_202 (by decide) (by decide) (by omega) (by omega) (by omega) ?_
  refine x_aload_n dL_law_203 rfl ?_
  refine x_iload dL_law_204 rfl ?_
  refine x_iconst dL_law_206 ?_
  refine x_iadd dL_law_207 ?_
  refine x_siald (j := i + 4) dL_law_208 (by decide) (by decide) (by omega) (by omega) (by omega) ?_
  refine x_aload_n dL_law_209 rfl ?_
  refine x_iload dL_law_210 rfl ?_
  refine x_iconst dL_law_212 ?_
  refine x_iadd dL_law_213 ?_
  refine x_siald (j := i + 5) dL_law_214 (by decide) (by decide) (by omega) (by omega) (by omega) ?_
  refine x_callV (as := [vi ((E.2.2.2.2.2 1).2 (i + 1)), vi ((E.2.2.2.2.2 1).2 (i + 2)), vi ((E.2.2.2.2.2 1).2 (i + 3)), vi ((E.2.2.2.2.2 1).2 (i + 4)), vi ((E.2.2.2.2.2 1).2 (i + 5))]) (rest := []) (mc' := 0) (ms' := 0) mL_103 dL_law_215 rfl rfl rfl (Nat.le_of_ble_eq_true rfl) (by decide) (by omega) (by omega) (s_feed t5 t4 (fun m1 r1 ho1 => ?_))
  have hp1 : m1 96 8 = (p : Int) := by
    rcases ho1 with ⟨-, -, rfl⟩ | ⟨-, -, g3, -⟩
    · exact t6
    · rw [g3 96 (by simp)]; exact t6
  refine x_aload_n dL_law_218 rfl ?_
  refine x_aload_n dL_law_219 rfl ?_
  refine x_iload dL_law_220 rfl ?_
  refine x_iconst dL_law_222 ?_
  refine x_iadd dL_law_223 ?_
  refine x_siald (j := i + 1) dL_law_224 (by decide) (by decide) (by omega) (by omega) (by omega) ?_
  refine x_aload_n dL_law_225 rfl ?_
  refine x_iload dL_law_226 rfl ?_
  refine x_iconst dL_law_228 ?_
  refine x_iadd dL_law_229 ?_
  refine x_siald (j := i + 2) dL_law_230 (by decide) (by decide) (by omega) (by omega) (by omega) ?_
  refine x_aload_n dL_law_231 rfl ?_
  refine x_iload dL_law_232 rfl ?_
  refine x_iconst dL_law_234 ?_
  refine x_iadd dL_law_235 ?_
  refine x_siald (j := i + 3) dL_law_236 (by decide) (by decide) (by omega) (by omega) (by omega) ?_
  refine x_aload_n dL_law_237 rfl ?_
  refine x_iload dL_law_238 rfl ?_
  refine x_iconst dL_law_240 ?_
  refine x_iadd dL_law_241 ?_
  refine x_siald (j := i + 4) dL_law_242 (by decide) (by decide) (by omega) (by omega) (by omega) ?_
  refine x_aload_n dL_law_243 rfl ?_
  refine x_iload dL_law_244 rfl ?_
  refine x_iconst dL_law_246 ?_
  refine x_iadd dL_law_247 ?_
  refine x_siald (j := i + 5) dL_law_248 (by decide) (by decide) (by omega) (by omega) (by omega) ?_
  refine x_callV (as := [vi ((E.2.2.2.2.2 1).2 (i + 1)), vi ((E.2.2.2.2.2 1).2 (i + 2)), vi ((E.2.2.2.2.2 1).2 (i + 3)), vi ((E.2.2.2.2.2 1).2 (i + 4)), vi ((E.2.2.2.2.2 1).2 (i + 5))]) (rest := [vi r1]) (mc' := 0) (ms' := 0) mL_106 dL_law_249 rfl rfl rfl (Nat.le_of_ble_eq_true rfl) (by decide) (by omega) (by omega) (s_mfeed hp1 t4 (fun m2 r2 ho2 => ?_))
  obtain ⟨g1, g2, g3⟩ := tI_feed hI t5 ho1 ho2
  subst g1
  refine x_icmp_T (tgt := 2309) dL_law_252 (by decide) ?_
  exact x_wide (by omega) (by omega) (hK _ _ _ _ _ _ g2 (by omega))

set_option maxRecDepth 20000 in
theorem lw_fault {E : xE} {f : Nat → Nat} {D : Nat → Nat × Nat} {n : Nat} {m : xM} {P : xPo} {PX : xPx} {v : Nat → Int} {h : List (Nat → Int)} {i kk nn : Nat} (hE : eOk E) (hI : tI v h f D n m) (hlen : i + 6 < (E.2.2.2.2.2 1).1) (hl31 : (E.2.2.2.2.2 1).1 < 2147483648) (hsc : ∀ j, -2147483648 ≤ (E.2.2.2.2.2 1).2 j ∧ (E.2.2.2.2.2 1).2 j ≤ 2147483647) (hkk : kk + 8 ≤ 600000) (hnn : nn + 640 ≤ 7000000) (hK : ∀ v' h' f' D' n' m', tI v' h' f' D' n' m' → m' 40 7 ≤ m 40 7 + 1 → xX E (("law", some .boolean, []), (25, 600000, 7000000), P, PX) RL cL_law 7 (kk + 8) (nn + 640) 2309 [(0, vr E 1), (1, vr E 40), (2, vr E 96), (3, vr E 111), (4, vi (i : Int))] [] (gS f' D' n') m') : xX E (("law", some .boolean, []), (25, 600000, 7000000), P, PX) RL cL_law 7 kk nn 313 [(0, vr E 1), (1, vr E 40), (2, vr E 96), (3, vr E 111), (4, vi (i : Int))] [] (gS f D n) m := by
  obtain ⟨t1, t2, t3, ⟨p, t4, t5, t6⟩, t7, t8, t9⟩ := id hI
  refine x_aload_n dL_law_313 rfl ?_
  refine x_callV (as := []) (rest := []) (mc' := 8) (ms' := 64) mL_117 dL_law_314 rfl rfl rfl (Nat.le_of_ble_eq_true rfl) (by decide) (by omega) (by omega) (s_cfault ?_)
  refine x_aload_n dL_law_317 rfl ?_
  refine x_callV (as := []) (rest := [vi (m 40 8)]) (mc' := 0) (ms' := 0) mL_120 dL_law_318 rfl rfl rfl (Nat.le_of_ble_eq_true rfl) (by decide) (by omega) (by omega) (s_mfault ?_)
  rw [t8]
  refine x_icmp_T (tgt := 2309) dL_law_321 (by decide) ?_
  have h9 := tI_z hI t1 kq.rf t2 t3
  exact x_wide (by omega) (by omega) (hK _ _ _ _ _ _ h9.1 (by rw [h9.2]; omega))

set_option maxRecDepth 20000 in
theorem lw_aground {E : xE} {f : Nat → Nat} {D : Nat → Nat × Nat} {n : Nat} {m : xM} {P : xPo} {PX : xPx} {v : Nat → Int} {h : List (Nat → Int)} {i kk nn : Nat} (hE : eOk E) (hI : tI v h f D n m) (hlen : i + 6 < (E.2.2.2.2.2 1).1) (hl31 : (E.2.2.2.2.2 1).1 < 2147483648) (hsc : ∀ j, -2147483648 ≤ (E.2.2.2.2.2 1).2 j ∧ (E.2.2.2.2.2 1).2 j ≤ 2147483647) (hkk : kk + 8 ≤ 600000) (hnn : nn + 640 ≤ 7000000) (hK : ∀ v' h' f' D' n' m', tI v' h' f' D' n' m' → m' 40 7 ≤ m 40 7 + 1 → xX E (("law", some .boolean, []), (25, 600000, 7000000), P, PX) RL cL_law 7 (kk + 8) (nn + 640) 2309 [(0, vr E 1), (1, vr E 40), (2, vr E 96), (3, vr E 111), (4, vi (i : Int))] [] (gS f' D' n') m') : xX E (("law", some .boolean, []), (25, 600000, 7000000), P, PX) RL cL_law 7 kk nn 2257 [(0, vr E 1), (1, vr E 40), (2, vr E 96), (3, vr E 111), (4, vi (i : Int))] [] (gS f D n) m := by
  obtain ⟨t1, t2, t3, ⟨p, t4, t5, t6⟩, t7, t8, t9⟩ := id hI
  refine x_aload_n dL_law_2257 rfl ?_
  refine x_callV (as := []) (rest := []) (mc' := 0) (ms' := 0) mL_205 dL_law_2258 rfl rfl rfl (Nat.le_of_ble_eq_true rfl) (by decide) (by omega) (by omega) (s_aground hE t1.1 (fun m1 ha1 hT1 => ?_))
  have hI1 := t1.ask ha1 hT1 (by decide)
  have hk1 : kq [] m m1 := kp_q (kp.ag ha1 (by decide))
  refine x_aload_n dL_law_2261 rfl ?_
  refine x_callV (as := []) (rest := [vi ((cset (agS v) (v 5).toNat : Nat) : Int)]) (mc' := 0) (ms' := 0) mL_208 dL_law_2262 rfl rfl rfl (Nat.le_of_ble_eq_true rfl) (by decide) (by omega) (by omega) (s_maground t1.1.1 (hI.N hk1) (fun m2 ha2 => ?_))
  refine x_icmp_T (tgt := 2309) dL_law_2265 (by decide) ?_
  have hz := mk0.ag ha2 (by decide)
  have h9 := tI_ans hI hI1 hk1 hz.two (hz.N (hI.N hk1)) (hz.H (hI.H hk1))
  exact x_wide (by omega) (by omega) (hK _ _ _ _ _ _ h9.1 (by rw [h9.2.2.2, hk1.2.2 7 (by simp)]; omega))

set_option maxRecDepth 20000 in
theorem lw_print {E : xE} {f : Nat → Nat} {D : Nat → Nat × Nat} {n : Nat} {m : xM} {P : xPo} {PX : xPx} {v : Nat → Int} {h : List (Nat → Int)} {i kk nn : Nat} (hE : eOk E) (hI : tI v h f D n m) (hlen : i + 6 < (E.2.2.2.2.2 1).1) (hl31 : (E.2.2.2.2.2 1).1 < 2147483648) (hsc : ∀ j, -2147483648 ≤ (E.2.2.2.2.2 1).2 j ∧ (E.2.2.2.2.2 1).2 j ≤ 2147483647) (hkk : kk + 8 ≤ 600000) (hnn : nn + 640 ≤ 7000000) (hK : ∀ v' h' f' D' n' m', tI v' h' f' D' n' m' → m' 40 7 ≤ m 40 7 + 1 → xX E (("law", some .boolean, []), (25, 600000, 7000000), P, PX) RL cL_law 7 (kk + 8) (nn + 640) 2309 [(0, vr E 1), (1, vr E 40), (2, vr E 96), (3, vr E 111), (4, vi (i : Int))] [] (gS f' D' n') m') : xX E (("law", some .boolean, []), (25, 600000, 7000000), P, PX) RL cL_law 7 kk nn 2270 [(0, vr E 1), (1, vr E 40), (2, vr E 96), (3, vr E 111), (4, vi (i : Int))] [] (gS f D n) m := by
  obtain ⟨t1, t2, t3, ⟨p, t4, t5, t6⟩, t7, t8, t9⟩ := id hI
  refine x_aload_n dL_law_2270 rfl ?_
  refine x_callV (as := []) (rest := []) (mc' := 0) (ms' := 0) mL_209 dL_law_2271 rfl rfl rfl (Nat.le_of_ble_eq_true rfl) (by decide) (by omega) (by omega) (s_print t1.1.1.1 t1.1.2.1.1 ?_)
  refine x_aload_n dL_law_2274 rfl ?_
  refine x_callV (as := []) (rest := [vl (31 * prS v (v 5).toNat + v 2)]) (mc' := 0) (ms' := 0) mL_213 dL_law_2275 rfl rfl rfl (Nat.le_of_ble_eq_true rfl) (by decide) (by omega) (by omega) (s_mprint t1.1.1 t2 ?_)
  refine x_leq_T (tgt := 2309) dL_law_2278 dL_law_2279 (by decide) ?_
  have h9 := tI_z hI t1 kq.rf t2 t3
  exact x_wide (by omega) (by omega) (hK _ _ _ _ _ _ h9.1 (by rw [h9.2]; omega))

set_option maxRecDepth 20000 in
theorem lw_status {E : xE} {f : Nat → Nat} {D : Nat → Nat × Nat} {n : Nat} {m : xM} {P : xPo} {PX : xPx} {v : Nat → Int} {h : List (Nat → Int)} {i kk nn : Nat} (hE : eOk E) (hI : tI v h f D n m) (hlen : i + 6 < (E.2.2.2.2.2 1).1) (hl31 : (E.2.2.2.2.2 1).1 < 2147483648) (hsc : ∀ j, -2147483648 ≤ (E.2.2.2.2.2 1).2 j ∧ (E.2.2.2.2.2 1).2 j ≤ 2147483647) (hkk : kk + 8 ≤ 600000) (hnn : nn + 640 ≤ 7000000) (hK : ∀ v' h' f' D' n' m', tI v' h' f' D' n' m' → m' 40 7 ≤ m 40 7 + 1 → xX E (("law", some .boolean, []), (25, 600000, 7000000), P, PX) RL cL_law 7 (kk + 8) (nn + 640) 2309 [(0, vr E 1), (1, vr E 40), (2, vr E 96), (3, vr E 111), (4, vi (i : Int))] [] (gS f' D' n') m') : xX E (("law", some .boolean, []), (25, 600000, 7000000), P, PX) RL cL_law 7 kk nn 2284 [(0, vr E 1), (1, vr E 40), (2, vr E 96), (3, vr E 111), (4, vi (i : Int))] [] (gS f D n) m := by
  obtain ⟨t1, t2, t3, ⟨p, t4, t5, t6⟩, t7, t8, t9⟩ := id hI
  refine x_aload_n dL_law_2284 rfl ?_
  refine x_aload_n dL_law_2285 rfl ?_
  refine x_iload dL_law_2286 rfl ?_
  refine x_iconst dL_law_2288 ?_
  refine x_iadd dL_law_2289 ?_
  refine x_siald (j := i + 1) dL_law_2290 (by decide) (by decide) (by omega) (by omega) (by omega) ?_
  refine x_callV (as := [vi ((E.2.2.2.2.2 1).2 (i + 1))]) (rest := []) (mc' := 8) (ms' := 64) mL_214 dL_law_2291 rfl rfl rfl (Nat.le_of_ble_eq_true rfl) (by decide) (by omega) (by omega) (s_cstatus (hsc _) ?_)
  refine x_aload_n dL_law_2294 rfl ?_
  refine x_aload_n dL_law_2295 rfl ?_
  refine x_iload dL_law_2296 rfl ?_
  refine x_iconst dL_law_2298 ?_
  refine x_iadd dL_law_2299 ?_
  refine x_siald (j := i + 1) dL_law_2300 (by decide) (by decide) (by omega) (by omega) (by omega) ?_
  refine x_callV (as := [vi ((E.2.2.2.2.2 1).2 (i + 1))]) (rest := [vi (if 0 ≤ ((E.2.2.2.2.2 1).2 (i + 1)) ∧ ((E.2.2.2.2.2 1).2 (i + 1)) ≤ 2 then m 40 (9 + (((E.2.2.2.2.2 1).2 (i + 1))).toNat) else -1)]) (mc' := 0) (ms' := 0) mL_217 dL_law_2301 rfl rfl rfl (Nat.le_of_ble_eq_true rfl) (by decide) (by omega) (by omega) (s_mstatus (hsc _) ?_)
  have e9 : (if 0 ≤ ((E.2.2.2.2.2 1).2 (i + 1)) ∧ ((E.2.2.2.2.2 1).2 (i + 1)) ≤ 2 then m 40 (9 + (((E.2.2.2.2.2 1).2 (i + 1))).toNat) else -1) = (if 0 ≤ ((E.2.2.2.2.2 1).2 (i + 1)) ∧ ((E.2.2.2.2.2 1).2 (i + 1)) ≤ 2 then m 97 (((E.2.2.2.2.2 1).2 (i + 1))).toNat else -1) := by
    split
    · exact t9 _ (by omega)
    · rfl
  rw [e9]
  refine x_icmp_T (tgt := 2309) dL_law_2304 (by decide) ?_
  have h9 := tI_z hI t1 kq.rf t2 t3
  exact x_wide (by omega) (by omega) (hK _ _ _ _ _ _ h9.1 (by rw [h9.2]; omega))

set_option maxRecDepth 20000 in
theorem lw_undo {E : xE} {f : Nat → Nat} {D : Nat → Nat × Nat} {n : Nat} {m : xM} {P : xPo} {PX : xPx} {v : Nat → Int} {h : List (Nat → Int)} {i kk nn : Nat} (hE : eOk E) (hI : tI v h f D n m) (hlen : i + 6 < (E.2.2.2.2.2 1).1) (hl31 : (E.2.2.2.2.2 1).1 < 2147483648) (hsc : ∀ j, -2147483648 ≤ (E.2.2.2.2.2 1).2 j ∧ (E.2.2.2.2.2 1).2 j ≤ 2147483647) (hkk : kk + 8 ≤ 600000) (hnn : nn + 640 ≤ 7000000) (hK : ∀ v' h' f' D' n' m', tI v' h' f' D' n' m' → m' 40 7 ≤ m 40 7 + 1 → xX E (("law", some .boolean, []), (25, 600000, 7000000), P, PX) RL cL_law 7 (kk + 8) (nn + 640) 2309 [(0, vr E 1), (1, vr E 40), (2, vr E 96), (3, vr E 111), (4, vi (i : Int))] [] (gS f' D' n') m') : xX E (("law", some .boolean, []), (25, 600000, 7000000), P, PX) RL cL_law 7 kk nn 654 [(0, vr E 1), (1, vr E 40), (2, vr E 96), (3, vr E 111), (4, vi (i : Int))] [] (gS f D n) m := by
  obtain ⟨t1, t2, t3, ⟨p, t4, t5, t6⟩, t7, t8, t9⟩ := id hI
  refine x_aload_n dL_law_654 rfl ?_
  refine x_callV (as := []) (rest := []) (mc' := 8) (ms' := 64) mL_138 dL_law_655 rfl rfl rfl (Nat.le_of_ble_eq_true rfl) (by decide) (by omega) (by omega) (s_cundo t1 (fun h0 => ?_) (fun tt m1 f1 htt hc hk => ?_))
  · refine x_aload_n dL_law_658 rfl ?_
    refine x_callV (as := []) (rest := [vi (-1)]) (mc' := 0) (ms' := 0) mL_141 dL_law_659 rfl rfl rfl (Nat.le_of_ble_eq_true rfl) (by decide) (by omega) (by omega) (s_mundo (v := v) t3 (fun m2 r2 ho => ?_))
    rcases ho with ⟨-, rfl, rfl⟩ | ⟨t9', v9, g1, -⟩
    · refine x_icmp_T (tgt := 2309) dL_law_662 (by decide) ?_
      have h9 := tI_z hI t1 kq.rf t2 t3
      exact x_wide (by omega) (by omega) (hK _ _ _ _ _ _ h9.1 (by rw [h9.2]; omega))
    · rw [h0] at g1; cases g1
  · refine x_aload_n dL_law_658 rfl ?_
    refine x_callV (as := []) (rest := [vi (tt : Int)]) (mc' := 0) (ms' := 0) mL_141 dL_law_659 rfl rfl rfl (Nat.le_of_ble_eq_true rfl) (by decide) (by omega) (by omega) (s_mundo (v := v) (hI.H (kp_q hk)) (fun m2 r2 ho => ?_))
    obtain ⟨rfl, g2, g3⟩ := tI_un hI htt hc (kp_q hk) ho
    refine x_icmp_T (tgt := 2309) dL_law_662 (by decide) ?_
    exact x_wide (by omega) (by omega) (hK _ _ _ _ _ _ g2 (by rw [g3, hk.2.2 7 (by simp)]; omega))

end LY
