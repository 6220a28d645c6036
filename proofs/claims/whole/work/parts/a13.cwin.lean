section CW
theorem rf2.w2 {p1 p2 p3 : Prop} {a b : Nat} {k : Int} {q : Nat} (h : rf2 p1 p2 a b k q) (h3 : p3 → p2) : rf2 p1 p3 a b k q := by
  rcases h with h | ⟨h1, h2, h3'⟩
  · exact Or.inl h
  · exact Or.inr ⟨h1, fun z => h2 (h3 z), h3'⟩
/-- an order's answer -/
def orR (v : Nat → Int) (a : Nat) (sp t w r : Int) : Prop := ∃ q l, ordR (gdf v sp t) (v 1).toNat a q l ∧ ((q = -1 ∧ r = -1) ∨ (q ≠ -1 ∧ w = -1 ∧ r = t + q) ∨ (q ≠ -1 ∧ w ≠ -1 ∧ r = l w.toNat))
theorem orR_u {v : Nat → Int} {a : Nat} {sp t w r r' : Int} (ha : a < 64) (hw : -1 ≤ w ∧ w < (pcn a : Int)) (h : orR v a sp t w r) (h' : orR v a sp t w r') : r = r' := by
  obtain ⟨q, l, h1, h2⟩ := h
  obtain ⟨q', l', h3, h4⟩ := h'
  obtain ⟨h5, h6⟩ := ordR_u ha h1 h3
  subst h5
  rcases h2 with ⟨e1, e2⟩ | ⟨e1, e2, e3⟩ | ⟨e1, e2, e3⟩ <;> rcases h4 with ⟨g1, g2⟩ | ⟨g1, g2, g3⟩ | ⟨g1, g2, g3⟩ <;> first | omega | skip
  rw [e3, g3]
  exact h6 e1 w.toNat (by omega)
theorem tb_0 : ∀ a : Nat, a < 64 → (∀ u : Nat, u < 6 → tb a u = 0) → a = 0 := by decide +kernel
theorem q_one {Q s : Nat} {p : Nat → Prop} (hs : s < 6) (hQ : Q < 64) (h : ∀ u, u < 6 → (tb Q u = 1 ↔ tb (2 ^ s) u = 1 ∧ p u)) : (Q ≠ 0 ↔ p s) := by
  have h2 := (tb_p2 s hs).2
  constructor
  · intro h0
    apply Classical.byContradiction
    intro hn
    apply h0
    refine tb_0 Q hQ (fun u hu => ?_)
    rcases tb_01 Q u with e | e
    · exact e
    · obtain ⟨e1, e2⟩ := (h u hu).mp e
      rw [h2 u hu] at e1
      by_cases c : u = s
      · subst c; exact absurd e2 hn
      · rw [if_neg c] at e1; omega
  · intro hp h0
    have := (h s hs).mpr ⟨by rw [h2 s hs, if_pos rfl], hp⟩
    subst h0
    rw [show tb 0 s = 0 from by unfold tb; simp] at this
    omega
set_option maxRecDepth 20000 in
theorem s_windowAnswer {E : xE} {f : Nat → Nat} {D : Nat → Nat × Nat} {n : Nat} {m : xM} {P : xPo} {PX : xPx} {v : Nat → Int} {S : Nat → Prop} {M k w : Int} (hk : -2147483648 ≤ k ∧ k ≤ 2147483647) (hw : -2147483648 ≤ w ∧ w ≤ 2147483647) (hS : ∀ i : Nat, i < 1440 → 0 ≤ m 92 i ∧ m 92 i < 64 ∧ (m 92 i ≠ 0 ↔ S i)) (hX : wR S k w (-1000000) → ∀ j, PX (xcls 0) (gS f D (n + j)) (crf m 0)) (hP : ∀ r, wiR S M k w r → P (some (vi r)) (gS f D n) m) : xC E (yX5_windowAnswer, cX5_windowAnswer, 5, some .int) 7 1 6 [vr E 40, vi M, vi k, vi w] (gS f D n) m P PX := by
  refine x_enter (by decide) rfl rfl (Nat.le_of_ble_eq_true rfl) ?_
  refine x_aload_n dX5_windowAnswer_0 rfl ?_
  refine x_getR (r := 88) fX5_50 dX5_windowAnswer_1 rfl rfl ?_
  refine x_iload_n dX5_windowAnswer_4 rfl ?_
  refine x_iload_n dX5_windowAnswer_5 rfl ?_
  refine x_V2 mX5_248 dX5_windowAnswer_6 rfl (s_windowPlace (S := S) hS hk hw (fun q hq => ?_))
  have hb := wR_b hq
  refine x_istore dX5_windowAnswer_9 ?_
  refine x_iload dX5_windowAnswer_11 rfl ?_
  refine x_ldc kX5_251 dX5_windowAnswer_13 ?_
  refine x_icmp_ne (tgt := 22) dX5_windowAnswer_15 (by decide) (by omega) (fun h15 => ?_) (fun h15 => ?_)
  · refine x_iload_n dX5_windowAnswer_22 rfl ?_
    refine x_iconst dX5_windowAnswer_23 ?_
    refine x_icmp_ne (tgt := 32) dX5_windowAnswer_24 (by decide) (by omega) (fun h24 => ?_) (fun h24 => ?_)
    · refine x_iload_n dX5_windowAnswer_32 rfl ?_
      refine x_iload dX5_windowAnswer_33 rfl ?_
      refine x_iadd dX5_windowAnswer_35 ?_
      exact x_iret dX5_windowAnswer_36  (hP _ ⟨q, hq, by omega, by rw [if_neg (by omega)]⟩)
    · refine x_iload dX5_windowAnswer_27 rfl ?_
      refine x_goto (tgt := 36) dX5_windowAnswer_29 (by decide) ?_
      exact x_iret dX5_windowAnswer_36  (hP _ ⟨q, hq, by omega, by rw [if_pos (by omega)]⟩)
  · refine x_aload_n dX5_windowAnswer_18 rfl ?_
    exact x_V0 mX5_159 dX5_windowAnswer_19 rfl (s_refuseMissing (hX ((show q = -1000000 by omega) ▸ hq)))

set_option maxRecDepth 20000 in
theorem s_cwindow {E : xE} {f : Nat → Nat} {D : Nat → Nat × Nat} {n : Nat} {m : xM} {P : xPo} {PX : xPx} {v : Nat → Int} {x y z u k w : Int} (hE : eOk E) (hV : cV v f D m) (hx : -2147483648 ≤ x ∧ x ≤ 2147483647) (hy : -2147483648 ≤ y ∧ y ≤ 2147483647) (hz : -2147483648 ≤ z ∧ z ≤ 2147483647) (hu : -2147483648 ≤ u ∧ u ≤ 2147483647) (hk : -2147483648 ≤ k ∧ k ≤ 2147483647) (hw : -2147483648 ≤ w ∧ w ≤ 2147483647) (hX : ∀ k9 q9 m1, (wrf ((0 ≤ x ∧ x < v 5) ∧ (0 ≤ y ∧ y < v 4)) (((0 ≤ u ∧ u ≤ 10000) ∧ (4 ≤ z ∧ z ≤ 25)) ∧ edg k w) (fun i : Nat => pas v x.toNat (sh v x.toNat 0) y.toNat (u + i) z) k w) k9 q9 → ag [86, 87, 89, 90, 91, 92] m m1 → cT v m1 → ∀ j, PX (xcls q9) (gS f D (n + j)) (crf m1 q9)) (hP : ∀ m' r, (((0 ≤ x ∧ x < v 5) ∧ (0 ≤ y ∧ y < v 4)) ∧ (((0 ≤ u ∧ u ≤ 10000) ∧ (4 ≤ z ∧ z ≤ 25)) ∧ edg k w)) → (wiR (fun i : Nat => pas v x.toNat (sh v x.toNat 0) y.toNat (u + i) z) u k w) r → ag [86, 87, 89, 90, 91, 92] m m' → cT v m' → P (some (vi r)) (gS f D n) m') : xC E (yX5_window, cX5_window, 7, some .int) 12 8 64 [vr E 40, vi x, vi y, vi z, vi u, vi k, vi w] (gS f D n) m P PX := by
  refine x_enter (by decide) rfl rfl (Nat.le_of_ble_eq_true rfl) ?_
  have hT := hV.2.1
  have hC := hT.1
  have hv := hV.1.1
  have hv5 := hv.2.2.2.2.2.1
  have hv4 := hv.2.2.2.2.1.1
  have hv3 := hv.2.2.2.1.1
  refine x_aload_n dX5_window_0 rfl ?_
  refine x_iload_n dX5_window_1 rfl ?_
  refine x_iload_n dX5_window_2 rfl ?_
  refine x_iload dX5_window_3 rfl ?_
  refine x_iload_n dX5_window_5 rfl ?_
  refine x_V4 mX5_174 dX5_window_6 rfl (s_needShipAtBar hx hy hu hz hv hC (fun k9 q9 hr => hX k9 q9 m (Or.inl hr.w) ag.rf hT) (fun h1 h2 => ?_))
  refine x_aload_n dX5_window_9 rfl ?_
  refine x_iload dX5_window_10 rfl ?_
  refine x_iload dX5_window_12 rfl ?_
  refine x_V2 mX5_189 dX5_window_14 rfl (s_needEdge hk hw (fun hn => hX 2 1 m (Or.inl (Or.inr ⟨h1, fun zz => hn zz.2, rfl, rfl⟩)) ag.rf hT) (fun h3 => ?_))
  obtain ⟨s, rfl⟩ := nat_of h1.1.1
  obtain ⟨b, rfl⟩ := nat_of h1.2.1
  refine x_aload_n dX5_window_17 rfl ?_
  refine x_getR (r := 88) fX5_50 dX5_window_18 rfl rfl ?_
  refine x_iload_n dX5_window_21 rfl ?_
  refine x_iload_n dX5_window_22 rfl ?_
  refine x_iload_n dX5_window_23 rfl ?_
  refine x_iload dX5_window_24 rfl ?_
  refine x_V4 mX5_193 dX5_window_26 rfl (s_findPassable hE hV h1.1.2 h1.2.2 h2.2 h2.1 (fun m1 ha1 hT1 hS1 => ?_))
  refine x_aload_n dX5_window_29 rfl ?_
  refine x_iload dX5_window_30 rfl ?_
  refine x_iload dX5_window_32 rfl ?_
  refine x_iload dX5_window_34 rfl ?_
  refine x_V3 mX5_196 dX5_window_36 rfl (s_windowAnswer (v := v) hk hw hS1 (fun hr => hX 1 0 m1 (Or.inr ⟨⟨h1, h2, h3⟩, hr, rfl, rfl⟩) ha1 hT1) (fun r hr => ?_))
  exact x_iret dX5_window_39  (hP _ _ ⟨h1, h2, h3⟩ hr ha1 hT1)

set_option maxRecDepth 20000 in
theorem s_cjoined {E : xE} {f : Nat → Nat} {D : Nat → Nat × Nat} {n : Nat} {m : xM} {P : xPo} {PX : xPx} {v : Nat → Int} {x y u k w : Int} (hE : eOk E) (hV : cV v f D m) (hx : -2147483648 ≤ x ∧ x ≤ 2147483647) (hy : -2147483648 ≤ y ∧ y ≤ 2147483647) (hu : -2147483648 ≤ u ∧ u ≤ 2147483647) (hk : -2147483648 ≤ k ∧ k ≤ 2147483647) (hw : -2147483648 ≤ w ∧ w ≤ 2147483647) (hX : ∀ k9 q9 m1, (wrf (0 ≤ x ∧ x < v 5) ((4 ≤ y ∧ y ≤ 25) ∧ (0 ≤ u ∧ u ≤ 10000) ∧ edg k w) (fun i : Nat => good v x.toNat (sh v x.toNat 0) (u + i) y) k w) k9 q9 → ag [86, 87, 89, 90, 91, 92] m m1 → cT v m1 → ∀ j, PX (xcls q9) (gS f D (n + j)) (crf m1 q9)) (hP : ∀ m' r, ((0 ≤ x ∧ x < v 5) ∧ ((4 ≤ y ∧ y ≤ 25) ∧ (0 ≤ u ∧ u ≤ 10000) ∧ edg k w)) → (wiR (fun i : Nat => good v x.toNat (sh v x.toNat 0) (u + i) y) u k w) r → ag [86, 87, 89, 90, 91, 92] m m' → cT v m' → P (some (vi r)) (gS f D n) m') : xC E (yX5_joined, cX5_joined, 6, some .int) 12 8 64 [vr E 40, vi x, vi y, vi u, vi k, vi w] (gS f D n) m P PX := by
  refine x_enter (by decide) rfl rfl (Nat.le_of_ble_eq_true rfl) ?_
  have hT := hV.2.1
  have hC := hT.1
  have hv := hV.1.1
  have hv5 := hv.2.2.2.2.2.1
  have hv4 := hv.2.2.2.2.1.1
  have hv3 := hv.2.2.2.1.1
  refine x_aload_n dX5_joined_0 rfl ?_
  refine x_iload_n dX5_joined_1 rfl ?_
  refine x_iload_n dX5_joined_2 rfl ?_
  refine x_iload_n dX5_joined_3 rfl ?_
  refine x_V3 mX5_199 dX5_joined_4 rfl (s_needPassage hx hu hy hv hC (fun k9 q9 hr => hX k9 q9 m (Or.inl (hr.w2 (fun zz => ⟨zz.2.1, zz.1⟩))) ag.rf hT) (fun h1 h2 => ?_))
  refine x_aload_n dX5_joined_7 rfl ?_
  refine x_iload dX5_joined_8 rfl ?_
  refine x_iload dX5_joined_10 rfl ?_
  refine x_V2 mX5_189 dX5_joined_12 rfl (s_needEdge hk hw (fun hn => hX 2 1 m (Or.inl (Or.inr ⟨h1, fun zz => hn zz.2.2, rfl, rfl⟩)) ag.rf hT) (fun h3 => ?_))
  obtain ⟨s, rfl⟩ := nat_of h1.1
  have hs6 : s < 6 := by omega
  have hp2 := tb_p2 s hs6
  have hv1 := hv.2.1
  refine x_aload_n dX5_joined_15 rfl ?_
  refine x_getR (r := 88) fX5_50 dX5_joined_16 rfl rfl ?_
  refine x_iconst dX5_joined_19 ?_
  refine x_iload_n dX5_joined_20 rfl ?_
  refine x_ishl (z := ((2 ^ s : Nat) : Int)) dX5_joined_21 (b_shl1 s hs6) ?_
  refine x_iload_n dX5_joined_22 rfl ?_
  refine x_iload_n dX5_joined_23 rfl ?_
  refine x_V3 mX5_202 dX5_joined_24 rfl (s_findGood (c := 1440) hE hV hp2.1 (Nat.two_pow_pos s) (fun g hg ht => by rw [hp2.2 g hg] at ht; by_cases c : g = s; (subst c; exact h1.2); (rw [if_neg c] at ht; omega)) (by rw [pcn_p2 s hs6]; omega) h2.2 h2.1 (fun m1 Q ha1 hT1 hq hd => ?_))
  have hS1 : ∀ i : Nat, i < 1440 → 0 ≤ m1 92 i ∧ m1 92 i < 64 ∧ (m1 92 i ≠ 0 ↔ good v s (sh v s 0) (u + i) y) := by
    intro i hi
    obtain ⟨h4, h5⟩ := hq i (by omega)
    have h6 := q_one (p := fun g => good v g (sh v g 0) (u + i) y) hs6 h5 (hd i hi)
    exact ⟨by omega, by omega, by rw [h4]; exact ⟨fun z => h6.mp (by omega), fun z => by have := h6.mpr z; omega⟩⟩
  refine x_aload_n dX5_joined_27 rfl ?_
  refine x_iload_n dX5_joined_28 rfl ?_
  refine x_iload dX5_joined_29 rfl ?_
  refine x_iload dX5_joined_31 rfl ?_
  refine x_V3 mX5_196 dX5_joined_33 rfl (s_windowAnswer (v := v) hk hw hS1 (fun hr => hX 1 0 m1 (Or.inr ⟨⟨h1, h2.2, h2.1, h3⟩, hr, rfl, rfl⟩) ha1 hT1) (fun r hr => ?_))
  exact x_iret dX5_joined_36  (hP _ _ ⟨h1, h2.2, h2.1, h3⟩ hr ha1 hT1)

set_option maxRecDepth 20000 in
theorem s_cconvoy {E : xE} {f : Nat → Nat} {D : Nat → Nat × Nat} {n : Nat} {m : xM} {P : xPo} {PX : xPx} {v : Nat → Int} {x y z : Int} (hE : eOk E) (hV : cV v f D m) (hx : -2147483648 ≤ x ∧ x ≤ 2147483647) (hy : -2147483648 ≤ y ∧ y ≤ 2147483647) (hz : -2147483648 ≤ z ∧ z ≤ 2147483647) (hX : ∀ k9 q9 m1, (rf1 ((1 ≤ x ∧ x < ((2 ^ (v 5).toNat : Nat) : Int)) ∧ (4 ≤ y ∧ y ≤ 25) ∧ (0 ≤ z ∧ z ≤ 10000)) 1) k9 q9 → ag [86, 87, 89, 90, 91, 92] m m1 → cT v m1 → ∀ j, PX (xcls q9) (gS f D (n + j)) (crf m1 q9)) (hP : ∀ m' r, ((1 ≤ x ∧ x < ((2 ^ (v 5).toNat : Nat) : Int)) ∧ (4 ≤ y ∧ y ≤ 25) ∧ (0 ≤ z ∧ z ≤ 10000)) → (cvR v x.toNat y z) r → ag [86, 87, 89, 90, 91, 92] m m' → cT v m' → P (some (vi r)) (gS f D n) m') : xC E (yX5_convoy, cX5_convoy, 5, some .int) 12 8 64 [vr E 40, vi x, vi y, vi z] (gS f D n) m P PX := by
  refine x_enter (by decide) rfl rfl (Nat.le_of_ble_eq_true rfl) ?_
  have hT := hV.2.1
  have hC := hT.1
  have hv := hV.1.1
  have hv5 := hv.2.2.2.2.2.1
  have hv4 := hv.2.2.2.2.1.1
  have hv3 := hv.2.2.2.1.1
  refine x_aload_n dX5_convoy_0 rfl ?_
  refine x_iload_n dX5_convoy_1 rfl ?_
  refine x_iload_n dX5_convoy_2 rfl ?_
  refine x_iload_n dX5_convoy_3 rfl ?_
  refine x_V3 mX5_217 dX5_convoy_4 rfl (s_needConvoy hx hy hz hv hC (fun hn => hX 1 1 m (⟨hn, rfl, rfl⟩) ag.rf hT) (fun h1 => ?_))
  obtain ⟨a, rfl⟩ := nat_of (show 0 ≤ x by omega)
  obtain ⟨ha64, hset⟩ := set_ok hv5 h1.1.2
  have ha0 : 0 < a := by omega
  have hv1 := hv.2.1
  obtain ⟨gp, hgp⟩ := nat_of (show 0 ≤ v 1 by omega)
  obtain ⟨c, hc⟩ := cnt_ok (gp := gp) ha64 ha0
  refine x_aload_n dX5_convoy_7 rfl ?_
  refine x_getR (r := 88) fX5_50 dX5_convoy_8 rfl rfl ?_
  refine x_iload_n dX5_convoy_11 rfl ?_
  refine x_iload_n dX5_convoy_12 rfl ?_
  refine x_iload_n dX5_convoy_13 rfl ?_
  refine x_V3 mX5_202 dX5_convoy_14 rfl (s_findGood (c := c) hE hV ha64 ha0 hset (by rw [hgp]; exact hc) h1.2.1 h1.2.2 (fun m1 Q ha1 hT1 hq hd => ?_))
  have hG : gdR m1 (gdf v y z) a c := ⟨Q, hq, hd⟩
  have hV1 := hV.t ha1 hT1 (by decide) (by decide)
  have hgt : gp = (v 1).toNat := by omega
  refine x_aload_n dX5_convoy_17 rfl ?_
  refine x_getR (r := 88) fX5_50 dX5_convoy_18 rfl rfl ?_
  refine x_iload_n dX5_convoy_21 rfl ?_
  refine x_V1 mX5_220 dX5_convoy_22 rfl (s_convoyStart hV1 ha64 ha0 hset hgp hc hG (fun q hq => ?_))
  have hqb := dayR_b hq
  refine x_istore dX5_convoy_25 ?_
  refine x_iload dX5_convoy_27 rfl ?_
  refine x_iconst dX5_convoy_29 ?_
  refine x_icmp_ne (tgt := 37) dX5_convoy_30 (by decide) (by omega) (fun h30 => ?_) (fun h30 => ?_)
  · refine x_iload_n dX5_convoy_37 rfl ?_
    refine x_iload dX5_convoy_38 rfl ?_
    refine x_iadd dX5_convoy_40 ?_
    exact x_iret dX5_convoy_41  (hP _ _ h1 ⟨q, hgt ▸ hq, Or.inr ⟨by omega, rfl⟩⟩ ha1 hT1)
  · refine x_iconst dX5_convoy_33 ?_
    refine x_goto (tgt := 41) dX5_convoy_34 (by decide) ?_
    exact x_iret dX5_convoy_41  (hP _ _ h1 ⟨q, hgt ▸ hq, Or.inl ⟨by omega, rfl⟩⟩ ha1 hT1)

set_option maxRecDepth 20000 in
theorem s_corder {E : xE} {f : Nat → Nat} {D : Nat → Nat × Nat} {n : Nat} {m : xM} {P : xPo} {PX : xPx} {v : Nat → Int} {x y z w : Int} (hE : eOk E) (hV : cV v f D m) (hx : -2147483648 ≤ x ∧ x ≤ 2147483647) (hy : -2147483648 ≤ y ∧ y ≤ 2147483647) (hz : -2147483648 ≤ z ∧ z ≤ 2147483647) (hw : -2147483648 ≤ w ∧ w ≤ 2147483647) (hX : ∀ k9 q9 m1, (rf2 ((1 ≤ x ∧ x < ((2 ^ (v 5).toNat : Nat) : Int)) ∧ (4 ≤ y ∧ y ≤ 25) ∧ (0 ≤ z ∧ z ≤ 10000)) (-1 ≤ w ∧ w < (pcn x.toNat : Int)) 1 0) k9 q9 → ag [86, 87, 88, 89, 90, 91, 92, 95] m m1 → cT v m1 → ∀ j, PX (xcls q9) (gS f D (n + j)) (crf m1 q9)) (hP : ∀ m' r, (((1 ≤ x ∧ x < ((2 ^ (v 5).toNat : Nat) : Int)) ∧ (4 ≤ y ∧ y ≤ 25) ∧ (0 ≤ z ∧ z ≤ 10000)) ∧ (-1 ≤ w ∧ w < (pcn x.toNat : Int))) → (orR v x.toNat y z w) r → ag [86, 87, 88, 89, 90, 91, 92, 95] m m' → cT v m' → P (some (vi r)) (gS f D n) m') : xC E (yX5_order, cX5_order, 6, some .int) 12 8 64 [vr E 40, vi x, vi y, vi z, vi w] (gS f D n) m P PX := by
  refine x_enter (by decide) rfl rfl (Nat.le_of_ble_eq_true rfl) ?_
  have hT := hV.2.1
  have hC := hT.1
  have hv := hV.1.1
  have hv5 := hv.2.2.2.2.2.1
  have hv4 := hv.2.2.2.2.1.1
  have hv3 := hv.2.2.2.1.1
  refine x_aload_n dX5_order_0 rfl ?_
  refine x_iload_n dX5_order_1 rfl ?_
  refine x_iload_n dX5_order_2 rfl ?_
  refine x_iload_n dX5_order_3 rfl ?_
  refine x_V3 mX5_217 dX5_order_4 rfl (s_needConvoy hx hy hz hv hC (fun hn => hX 1 1 m (Or.inl ⟨hn, rfl, rfl⟩) ag.rf hT) (fun h1 => ?_))
  obtain ⟨a, rfl⟩ := nat_of (show 0 ≤ x by omega)
  obtain ⟨ha64, hset⟩ := set_ok hv5 h1.1.2
  have ha0 : 0 < a := by omega
  have hv1 := hv.2.1
  obtain ⟨gp, hgp⟩ := nat_of (show 0 ≤ v 1 by omega)
  obtain ⟨c, hc⟩ := cnt_ok (gp := gp) ha64 ha0
  refine x_iload dX5_order_7 rfl ?_
  refine x_iconst dX5_order_9 ?_
  refine x_icmp_lt (tgt := 22) dX5_order_10 (by decide) (by omega) (fun h10 => ?_) (fun h10 => ?_)
  · exact x_aload_n dX5_order_22 rfl (x_V0 mX5_159 dX5_order_23 rfl (s_refuseMissing (hX 2 0 m (Or.inr ⟨h1, fun zz => absurd zz (by have e : ((a : Int)).toNat = a := rfl; rw [e]; omega), rfl, rfl⟩) ag.rf hT)))
  · refine x_iload dX5_order_13 rfl ?_
    refine x_iload_n dX5_order_15 rfl ?_
    refine x_S1 mX5_223 dX5_order_16 (s_bitCount ha64 ?_)
    have hpc := pcn_b a ha64 ha0
    refine x_icmp_lt (tgt := 26) dX5_order_19 (by decide) (by omega) (fun h19 => ?_) (fun h19 => ?_)
    · have hw1 : -1 ≤ w ∧ w < (pcn a : Int) := by omega
      refine x_aload_n dX5_order_26 rfl ?_
      refine x_getR (r := 88) fX5_50 dX5_order_27 rfl rfl ?_
      refine x_iload_n dX5_order_30 rfl ?_
      refine x_iload_n dX5_order_31 rfl ?_
      refine x_iload_n dX5_order_32 rfl ?_
      refine x_V3 mX5_202 dX5_order_33 rfl (s_findGood (c := c) hE hV ha64 ha0 hset (by rw [hgp]; exact hc) h1.2.1 h1.2.2 (fun m1 Q ha1 hT1 hq hd => ?_))
      have hG : gdR m1 (gdf v y z) a c := ⟨Q, hq, hd⟩
      have hV1 := hV.t ha1 hT1 (by decide) (by decide)
      have hgt : gp = (v 1).toNat := by omega
      refine x_aload_n dX5_order_36 rfl ?_
      refine x_getR (r := 88) fX5_50 dX5_order_37 rfl rfl ?_
      refine x_iload_n dX5_order_40 rfl ?_
      refine x_V1 mX5_228 dX5_order_41 rfl (s_bestOrderStart hV1 ha64 ha0 hset hgp hc hG (fun m2 q ha2 hq => ?_))
      have hqb := ordR_b hq
      have hT2 := hT1.ag ha2 (by decide) (by decide) (by decide) (by decide) (by decide) (by decide)
      have ha3 : ag [86, 87, 88, 89, 90, 91, 92, 95] m m2 := ha1.tr ha2 (by decide) (by decide)
      refine x_istore dX5_order_44 ?_
      refine x_iload dX5_order_46 rfl ?_
      refine x_iconst dX5_order_48 ?_
      refine x_icmp_ne (tgt := 54) dX5_order_49 (by decide) (by omega) (fun h49 => ?_) (fun h49 => ?_)
      · refine x_iload dX5_order_54 rfl ?_
        refine x_iconst dX5_order_56 ?_
        refine x_icmp_ne (tgt := 67) dX5_order_57 (by decide) (by omega) (fun h57 => ?_) (fun h57 => ?_)
        · refine x_aload_n dX5_order_67 rfl ?_
          refine x_getR (r := 88) fX5_50 dX5_order_68 rfl rfl ?_
          refine x_getR (r := 95) fX5_231 dX5_order_71 rfl rfl ?_
          refine x_iload dX5_order_74 rfl ?_
          refine x_iald (j := w.toNat) dX5_order_76 rfl (by omega) (show _ < 6 by omega) (by omega) ?_
          exact x_iret dX5_order_77  (hP _ _ ⟨h1, hw1⟩ ⟨q, m2 95, hgt ▸ hq, Or.inr (Or.inr ⟨by omega, by omega, rfl⟩)⟩ ha3 hT2)
        · refine x_iload_n dX5_order_60 rfl ?_
          refine x_iload dX5_order_61 rfl ?_
          refine x_iadd dX5_order_63 ?_
          refine x_goto (tgt := 77) dX5_order_64 (by decide) ?_
          exact x_iret dX5_order_77  (hP _ _ ⟨h1, hw1⟩ ⟨q, m2 95, hgt ▸ hq, Or.inr (Or.inl ⟨by omega, by omega, rfl⟩)⟩ ha3 hT2)
      · refine x_iconst dX5_order_52 ?_
        exact x_iret dX5_order_53  (hP _ _ ⟨h1, hw1⟩ ⟨q, m2 95, hgt ▸ hq, Or.inl ⟨by omega, rfl⟩⟩ ha3 hT2)
    · exact x_aload_n dX5_order_22 rfl (x_V0 mX5_159 dX5_order_23 rfl (s_refuseMissing (hX 2 0 m (Or.inr ⟨h1, fun zz => absurd zz (by have e : ((a : Int)).toNat = a := rfl; rw [e]; omega), rfl, rfl⟩) ag.rf hT)))

set_option maxRecDepth 20000 in
theorem s_ctold {E : xE} {f : Nat → Nat} {D : Nat → Nat × Nat} {n : Nat} {m : xM} {P : xPo} {PX : xPx} {v : Nat → Int} {x : Int} (hE : eOk E) (hV : cV v f D m) (hx : -2147483648 ≤ x ∧ x ≤ 2147483647) (hX : ∀ k9 q9 m1, (rf1 (0 ≤ x ∧ x ≤ 8) 1) k9 q9 → ag [] m m1 → cT v m1 → ∀ j, PX (xcls q9) (gS f D (n + j)) (crf m1 q9)) (hP : ∀ m' r, (0 ≤ x ∧ x ≤ 8) → (fun r => r = tdv v (m 40 6) (m 45 2) x) r → ag [] m m' → cT v m' → P (some (vi r)) (gS f D n) m') : xC E (yX5_told, cX5_told, 2, some .int) 12 8 64 [vr E 40, vi x] (gS f D n) m P PX := by
  refine x_enter (by decide) rfl rfl (Nat.le_of_ble_eq_true rfl) ?_
  have hT := hV.2.1
  have hC := hT.1
  have hv := hV.1.1
  have hv5 := hv.2.2.2.2.2.1
  have hv4 := hv.2.2.2.2.1.1
  have hv3 := hv.2.2.2.1.1
  refine x_aload_n dX5_told_0 rfl ?_
  refine x_iload_n dX5_told_1 rfl ?_
  refine x_iconst dX5_told_2 ?_
  refine x_bipush dX5_told_3 (h := ?_)
  refine x_V3 mX5_65 dX5_told_5 rfl (s_needWithin hx (by omega) (by omega) (fun hn => hX 1 1 m ⟨hn, rfl, rfl⟩ ag.rf hT) (fun h1 => ?_))
  refine x_iload_n dX5_told_8 rfl ?_
  rcases (by omega : x = 0 ∨ x = 1 ∨ x = 2 ∨ x = 3 ∨ x = 4 ∨ x = 5 ∨ x = 6 ∨ x = 7 ∨ x = 8) with rfl | rfl | rfl | rfl | rfl | rfl | rfl | rfl | rfl
  · refine x_tswIn (off := 47) (tgt := 56) dX5_told_9 (by decide) (by decide) (by decide) (by decide) (by decide) ?_
    refine x_aload_n dX5_told_56 rfl ?_
    refine x_getR (r := 41) fX5_10 dX5_told_57 rfl rfl ?_
    refine x_getI fX5_146 dX5_told_60 rfl ?_
    refine x_top (hC.2.1.1) ?_
    exact x_iret dX5_told_63  (hP _ _ h1 rfl ag.rf hT)
  · refine x_tswIn (off := 55) (tgt := 64) dX5_told_9 (by decide) (by decide) (by decide) (by decide) (by decide) ?_
    refine x_aload_n dX5_told_64 rfl ?_
    refine x_getR (r := 41) fX5_10 dX5_told_65 rfl rfl ?_
    refine x_getI fX5_89 dX5_told_68 rfl ?_
    refine x_top (hC.2.2.1.1) ?_
    exact x_iret dX5_told_71  (hP _ _ h1 rfl ag.rf hT)
  · refine x_tswIn (off := 63) (tgt := 72) dX5_told_9 (by decide) (by decide) (by decide) (by decide) (by decide) ?_
    refine x_aload_n dX5_told_72 rfl ?_
    refine x_getR (r := 41) fX5_10 dX5_told_73 rfl rfl ?_
    refine x_getI fX5_92 dX5_told_76 rfl ?_
    refine x_top (hC.2.2.2.1) ?_
    exact x_iret dX5_told_79  (hP _ _ h1 rfl ag.rf hT)
  · refine x_tswIn (off := 71) (tgt := 80) dX5_told_9 (by decide) (by decide) (by decide) (by decide) (by decide) ?_
    refine x_aload_n dX5_told_80 rfl ?_
    refine x_getR (r := 41) fX5_10 dX5_told_81 rfl rfl ?_
    refine x_getI fX5_149 dX5_told_84 rfl ?_
    refine x_top (hC.1.1) ?_
    exact x_iret dX5_told_87  (hP _ _ h1 rfl ag.rf hT)
  · refine x_tswIn (off := 79) (tgt := 88) dX5_told_9 (by decide) (by decide) (by decide) (by decide) (by decide) ?_
    refine x_aload_n dX5_told_88 rfl ?_
    refine x_getR (r := 41) fX5_10 dX5_told_89 rfl rfl ?_
    refine x_getI fX5_152 dX5_told_92 rfl ?_
    refine x_top (hC.1.2.1) ?_
    exact x_iret dX5_told_95  (hP _ _ h1 rfl ag.rf hT)
  · refine x_tswIn (off := 87) (tgt := 96) dX5_told_9 (by decide) (by decide) (by decide) (by decide) (by decide) ?_
    refine x_aload_n dX5_told_96 rfl ?_
    refine x_getR (r := 41) fX5_10 dX5_told_97 rfl rfl ?_
    refine x_getI fX5_115 dX5_told_100 rfl ?_
    refine x_top (hC.1.2.2) ?_
    exact x_iret dX5_told_103  (hP _ _ h1 rfl ag.rf hT)
  · refine x_tswIn (off := 95) (tgt := 104) dX5_told_9 (by decide) (by decide) (by decide) (by decide) (by decide) ?_
    refine x_aload_n dX5_told_104 rfl ?_
    refine x_V0 mX5_155 dX5_told_105 rfl (s_bookedShips hv hC ?_)
    exact x_iret dX5_told_108  (hP _ _ h1 rfl ag.rf hT)
  · refine x_tswIn (off := 100) (tgt := 109) dX5_told_9 (by decide) (by decide) (by decide) (by decide) (by decide) ?_
    refine x_aload_n dX5_told_109 rfl ?_
    refine x_getI fX5_58 dX5_told_110 rfl ?_
    exact x_iret dX5_told_113  (hP _ _ h1 rfl ag.rf hT)
  · refine x_tswOut (tgt := 114) dX5_told_9 (by decide) (by decide) (by decide) ?_
    refine x_aload_n dX5_told_114 rfl ?_
    refine x_getR (r := 45) fX5_19 dX5_told_115 rfl rfl ?_
    refine x_getI fX5_143 dX5_told_118 rfl ?_
    exact x_iret dX5_told_121  (hP _ _ h1 rfl ag.rf hT)

set_option maxRecDepth 20000 in
theorem s_cstatus {E : xE} {f : Nat → Nat} {D : Nat → Nat × Nat} {n : Nat} {m : xM} {P : xPo} {PX : xPx} {x : Int} (hx : -2147483648 ≤ x ∧ x ≤ 2147483647) (hP : P (some (vi (if 0 ≤ x ∧ x ≤ 2 then m 40 (9 + x.toNat) else -1))) (gS f D n) m) : xC E (yX5_status, cX5_status, 2, some .int) 12 8 64 [vr E 40, vi x] (gS f D n) m P PX := by
  refine x_enter (by decide) rfl rfl (Nat.le_of_ble_eq_true rfl) ?_
  refine x_iload_n dX5_status_0 rfl ?_
  rcases (by omega : x = 0 ∨ x = 1 ∨ x = 2 ∨ (x < 0 ∨ 2 < x)) with rfl | rfl | rfl | hx9
  · refine x_tswIn (off := 27) (tgt := 28) dX5_status_1 (by decide) (by decide) (by decide) (by decide) (by decide) ?_
    refine x_aload_n dX5_status_28 rfl ?_
    refine x_getI fX5_236 dX5_status_29 rfl ?_
    exact x_iret dX5_status_32  (hP)
  · refine x_tswIn (off := 32) (tgt := 33) dX5_status_1 (by decide) (by decide) (by decide) (by decide) (by decide) ?_
    refine x_aload_n dX5_status_33 rfl ?_
    refine x_getI fX5_239 dX5_status_34 rfl ?_
    exact x_iret dX5_status_37  (hP)
  · refine x_tswIn (off := 37) (tgt := 38) dX5_status_1 (by decide) (by decide) (by decide) (by decide) (by decide) ?_
    refine x_aload_n dX5_status_38 rfl ?_
    refine x_getI fX5_242 dX5_status_39 rfl ?_
    exact x_iret dX5_status_42  (hP)
  · refine x_tswOut (tgt := 43) dX5_status_1 hx hx9 (by decide) ?_
    refine x_iconst dX5_status_43 ?_
    exact x_iret dX5_status_44  (by rw [if_neg (by omega)] at hP; exact hP)

set_option maxRecDepth 20000 in
theorem s_cfault {E : xE} {f : Nat → Nat} {D : Nat → Nat × Nat} {n : Nat} {m : xM} {P : xPo} {PX : xPx} (hP : P (some (vi (m 40 8))) (gS f D n) m) : xC E (yX5_fault, cX5_fault, 1, some .int) 12 8 64 [vr E 40] (gS f D n) m P PX := by
  refine x_enter (by decide) rfl rfl (Nat.le_of_ble_eq_true rfl) ?_
  refine x_aload_n dX5_fault_0 rfl ?_
  refine x_getI fX5_54 dX5_fault_1 rfl ?_
  exact x_iret dX5_fault_4  (hP)

end CW
