section MQ
set_option maxRecDepth 20000 in
theorem so_1 {E : xE} {f : Nat → Nat} {D : Nat → Nat × Nat} {n : Nat} {P : xPo} {PX : xPx} {v : Nat → Int} {m0 : xM} {s : Nat} {st : Int} (hK : ∀ m1, ag [103, 105, 106, 107] m0 m1 → (∀ q, q ≤ 1000 → m1 105 q = zi (cn v s st 0 q)) → xX E (("soonest", some .int, []), (8, 0, 0), P, PX) RX6 cX6_soonest 5 0 0 64 [(0, vr E 96), (1, vi (s : Int)), (2, vi st)] [] (gS f D n) m1) :
    ∀ (j t : Nat) (m1 : xM), 1001 < t + j → t ≤ 1001 → ag [103, 105, 106, 107] m0 m1 → (∀ q, q < t → m1 105 q = zi (q = 0)) → xX E (("soonest", some .int, []), (8, 0, 0), P, PX) RX6 cX6_soonest 5 0 0 36 [(0, vr E 96), (1, vi (s : Int)), (2, vi st), (3, vi (t : Int))] [] (gS f D n) m1 := by
  intro j
  induction j with
  | zero => intro t m1 h1 h2; omega
  | succ j ih =>
    intro t m1 h1 h2 ha1 hk
    refine x_iload_n dX6_soonest_36 rfl ?_
    refine x_sipush dX6_soonest_37 (h := ?_)
    refine x_icmp_gt (tgt := 64) dX6_soonest_40 (by decide) (by omega) (fun h40 => ?_) (fun h40 => ?_)
    · exact x_loc (lv' := [(0, vr E 96), (1, vi (s : Int)), (2, vi st)]) ⟨rfl, rfl, rfl, trivial⟩ (hK m1 ha1 (fun q hq => hk q (by omega)))
    · refine x_aload_n dX6_soonest_43 rfl ?_
      refine x_getR (r := 105) fX6_44 dX6_soonest_44 rfl rfl ?_
      refine x_iload_n dX6_soonest_47 rfl ?_
      refine x_iload_n dX6_soonest_48 rfl ?_
      refine x_if_ne (tgt := 56) dX6_soonest_49 (by decide) (by omega) (fun h49 => ?_) (fun h49 => ?_)
      · refine x_iconst dX6_soonest_56 ?_
        refine x_zast (j := t) dX6_soonest_57 rfl (by decide) (by omega) (show _ < 1001 by omega) (by omega) (Or.inl rfl) ?_
        refine x_iinc dX6_soonest_58 rfl ?_
        refine x_goto (tgt := 36) dX6_soonest_61 (by decide) ?_
        exact x_loc (lv' := [(0, vr E 96), (1, vi (s : Int)), (2, vi st), (3, vi ((t + 1 : Nat) : Int))]) ⟨rfl, rfl, rfl, xl_i rfl (by omega), trivial⟩ (ih (t + 1) _ (by omega) (by omega) (ha1.u (by decide)) (lt_s (fun q hq => by rw [xu_if, if_neg (by omega)]; exact hk q hq) (by rw [xu_if, if_pos rfl]; exact (zi_f (by omega)).symm)))
      · refine x_iconst dX6_soonest_52 ?_
        refine x_goto (tgt := 57) dX6_soonest_53 (by decide) ?_
        refine x_zast (j := t) dX6_soonest_57 rfl (by decide) (by omega) (show _ < 1001 by omega) (by omega) (Or.inr rfl) ?_
        refine x_iinc dX6_soonest_58 rfl ?_
        refine x_goto (tgt := 36) dX6_soonest_61 (by decide) ?_
        exact x_loc (lv' := [(0, vr E 96), (1, vi (s : Int)), (2, vi st), (3, vi ((t + 1 : Nat) : Int))]) ⟨rfl, rfl, rfl, xl_i rfl (by omega), trivial⟩ (ih (t + 1) _ (by omega) (by omega) (ha1.u (by decide)) (lt_s (fun q hq => by rw [xu_if, if_neg (by omega)]; exact hk q hq) (by rw [xu_if, if_pos rfl]; exact (zi_t (by omega)).symm)))

set_option maxRecDepth 20000 in
theorem so_2 {E : xE} {f : Nat → Nat} {D : Nat → Nat × Nat} {n : Nat} {P : xPo} {PX : xPx} {v : Nat → Int} {m0 : xM} {s i : Nat} {st : Int} (hK : ∀ m1, ag [103, 105, 106, 107] m0 m1 → (∀ q, q ≤ 1000 → m1 105 q = zi (cn v s st i q)) → (∀ q, q ≤ 1000 → m1 106 q = 0) → xX E (("soonest", some .int, []), (8, 0, 0), P, PX) RX6 cX6_soonest 5 0 0 101 [(0, vr E 96), (1, vi (s : Int)), (2, vi st), (3, vi (i : Int))] [] (gS f D n) m1) :
    ∀ (j t : Nat) (m1 : xM), 1001 < t + j → t ≤ 1001 → ag [103, 105, 106, 107] m0 m1 → (∀ q, q ≤ 1000 → m1 105 q = zi (cn v s st i q)) → (∀ q, q < t → m1 106 q = 0) → xX E (("soonest", some .int, []), (8, 0, 0), P, PX) RX6 cX6_soonest 5 0 0 79 [(0, vr E 96), (1, vi (s : Int)), (2, vi st), (3, vi (i : Int)), (4, vi (t : Int))] [] (gS f D n) m1 := by
  intro j
  induction j with
  | zero => intro t m1 h1 h2; omega
  | succ j ih =>
    intro t m1 h1 h2 ha1 hR hk
    refine x_iload dX6_soonest_79 rfl ?_
    refine x_sipush dX6_soonest_81 (h := ?_)
    refine x_icmp_gt (tgt := 101) dX6_soonest_84 (by decide) (by omega) (fun h84 => ?_) (fun h84 => ?_)
    · exact x_loc (lv' := [(0, vr E 96), (1, vi (s : Int)), (2, vi st), (3, vi (i : Int))]) ⟨rfl, rfl, rfl, rfl, trivial⟩ (hK m1 ha1 hR (fun q hq => hk q (by omega)))
    · refine x_aload_n dX6_soonest_87 rfl ?_
      refine x_getR (r := 106) fX6_47 dX6_soonest_88 rfl rfl ?_
      refine x_iload dX6_soonest_91 rfl ?_
      refine x_iconst dX6_soonest_93 ?_
      refine x_zast (j := t) dX6_soonest_94 rfl (by decide) (by omega) (show _ < 1001 by omega) (by omega) (Or.inl rfl) ?_
      refine x_iinc dX6_soonest_95 rfl ?_
      refine x_goto (tgt := 79) dX6_soonest_98 (by decide) ?_
      exact x_loc (lv' := [(0, vr E 96), (1, vi (s : Int)), (2, vi st), (3, vi (i : Int)), (4, vi ((t + 1 : Nat) : Int))]) ⟨rfl, rfl, rfl, rfl, xl_i rfl (by omega), trivial⟩ (ih (t + 1) _ (by omega) (by omega) (ha1.u (by decide)) (fun q hq => by rw [xu_ne (by decide)]; exact hR q hq) (lt_s (fun q hq => by rw [xu_if, if_neg (by omega)]; exact hk q hq) (by rw [xu_if, if_pos rfl])))

set_option maxRecDepth 20000 in
theorem so_3 {E : xE} {f : Nat → Nat} {D : Nat → Nat × Nat} {n : Nat} {P : xPo} {PX : xPx} {v : Nat → Int} {m0 : xM} {s i : Nat} {st : Int} (hv : vOk v) (hN : mN v m0) (hs : (s : Int) < v 5) (hi : (i : Int) < v 4) (hst : 0 ≤ st ∧ st ≤ 10000) (hK : ∀ m1, ag [103, 105, 106, 107] m0 m1 → (∀ q, q ≤ 1000 → m1 106 q = zi (cn v s st (i + 1) q)) → xX E (("soonest", some .int, []), (8, 0, 0), P, PX) RX6 cX6_soonest 5 0 0 135 [(0, vr E 96), (1, vi (s : Int)), (2, vi st), (3, vi (i : Int))] [] (gS f D n) m1) :
    ∀ (j : Nat) (sp : Int) (m1 : xM), sh v s 4 + 1 < sp + j → sp ≤ sh v s 4 + 1 → sh v s 3 ≤ sp → ag [103, 105, 106, 107] m0 m1 → (∀ q, q ≤ 1000 → m1 105 q = zi (cn v s st i q)) → (∀ q, q ≤ 1000 → m1 106 q = zi (∃ c : Int, sh v s 3 ≤ c ∧ c < sp ∧ stp v s st (bo v s i) c (fr v s i c) (cn v s st i) q)) → xX E (("soonest", some .int, []), (8, 0, 0), P, PX) RX6 cX6_soonest 5 0 0 109 [(0, vr E 96), (1, vi (s : Int)), (2, vi st), (3, vi (i : Int)), (4, vi sp)] [] (gS f D n) m1 := by
  have hv5 := hv.1.2.2.2.2.2.1
  obtain ⟨-, -, -, hls, -⟩ := hv.1.2.2.2.2.2.2 s hs
  intro j
  induction j with
  | zero => intro sp m1 h1 h2; omega
  | succ j ih =>
    intro sp m1 h1 h2 h0 ha1 hR hk
    have hN1 := hN.ag ha1 (by decide)
    refine x_iload dX6_soonest_109 rfl ?_
    refine x_aload_n dX6_soonest_111 rfl ?_
    refine x_iload_n dX6_soonest_112 rfl ?_
    refine x_iconst dX6_soonest_113 ?_
    refine x_V2 mX6_241 dX6_soonest_114 rfl (s_ofShip (60 + 8 * s + 4) (by omega) (by omega) ?_)
    refine x_top (hN1.s (s := s) (by omega) (by omega)) ?_
    refine x_icmp_gt (tgt := 135) dX6_soonest_117 (by decide) (by omega) (fun h117 => ?_) (fun h117 => ?_)
    · refine x_loc (lv' := [(0, vr E 96), (1, vi (s : Int)), (2, vi st), (3, vi (i : Int))]) ⟨rfl, rfl, rfl, rfl, trivial⟩ (hK m1 ha1 (fun q hq => ?_))
      rw [hk q hq]
      exact zi_c ⟨fun ⟨c, g1, g2, g3⟩ => ⟨c, g1, by omega, g3⟩, fun ⟨c, g1, g2, g3⟩ => ⟨c, g1, by omega, g3⟩⟩
    · refine x_aload_n dX6_soonest_120 rfl ?_
      refine x_iload_n dX6_soonest_121 rfl ?_
      refine x_iload_n dX6_soonest_122 rfl ?_
      refine x_iload_n dX6_soonest_123 rfl ?_
      refine x_iload dX6_soonest_124 rfl ?_
      refine x_V4 mX6_356 dX6_soonest_126 rfl (s_goesOn (R := cn v s st i) (N := fun q => ∃ c : Int, sh v s 3 ≤ c ∧ c < sp ∧ stp v s st (bo v s i) c (fr v s i c) (cn v s st i) q) hv hN1 hs hi (by omega) hst hR hk (fun m2 ha2 hn2 => ?_))
      refine x_iinc dX6_soonest_129 rfl ?_
      refine x_goto (tgt := 109) dX6_soonest_132 (by decide) ?_
      refine x_loc (lv' := [(0, vr E 96), (1, vi (s : Int)), (2, vi st), (3, vi (i : Int)), (4, vi (sp + 1))]) ⟨rfl, rfl, rfl, rfl, xl_i rfl (by omega), trivial⟩ (ih (sp + 1) m2 (by omega) (by omega) (by omega) (ha1.tr ha2 (by decide) (by decide)) (fun q hq => by rw [ha2 105 (by decide)]; exact hR q hq) (fun q hq => ?_))
      rw [hn2 q hq]
      refine zi_c ⟨fun zz => zz.elim (fun ⟨c, g1, g2, g3⟩ => ⟨c, g1, by omega, g3⟩) (fun zz => ⟨sp, by omega, by omega, zz⟩), fun ⟨c, g1, g2, g3⟩ => ?_⟩
      rcases (by omega : c < sp ∨ c = sp) with y | y
      · exact Or.inl ⟨c, g1, y, g3⟩
      · subst y; exact Or.inr g3

set_option maxRecDepth 20000 in
theorem so_4 {E : xE} {f : Nat → Nat} {D : Nat → Nat × Nat} {n : Nat} {P : xPo} {PX : xPx} {v : Nat → Int} {m0 : xM} {s i : Nat} {st : Int} (hK : ∀ m1, ag [103, 105, 106, 107] m0 m1 → (∀ q, q ≤ 1000 → m1 105 q = zi (cn v s st (i + 1) q)) → xX E (("soonest", some .int, []), (8, 0, 0), P, PX) RX6 cX6_soonest 5 0 0 166 [(0, vr E 96), (1, vi (s : Int)), (2, vi st), (3, vi (i : Int))] [] (gS f D n) m1) :
    ∀ (j t : Nat) (m1 : xM), 1001 < t + j → t ≤ 1001 → ag [103, 105, 106, 107] m0 m1 → (∀ q, q ≤ 1000 → m1 106 q = zi (cn v s st (i + 1) q)) → (∀ q, q < t → m1 105 q = zi (cn v s st (i + 1) q)) → xX E (("soonest", some .int, []), (8, 0, 0), P, PX) RX6 cX6_soonest 5 0 0 138 [(0, vr E 96), (1, vi (s : Int)), (2, vi st), (3, vi (i : Int)), (4, vi (t : Int))] [] (gS f D n) m1 := by
  intro j
  induction j with
  | zero => intro t m1 h1 h2; omega
  | succ j ih =>
    intro t m1 h1 h2 ha1 hR hk
    refine x_iload dX6_soonest_138 rfl ?_
    refine x_sipush dX6_soonest_140 (h := ?_)
    refine x_icmp_gt (tgt := 166) dX6_soonest_143 (by decide) (by omega) (fun h143 => ?_) (fun h143 => ?_)
    · exact x_loc (lv' := [(0, vr E 96), (1, vi (s : Int)), (2, vi st), (3, vi (i : Int))]) ⟨rfl, rfl, rfl, rfl, trivial⟩ (hK m1 ha1 (fun q hq => hk q (by omega)))
    · refine x_aload_n dX6_soonest_146 rfl ?_
      refine x_getR (r := 105) fX6_44 dX6_soonest_147 rfl rfl ?_
      refine x_iload dX6_soonest_150 rfl ?_
      refine x_aload_n dX6_soonest_152 rfl ?_
      refine x_getR (r := 106) fX6_47 dX6_soonest_153 rfl rfl ?_
      refine x_iload dX6_soonest_156 rfl ?_
      refine x_zald (j := t) dX6_soonest_158 rfl (by omega) (show _ < 1001 by omega) (by omega) ?_
      refine x_top (hR t (by omega)) ?_
      refine x_zast (j := t) dX6_soonest_159 rfl (by decide) (by omega) (show _ < 1001 by omega) (by omega) (zi_01 _) ?_
      refine x_iinc dX6_soonest_160 rfl ?_
      refine x_goto (tgt := 138) dX6_soonest_163 (by decide) ?_
      exact x_loc (lv' := [(0, vr E 96), (1, vi (s : Int)), (2, vi st), (3, vi (i : Int)), (4, vi ((t + 1 : Nat) : Int))]) ⟨rfl, rfl, rfl, rfl, xl_i rfl (by omega), trivial⟩ (ih (t + 1) _ (by omega) (by omega) (ha1.u (by decide)) (fun q hq => by rw [xu_ne (by decide)]; exact hR q hq) (lt_s (fun q hq => by rw [xu_if, if_neg (by omega)]; exact hk q hq) (by rw [xu_if, if_pos rfl])))

set_option maxRecDepth 20000 in
theorem so_5 {E : xE} {f : Nat → Nat} {D : Nat → Nat × Nat} {n : Nat} {P : xPo} {PX : xPx} {v : Nat → Int} {m0 : xM} {s : Nat} {st : Int} (hR : ∀ q, q ≤ 1000 → m0 105 q = zi (cn v s st (v 4).toNat q)) (hK : ∀ r, soR v s st r → P (some (vi r)) (gS f D n) m0) :
    ∀ (j t : Nat), 1001 < t + j → t ≤ 1001 → (∀ q, q < t → ¬ cn v s st (v 4).toNat q) → xX E (("soonest", some .int, []), (8, 0, 0), P, PX) RX6 cX6_soonest 5 0 0 174 [(0, vr E 96), (1, vi (s : Int)), (2, vi st), (3, vi (t : Int))] [] (gS f D n) m0 := by
  intro j
  induction j with
  | zero => intro t h1 h2; omega
  | succ j ih =>
    intro t h1 h2 hk
    refine x_iload_n dX6_soonest_174 rfl ?_
    refine x_sipush dX6_soonest_175 (h := ?_)
    refine x_icmp_gt (tgt := 200) dX6_soonest_178 (by decide) (by omega) (fun h178 => ?_) (fun h178 => ?_)
    · refine x_iconst dX6_soonest_200 ?_
      exact x_iret dX6_soonest_201  (hK _ ⟨-1, Or.inr ⟨fun q hq => hk q (by omega), rfl⟩, Or.inl ⟨rfl, rfl⟩⟩)
    · refine x_aload_n dX6_soonest_181 rfl ?_
      refine x_getR (r := 105) fX6_44 dX6_soonest_182 rfl rfl ?_
      refine x_iload_n dX6_soonest_185 rfl ?_
      refine x_zald (j := t) dX6_soonest_186 rfl (by omega) (show _ < 1001 by omega) (by omega) ?_
      refine x_top (hR t (by omega)) ?_
      refine x_if_eq (tgt := 194) dX6_soonest_187 (by decide) (zi_r _) (fun h187 => ?_) (fun h187 => ?_)
      · have hx := zi_0.mp h187
        refine x_iinc dX6_soonest_194 rfl ?_
        refine x_goto (tgt := 174) dX6_soonest_197 (by decide) ?_
        exact x_loc (lv' := [(0, vr E 96), (1, vi (s : Int)), (2, vi st), (3, vi ((t + 1 : Nat) : Int))]) ⟨rfl, rfl, rfl, xl_i rfl (by omega), trivial⟩ (ih (t + 1) (by omega) (by omega) (fun q hq => by rcases (by omega : q < t ∨ q = t) with y | y; exact hk q y; exact y ▸ hx))
      · have hx := zi_1.mp h187
        refine x_iload_n dX6_soonest_190 rfl ?_
        refine x_iload_n dX6_soonest_191 rfl ?_
        refine x_iadd dX6_soonest_192 ?_
        exact x_iret dX6_soonest_193  (hK _ ⟨(t : Int), Or.inl ⟨t, by omega, hx, hk, rfl⟩, Or.inr ⟨by omega, rfl⟩⟩)

set_option maxRecDepth 20000 in
theorem s_msoonest {E : xE} {f : Nat → Nat} {D : Nat → Nat × Nat} {n : Nat} {m : xM} {P : xPo} {PX : xPx} {v : Nat → Int} {x st : Int} (hv : vOk v) (hN : mN v m) (hx : -2147483648 ≤ x ∧ x ≤ 2147483647) (hst : -2147483648 ≤ st ∧ st ≤ 2147483647) (hP : ∀ m' r, moR (rf2 (0 ≤ x ∧ x < v 5) (0 ≤ st ∧ st ≤ 10000) 0 1) ((0 ≤ x ∧ x < v 5) ∧ (0 ≤ st ∧ st ≤ 10000)) (fun r => soR v x.toNat st r) [103, 105, 106, 107] m m' r → P (some (vi r)) (gS f D n) m') : xC E (yX6_soonest, cX6_soonest, 5, some .int) 8 0 0 [vr E 96, vi x, vi st] (gS f D n) m P PX := by
  refine x_enter (by decide) rfl rfl (Nat.le_of_ble_eq_true rfl) ?_
  have loop : ∀ s : Nat, x = (s : Int) → (0 ≤ x ∧ x < v 5) → (0 ≤ st ∧ st ≤ 10000) → (s : Int) < v 5 → ∀ (j i : Nat) (m2 : xM), v 4 < (i : Int) + j → (i : Int) ≤ v 4 → ag [103, 105, 106, 107] (xu m 96 0 0) m2 → (∀ q, q ≤ 1000 → m2 105 q = zi (cn v s st i q)) → xX E (("soonest", some .int, []), (8, 0, 0), P, PX) RX6 cX6_soonest 5 0 0 66 [(0, vr E 96), (1, vi (s : Int)), (2, vi st), (3, vi (i : Int))] [] (gS f D n) m2 := by
    intro s hxs hp1 hst hs j
    subst hxs
    have hv5 := hv.1.2.2.2.2.2.1
    have hv4 := hv.1.2.2.2.2.1.1
    obtain ⟨-, -, -, hls, -⟩ := hv.1.2.2.2.2.2.2 s hs
    induction j with
    | zero => intro i m2 h1 h2; omega
    | succ j ih =>
      intro i m2 h1 h2 ha2 hR2
      refine x_iload_n dX6_soonest_66 rfl ?_
      refine x_aload_n dX6_soonest_67 rfl ?_
      refine x_getR (r := 98) fX6_17 dX6_soonest_68 rfl rfl ?_
      refine x_iconst dX6_soonest_71 ?_
      refine x_iald (j := 4) dX6_soonest_72 rfl rfl (show 4 < 709 by omega) (by omega) ?_
      refine x_top ((hN.z.ag ha2 (by decide)) 4 (by omega)) ?_
      refine x_icmp_ge (tgt := 172) dX6_soonest_73 (by decide) (by omega) (fun h73 => ?_) (fun h73 => ?_)
      · refine x_iconst dX6_soonest_172 ?_
        refine x_istore_n dX6_soonest_173 ?_
        exact x_loc (lv' := [(0, vr E 96), (1, vi (s : Int)), (2, vi st), (3, vi ((0 : Nat) : Int))]) ⟨rfl, rfl, rfl, rfl, trivial⟩ (so_5 (fun q hq => by rw [show (v 4).toNat = i by omega]; exact hR2 q hq) (fun r hr => hP _ _ (Or.inr ⟨⟨hp1, hst⟩, hr, ha2⟩)) 1002 0 (by omega) (by omega) (fun q hq => absurd hq (Nat.not_lt_zero q)))
      · have hi : (i : Int) < v 4 := by omega
        refine x_iconst dX6_soonest_76 ?_
        refine x_istore dX6_soonest_77 ?_
        refine x_loc (lv' := [(0, vr E 96), (1, vi (s : Int)), (2, vi st), (3, vi (i : Int)), (4, vi ((0 : Nat) : Int))]) ⟨rfl, rfl, rfl, rfl, rfl, trivial⟩ (so_2 (fun m3 ha3 hR3 hk3 => ?_) 1002 0 m2 (by omega) (by omega) ha2 hR2 (fun q hq => absurd hq (Nat.not_lt_zero q)))
        refine x_aload_n dX6_soonest_101 rfl ?_
        refine x_iload_n dX6_soonest_102 rfl ?_
        refine x_iconst dX6_soonest_103 ?_
        refine x_V2 mX6_241 dX6_soonest_104 rfl (s_ofShip (60 + 8 * s + 3) (by omega) (by omega) ?_)
        refine x_top ((hN.z.ag ha3 (by decide)).s (s := s) (by omega) (by omega)) ?_
        refine x_istore dX6_soonest_107 ?_
        refine x_loc (lv' := [(0, vr E 96), (1, vi (s : Int)), (2, vi st), (3, vi (i : Int)), (4, vi (sh v s 3))]) ⟨rfl, rfl, rfl, rfl, rfl, trivial⟩ (so_3 hv hN.z hs hi hst (fun m4 ha4 hR4 => ?_) 30 (sh v s 3) m3 (by omega) (by omega) (by omega) ha3 hR3 (fun q hq => by rw [hk3 q hq]; exact (zi_f (fun ⟨c, g1, g2, _⟩ => by omega)).symm))
        refine x_iconst dX6_soonest_135 ?_
        refine x_istore dX6_soonest_136 ?_
        refine x_loc (lv' := [(0, vr E 96), (1, vi (s : Int)), (2, vi st), (3, vi (i : Int)), (4, vi ((0 : Nat) : Int))]) ⟨rfl, rfl, rfl, rfl, rfl, trivial⟩ (so_4 (fun m5 ha5 hR5 => ?_) 1002 0 m4 (by omega) (by omega) ha4 hR4 (fun q hq => absurd hq (Nat.not_lt_zero q)))
        refine x_iinc dX6_soonest_166 rfl ?_
        refine x_goto (tgt := 66) dX6_soonest_169 (by decide) ?_
        exact x_loc (lv' := [(0, vr E 96), (1, vi (s : Int)), (2, vi st), (3, vi ((i + 1 : Nat) : Int))]) ⟨rfl, rfl, rfl, xl_i rfl (by omega), trivial⟩ (ih (i + 1) m5 (by omega) (by omega) ha5 hR5)
  have hv5 := hv.1.2.2.2.2.2.1
  have hv4 := hv.1.2.2.2.2.1.1
  have hv3 := hv.1.2.2.2.1.1
  refine x_aload_n dX6_soonest_0 rfl ?_
  refine x_iconst dX6_soonest_1 ?_
  refine x_putI fX6_1 dX6_soonest_2 rfl (by decide) rfl rfl ?_
  refine x_aload_n dX6_soonest_5 rfl ?_
  refine x_aload_n dX6_soonest_6 rfl ?_
  refine x_iload_n dX6_soonest_7 rfl ?_
  refine x_V1 mX6_300 dX6_soonest_8 rfl (s_isShip hv hN.z hx ?_)
  refine x_iconst dX6_soonest_11 ?_
  refine x_iconst dX6_soonest_12 ?_
  refine x_V3 mX6_196 dX6_soonest_13 rfl (s_isFine (p := 0 ≤ x ∧ x < v 5) (c := 1) (k := 0) th_0 (by omega) (by omega) (fun m1 r1 hf1 => ?_))
  refine x_if_eq (tgt := 32) dX6_soonest_16 (by decide) hf1.r (fun h16 => ?_) (fun h16 => ?_)
  · obtain ⟨hp1, rfl⟩ := hf1.f h16
    refine x_iconst dX6_soonest_32 ?_
    exact x_iret dX6_soonest_33  (hP _ 0 (Or.inl ⟨1, _, Or.inl ⟨hp1, rfl, rfl⟩, rfl⟩))
  · obtain ⟨hp1, rfl⟩ := hf1.t h16
    refine x_aload_n dX6_soonest_19 rfl ?_
    refine x_iload_n dX6_soonest_20 rfl ?_
    refine x_S1 mX6_336 dX6_soonest_21 (s_isMinute hst ?_)
    refine x_iconst dX6_soonest_24 ?_
    refine x_iconst dX6_soonest_25 ?_
    refine x_V3 mX6_196 dX6_soonest_26 rfl (s_isFine (p := 0 ≤ st ∧ st ≤ 10000) (c := 2) (k := 1) th_0 (by omega) (by omega) (fun m2 r2 hf2 => ?_))
    refine x_if_ne (tgt := 34) dX6_soonest_29 (by decide) hf2.r (fun h29 => ?_) (fun h29 => ?_)
    · obtain ⟨hp2, rfl⟩ := hf2.t h29
      obtain ⟨s, rfl⟩ := nat_of hp1.1
      refine x_iconst dX6_soonest_34 ?_
      refine x_istore_n dX6_soonest_35 ?_
      refine x_loc (lv' := [(0, vr E 96), (1, vi (s : Int)), (2, vi st), (3, vi ((0 : Nat) : Int))]) ⟨rfl, rfl, rfl, rfl, trivial⟩ (so_1 (v := v) (fun m2 ha2 hR2 => ?_) 1002 0 _ (by omega) (by omega) ag.rf (fun q hq => absurd hq (Nat.not_lt_zero q)))
      refine x_iconst dX6_soonest_64 ?_
      refine x_istore_n dX6_soonest_65 ?_
      exact x_loc (lv' := [(0, vr E 96), (1, vi (s : Int)), (2, vi st), (3, vi ((0 : Nat) : Int))]) ⟨rfl, rfl, rfl, rfl, trivial⟩ (loop s rfl hp1 hp2 hp1.2 7 0 m2 (by omega) (by omega) ha2 hR2)
    · obtain ⟨hp2, rfl⟩ := hf2.f h29
      refine x_iconst dX6_soonest_32 ?_
      exact x_iret dX6_soonest_33  (hP _ 0 (Or.inl ⟨2, _, Or.inr ⟨hp1, hp2, rfl, rfl⟩, rfl⟩))

end MQ
