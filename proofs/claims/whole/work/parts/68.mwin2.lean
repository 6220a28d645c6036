section MX
theorem rf2.w {p1 p2 p3 : Prop} {a b : Nat} {k : Int} {q : Nat} (h : rf2 p1 p2 a b k q) : rf2 p1 (p2 ∧ p3) a b k q := by
  rcases h with h | ⟨h1, h2, h3⟩
  · exact Or.inl h
  · exact Or.inr ⟨h1, fun z => h2 z.1, h3⟩
def edg (k w : Int) : Prop := 0 ≤ w ∧ w ≤ (if k = -1 then 0 else 1)
/-- a window's answer, and its refusals -/
def wiR (S : Nat → Prop) (M k w r : Int) : Prop := ∃ q, wR S k w q ∧ q ≠ -1000000 ∧ r = if k = -1 then q else M + q
def wrf (p1 p2 : Prop) (S : Nat → Prop) (k w k9 : Int) (q9 : Nat) : Prop := rf2 p1 p2 0 1 k9 q9 ∨ ((p1 ∧ p2) ∧ wR S k w (-1000000) ∧ k9 = 1 ∧ q9 = 0)
set_option maxRecDepth 20000 in
theorem s_mwindow {E : xE} {f : Nat → Nat} {D : Nat → Nat × Nat} {n : Nat} {m : xM} {P : xPo} {PX : xPx} {v : Nat → Int} {x y z u k w : Int} (hv : vOk v) (hN : mN v m) (hx : -2147483648 ≤ x ∧ x ≤ 2147483647) (hy : -2147483648 ≤ y ∧ y ≤ 2147483647) (hz : -2147483648 ≤ z ∧ z ≤ 2147483647) (hu : -2147483648 ≤ u ∧ u ≤ 2147483647) (hk : -2147483648 ≤ k ∧ k ≤ 2147483647) (hw : -2147483648 ≤ w ∧ w ≤ 2147483647) (hP : ∀ m' r, moR2 (wrf ((0 ≤ x ∧ x < v 5) ∧ (0 ≤ y ∧ y < v 4)) (((0 ≤ u ∧ u ≤ 10000) ∧ (4 ≤ z ∧ z ≤ 25)) ∧ edg k w) (fun i : Nat => pas v x.toNat (sh v x.toNat 0) y.toNat (u + i) z) k w) (((0 ≤ x ∧ x < v 5) ∧ (0 ≤ y ∧ y < v 4)) ∧ (((0 ≤ u ∧ u ≤ 10000) ∧ (4 ≤ z ∧ z ≤ 25)) ∧ edg k w)) (wiR (fun i : Nat => pas v x.toNat (sh v x.toNat 0) y.toNat (u + i) z) u k w) [103, 104] m m' r → P (some (vi r)) (gS f D n) m') : xC E (yX6_window, cX6_window, 8, some .int) 7 0 0 [vr E 96, vi x, vi y, vi z, vi u, vi k, vi w] (gS f D n) m P PX := by
  refine x_enter (by decide) rfl rfl (Nat.le_of_ble_eq_true rfl) ?_
  have loop : ∀ s b : Nat, x = (s : Int) → y = (b : Int) → ((0 ≤ x ∧ x < v 5) ∧ (0 ≤ y ∧ y < v 4)) → (((0 ≤ u ∧ u ≤ 10000) ∧ (4 ≤ z ∧ z ≤ 25)) ∧ edg k w) → (s : Int) < v 5 → (b : Int) < v 4 → ∀ (j i : Nat) (m2 : xM), 1440 < i + j → i ≤ 1440 → ag [103, 104] (xu m 96 0 0) m2 → (∀ q : Nat, q < i → m2 104 q = zi (pas v s (sh v s 0) b (u + q) z)) → xX E (("window", some .int, []), (7, 0, 0), P, PX) RX6 cX6_window 8 0 0 49 [(0, vr E 96), (1, vi (s : Int)), (2, vi (b : Int)), (3, vi z), (4, vi u), (5, vi k), (6, vi w), (7, vi (i : Int))] [] (gS f D n) m2 := by
    intro s b hxs hyb hp1 hp2 hs hb j
    subst hxs hyb
    have hv5 := hv.1.2.2.2.2.2.1
    obtain ⟨hdr, -⟩ := hv.1.2.2.2.2.2.2 s hs
    induction j with
    | zero => intro i m2 h1 h2; omega
    | succ j ih =>
      intro i m2 h1 h2 ha2 hS
      have hN2 := hN.z.ag ha2 (by decide)
      refine x_iload dX6_window_49 rfl ?_
      refine x_sipush dX6_window_51 (h := ?_)
      refine x_icmp_ge (tgt := 88) dX6_window_54 (by decide) (by omega) (fun h54 => ?_) (fun h54 => ?_)
      · refine x_aload_n dX6_window_88 rfl ?_
        refine x_iload dX6_window_89 rfl ?_
        refine x_iload dX6_window_91 rfl ?_
        refine x_iload dX6_window_93 rfl ?_
        refine x_V3 mX6_345 dX6_window_95 rfl (s_rowOf (S := (fun i : Nat => pas v s (sh v s 0) b (u + i) z)) (fun i hi => hS i (by omega)) (by rw [ha2 96 (by decide)]; exact th_0) hk hw (fun m3 r3 ho => ?_))
        exact x_iret dX6_window_98  (hP _ r3 (by
        rcases ho with ⟨q, h3, h4, rfl, h5⟩ | ⟨h3, h4, rfl⟩
        · exact Or.inr ⟨⟨hp1, hp2⟩, ⟨q, h3, h4, h5⟩, ha2⟩
        · exact Or.inl ⟨1, 0, m2, Or.inr ⟨⟨hp1, hp2⟩, h3, rfl, rfl⟩, ha2, rfl⟩))
      · refine x_aload_n dX6_window_57 rfl ?_
        refine x_getR (r := 104) fX6_40 dX6_window_58 rfl rfl ?_
        refine x_iload dX6_window_61 rfl ?_
        refine x_aload_n dX6_window_63 rfl ?_
        refine x_iload_n dX6_window_64 rfl ?_
        refine x_aload_n dX6_window_65 rfl ?_
        refine x_iload_n dX6_window_66 rfl ?_
        refine x_iconst dX6_window_67 ?_
        refine x_V2 mX6_241 dX6_window_68 rfl (s_ofShip (60 + 8 * s + 0) (by omega) (by omega) ?_)
        refine x_top (hN2.s (s := s) (by omega) (by omega)) ?_
        refine x_iload_n dX6_window_71 rfl ?_
        refine x_iload dX6_window_72 rfl ?_
        refine x_iload dX6_window_74 rfl ?_
        refine x_iadd dX6_window_76 ?_
        refine x_iload_n dX6_window_77 rfl ?_
        refine x_V5 mX6_277 dX6_window_78 rfl (s_canPass hv hN2 hs hb (by omega) (by omega) (by omega) (fun m3 ha3 => ?_))
        refine x_zast (j := i) dX6_window_81 rfl (by decide) (by omega) (show _ < 1440 by omega) (by omega) (zi_01 _) ?_
        refine x_iinc dX6_window_82 rfl ?_
        refine x_goto (tgt := 49) dX6_window_85 (by decide) ?_
        exact x_loc (lv' := [(0, vr E 96), (1, vi (s : Int)), (2, vi (b : Int)), (3, vi z), (4, vi u), (5, vi k), (6, vi w), (7, vi ((i + 1 : Nat) : Int))]) ⟨rfl, rfl, rfl, rfl, rfl, rfl, rfl, xl_i rfl (by omega), trivial⟩ (ih (i + 1) _ (by omega) (by omega) ((ha2.tr ha3 (by decide) (by decide)).u (by decide)) (fun q hq => by rw [xu_if]; by_cases c : q = i; rw [if_pos c, c]; rw [if_neg c, ha3 104 (by decide)]; exact hS q (by omega)))
  have hv5 := hv.1.2.2.2.2.2.1
  have hv4 := hv.1.2.2.2.2.1.1
  have hv3 := hv.1.2.2.2.1.1
  refine x_aload_n dX6_window_0 rfl ?_
  refine x_iconst dX6_window_1 ?_
  refine x_putI fX6_1 dX6_window_2 rfl (by decide) rfl rfl ?_
  refine x_aload_n dX6_window_5 rfl ?_
  refine x_iload_n dX6_window_6 rfl ?_
  refine x_iload_n dX6_window_7 rfl ?_
  refine x_iload dX6_window_8 rfl ?_
  refine x_iload_n dX6_window_10 rfl ?_
  refine x_V4 mX6_342 dX6_window_11 rfl (s_areTold hv hN.z th_0 hx hy hu hz (fun m1 r1 ho1 => ?_))
  refine x_if_eq (tgt := 44) dX6_window_14 (by decide) ho1.r (fun h14 => ?_) (fun h14 => ?_)
  · obtain ⟨k1, q1, hrf, rfl⟩ := ho1.f h14
    refine x_iconst dX6_window_44 ?_
    exact x_iret dX6_window_45  (hP _ 0 (Or.inl ⟨k1, q1, _, Or.inl hrf.w, ag.rf, rfl⟩))
  · obtain ⟨hp1, hp2, rfl⟩ := ho1.t h14
    refine x_aload_n dX6_window_17 rfl ?_
    refine x_iload dX6_window_18 rfl ?_
    refine x_i2l dX6_window_20 (by omega) ?_
    refine x_lconst0 dX6_window_21 ?_
    refine x_iload dX6_window_22 rfl ?_
    refine x_iconst dX6_window_24 ?_
    refine x_icmp_ne (tgt := 32) dX6_window_25 (by decide) (by omega) (fun h25 => ?_) (fun h25 => ?_)
    · refine x_lconst1 dX6_window_32 ?_
      refine x_S3 mX6_122 dX6_window_33 (s_lies (by omega) ?_)
      refine x_top (zi_c (show _ ↔ edg k w by unfold edg; rw [if_neg h25])) ?_
      refine x_iconst dX6_window_36 ?_
      refine x_iconst dX6_window_37 ?_
      refine x_V3 mX6_196 dX6_window_38 rfl (s_isFine (p := edg k w) (c := 2) (k := 1) th_0 (by omega) (by omega) (fun m2 r2 hf2 => ?_))
      refine x_if_ne (tgt := 46) dX6_window_41 (by decide) hf2.r (fun h41 => ?_) (fun h41 => ?_)
      · obtain ⟨hp3, rfl⟩ := hf2.t h41
        obtain ⟨s, rfl⟩ := nat_of hp1.1.1
        obtain ⟨b, rfl⟩ := nat_of hp1.2.1
        refine x_iconst dX6_window_46 ?_
        refine x_istore dX6_window_47 ?_
        exact x_loc (lv' := [(0, vr E 96), (1, vi (s : Int)), (2, vi (b : Int)), (3, vi z), (4, vi u), (5, vi k), (6, vi w), (7, vi ((0 : Nat) : Int))]) ⟨rfl, rfl, rfl, rfl, rfl, rfl, rfl, rfl, trivial⟩ (loop s b rfl rfl hp1 ⟨hp2, hp3⟩ hp1.1.2 hp1.2.2 1441 0 _ (by omega) (by omega) ag.rf (fun q hq => absurd hq (Nat.not_lt_zero q)))
      · obtain ⟨hp3, rfl⟩ := hf2.f h41
        refine x_iconst dX6_window_44 ?_
        exact x_iret dX6_window_45  (hP _ 0 (Or.inl ⟨2, 1, _, Or.inl (Or.inr ⟨hp1, fun zz => hp3 zz.2, rfl, rfl⟩), ag.rf, rfl⟩))
    · refine x_lconst0 dX6_window_28 ?_
      refine x_goto (tgt := 33) dX6_window_29 (by decide) ?_
      refine x_S3 mX6_122 dX6_window_33 (s_lies (by omega) ?_)
      refine x_top (zi_c (show _ ↔ edg k w by unfold edg; rw [if_pos (by omega)])) ?_
      refine x_iconst dX6_window_36 ?_
      refine x_iconst dX6_window_37 ?_
      refine x_V3 mX6_196 dX6_window_38 rfl (s_isFine (p := edg k w) (c := 2) (k := 1) th_0 (by omega) (by omega) (fun m2 r2 hf2 => ?_))
      refine x_if_ne (tgt := 46) dX6_window_41 (by decide) hf2.r (fun h41 => ?_) (fun h41 => ?_)
      · obtain ⟨hp3, rfl⟩ := hf2.t h41
        obtain ⟨s, rfl⟩ := nat_of hp1.1.1
        obtain ⟨b, rfl⟩ := nat_of hp1.2.1
        refine x_iconst dX6_window_46 ?_
        refine x_istore dX6_window_47 ?_
        exact x_loc (lv' := [(0, vr E 96), (1, vi (s : Int)), (2, vi (b : Int)), (3, vi z), (4, vi u), (5, vi k), (6, vi w), (7, vi ((0 : Nat) : Int))]) ⟨rfl, rfl, rfl, rfl, rfl, rfl, rfl, rfl, trivial⟩ (loop s b rfl rfl hp1 ⟨hp2, hp3⟩ hp1.1.2 hp1.2.2 1441 0 _ (by omega) (by omega) ag.rf (fun q hq => absurd hq (Nat.not_lt_zero q)))
      · obtain ⟨hp3, rfl⟩ := hf2.f h41
        refine x_iconst dX6_window_44 ?_
        exact x_iret dX6_window_45  (hP _ 0 (Or.inl ⟨2, 1, _, Or.inl (Or.inr ⟨hp1, fun zz => hp3 zz.2, rfl, rfl⟩), ag.rf, rfl⟩))

set_option maxRecDepth 20000 in
theorem s_mjoined {E : xE} {f : Nat → Nat} {D : Nat → Nat × Nat} {n : Nat} {m : xM} {P : xPo} {PX : xPx} {v : Nat → Int} {x y u k w : Int} (hv : vOk v) (hN : mN v m) (hx : -2147483648 ≤ x ∧ x ≤ 2147483647) (hy : -2147483648 ≤ y ∧ y ≤ 2147483647) (hu : -2147483648 ≤ u ∧ u ≤ 2147483647) (hk : -2147483648 ≤ k ∧ k ≤ 2147483647) (hw : -2147483648 ≤ w ∧ w ≤ 2147483647) (hP : ∀ m' r, moR2 (wrf (0 ≤ x ∧ x < v 5) ((4 ≤ y ∧ y ≤ 25) ∧ (0 ≤ u ∧ u ≤ 10000) ∧ edg k w) (fun i : Nat => good v x.toNat (sh v x.toNat 0) (u + i) y) k w) ((0 ≤ x ∧ x < v 5) ∧ ((4 ≤ y ∧ y ≤ 25) ∧ (0 ≤ u ∧ u ≤ 10000) ∧ edg k w)) (wiR (fun i : Nat => good v x.toNat (sh v x.toNat 0) (u + i) y) u k w) [103, 104] m m' r → P (some (vi r)) (gS f D n) m') : xC E (yX6_joined, cX6_joined, 7, some .int) 9 0 0 [vr E 96, vi x, vi y, vi u, vi k, vi w] (gS f D n) m P PX := by
  refine x_enter (by decide) rfl rfl (Nat.le_of_ble_eq_true rfl) ?_
  have loop : ∀ s : Nat, x = (s : Int) → (0 ≤ x ∧ x < v 5) → ((4 ≤ y ∧ y ≤ 25) ∧ (0 ≤ u ∧ u ≤ 10000) ∧ edg k w) → (s : Int) < v 5 → ∀ (j i : Nat) (m2 : xM), 1440 < i + j → i ≤ 1440 → ag [103, 104] (xu m 96 0 0) m2 → (∀ q : Nat, q < i → m2 104 q = zi (good v s (sh v s 0) (u + q) y)) → xX E (("joined", some .int, []), (9, 0, 0), P, PX) RX6 cX6_joined 7 0 0 73 [(0, vr E 96), (1, vi (s : Int)), (2, vi y), (3, vi u), (4, vi k), (5, vi w), (6, vi (i : Int))] [] (gS f D n) m2 := by
    intro s hxs hp1 hp2 hs j
    subst hxs
    induction j with
    | zero => intro i m2 h1 h2; omega
    | succ j ih =>
      intro i m2 h1 h2 ha2 hS
      have hN2 := hN.z.ag ha2 (by decide)
      refine x_iload dX6_joined_73 rfl ?_
      refine x_sipush dX6_joined_75 (h := ?_)
      refine x_icmp_ge (tgt := 104) dX6_joined_78 (by decide) (by omega) (fun h78 => ?_) (fun h78 => ?_)
      · refine x_aload_n dX6_joined_104 rfl ?_
        refine x_iload_n dX6_joined_105 rfl ?_
        refine x_iload dX6_joined_106 rfl ?_
        refine x_iload dX6_joined_108 rfl ?_
        refine x_V3 mX6_345 dX6_joined_110 rfl (s_rowOf (S := (fun i : Nat => good v s (sh v s 0) (u + i) y)) (fun i hi => hS i (by omega)) (by rw [ha2 96 (by decide)]; exact th_0) hk hw (fun m3 r3 ho => ?_))
        exact x_iret dX6_joined_113  (hP _ r3 (by
        rcases ho with ⟨q, h3, h4, rfl, h5⟩ | ⟨h3, h4, rfl⟩
        · exact Or.inr ⟨⟨hp1, hp2⟩, ⟨q, h3, h4, h5⟩, ha2⟩
        · exact Or.inl ⟨1, 0, m2, Or.inr ⟨⟨hp1, hp2⟩, h3, rfl, rfl⟩, ha2, rfl⟩))
      · refine x_aload_n dX6_joined_81 rfl ?_
        refine x_getR (r := 104) fX6_40 dX6_joined_82 rfl rfl ?_
        refine x_iload dX6_joined_85 rfl ?_
        refine x_aload_n dX6_joined_87 rfl ?_
        refine x_iload_n dX6_joined_88 rfl ?_
        refine x_iload_n dX6_joined_89 rfl ?_
        refine x_iload dX6_joined_90 rfl ?_
        refine x_iadd dX6_joined_92 ?_
        refine x_iload_n dX6_joined_93 rfl ?_
        refine x_V3 mX6_318 dX6_joined_94 rfl (s_goesWell hv hN2 hs (by omega) (by omega) (fun m3 ha3 => ?_))
        refine x_zast (j := i) dX6_joined_97 rfl (by decide) (by omega) (show _ < 1440 by omega) (by omega) (zi_01 _) ?_
        refine x_iinc dX6_joined_98 rfl ?_
        refine x_goto (tgt := 73) dX6_joined_101 (by decide) ?_
        exact x_loc (lv' := [(0, vr E 96), (1, vi (s : Int)), (2, vi y), (3, vi u), (4, vi k), (5, vi w), (6, vi ((i + 1 : Nat) : Int))]) ⟨rfl, rfl, rfl, rfl, rfl, rfl, xl_i rfl (by omega), trivial⟩ (ih (i + 1) _ (by omega) (by omega) ((ha2.tr ha3 (by decide) (by decide)).u (by decide)) (fun q hq => by rw [xu_if]; by_cases c : q = i; rw [if_pos c, c]; rw [if_neg c, ha3 104 (by decide)]; exact hS q (by omega)))
  have hv5 := hv.1.2.2.2.2.2.1
  have hv4 := hv.1.2.2.2.2.1.1
  have hv3 := hv.1.2.2.2.1.1
  refine x_aload_n dX6_joined_0 rfl ?_
  refine x_iconst dX6_joined_1 ?_
  refine x_putI fX6_1 dX6_joined_2 rfl (by decide) rfl rfl ?_
  refine x_aload_n dX6_joined_5 rfl ?_
  refine x_aload_n dX6_joined_6 rfl ?_
  refine x_iload_n dX6_joined_7 rfl ?_
  refine x_V1 mX6_300 dX6_joined_8 rfl (s_isShip hv hN.z hx ?_)
  refine x_iconst dX6_joined_11 ?_
  refine x_iconst dX6_joined_12 ?_
  refine x_V3 mX6_196 dX6_joined_13 rfl (s_isFine (p := 0 ≤ x ∧ x < v 5) (c := 1) (k := 0) th_0 (by omega) (by omega) (fun m1 r1 hf1 => ?_))
  refine x_if_eq (tgt := 68) dX6_joined_16 (by decide) hf1.r (fun h16 => ?_) (fun h16 => ?_)
  · obtain ⟨hp1, rfl⟩ := hf1.f h16
    refine x_iconst dX6_joined_68 ?_
    exact x_iret dX6_joined_69  (hP _ 0 (Or.inl ⟨1, _, _, Or.inl (Or.inl ⟨hp1, rfl, rfl⟩), ag.rf, rfl⟩))
  · obtain ⟨hp1, rfl⟩ := hf1.t h16
    refine x_aload_n dX6_joined_19 rfl ?_
    refine x_iload_n dX6_joined_20 rfl ?_
    refine x_S1 mX6_339 dX6_joined_21 (s_isSpeed hy ?_)
    refine x_if_eq (tgt := 59) dX6_joined_24 (by decide) (zi_r _) (fun h24 => ?_) (fun h24 => ?_)
    · refine x_iconst dX6_joined_59 ?_
      refine x_top ((zi_f (fun zz : ((4 ≤ y ∧ y ≤ 25) ∧ (0 ≤ u ∧ u ≤ 10000) ∧ edg k w) => zi_0.mp h24 zz.1)).symm) ?_
      refine x_iconst dX6_joined_60 ?_
      refine x_iconst dX6_joined_61 ?_
      refine x_V3 mX6_196 dX6_joined_62 rfl (s_isFine (p := (4 ≤ y ∧ y ≤ 25) ∧ (0 ≤ u ∧ u ≤ 10000) ∧ edg k w) (c := 2) (k := 1) th_0 (by omega) (by omega) (fun m2 r2 hf2 => ?_))
      refine x_if_ne (tgt := 70) dX6_joined_65 (by decide) hf2.r (fun h65 => ?_) (fun h65 => ?_)
      · obtain ⟨hp2, rfl⟩ := hf2.t h65
        obtain ⟨s, rfl⟩ := nat_of hp1.1
        refine x_iconst dX6_joined_70 ?_
        refine x_istore dX6_joined_71 ?_
        exact x_loc (lv' := [(0, vr E 96), (1, vi (s : Int)), (2, vi y), (3, vi u), (4, vi k), (5, vi w), (6, vi ((0 : Nat) : Int))]) ⟨rfl, rfl, rfl, rfl, rfl, rfl, rfl, trivial⟩ (loop s rfl hp1 hp2 hp1.2 1441 0 _ (by omega) (by omega) ag.rf (fun q hq => absurd hq (Nat.not_lt_zero q)))
      · obtain ⟨hp2, rfl⟩ := hf2.f h65
        refine x_iconst dX6_joined_68 ?_
        exact x_iret dX6_joined_69  (hP _ 0 (Or.inl ⟨2, _, _, Or.inl (Or.inr ⟨hp1, hp2, rfl, rfl⟩), ag.rf, rfl⟩))
    · refine x_iload_n dX6_joined_27 rfl ?_
      refine x_S1 mX6_336 dX6_joined_28 (s_isMinute hu ?_)
      refine x_if_eq (tgt := 59) dX6_joined_31 (by decide) (zi_r _) (fun h31 => ?_) (fun h31 => ?_)
      · refine x_iconst dX6_joined_59 ?_
        refine x_top ((zi_f (fun zz : ((4 ≤ y ∧ y ≤ 25) ∧ (0 ≤ u ∧ u ≤ 10000) ∧ edg k w) => zi_0.mp h31 zz.2.1)).symm) ?_
        refine x_iconst dX6_joined_60 ?_
        refine x_iconst dX6_joined_61 ?_
        refine x_V3 mX6_196 dX6_joined_62 rfl (s_isFine (p := (4 ≤ y ∧ y ≤ 25) ∧ (0 ≤ u ∧ u ≤ 10000) ∧ edg k w) (c := 2) (k := 1) th_0 (by omega) (by omega) (fun m2 r2 hf2 => ?_))
        refine x_if_ne (tgt := 70) dX6_joined_65 (by decide) hf2.r (fun h65 => ?_) (fun h65 => ?_)
        · obtain ⟨hp2, rfl⟩ := hf2.t h65
          obtain ⟨s, rfl⟩ := nat_of hp1.1
          refine x_iconst dX6_joined_70 ?_
          refine x_istore dX6_joined_71 ?_
          exact x_loc (lv' := [(0, vr E 96), (1, vi (s : Int)), (2, vi y), (3, vi u), (4, vi k), (5, vi w), (6, vi ((0 : Nat) : Int))]) ⟨rfl, rfl, rfl, rfl, rfl, rfl, rfl, trivial⟩ (loop s rfl hp1 hp2 hp1.2 1441 0 _ (by omega) (by omega) ag.rf (fun q hq => absurd hq (Nat.not_lt_zero q)))
        · obtain ⟨hp2, rfl⟩ := hf2.f h65
          refine x_iconst dX6_joined_68 ?_
          exact x_iret dX6_joined_69  (hP _ 0 (Or.inl ⟨2, _, _, Or.inl (Or.inr ⟨hp1, hp2, rfl, rfl⟩), ag.rf, rfl⟩))
      · refine x_iload dX6_joined_34 rfl ?_
        refine x_i2l dX6_joined_36 (by omega) ?_
        refine x_lconst0 dX6_joined_37 ?_
        refine x_iload dX6_joined_38 rfl ?_
        refine x_iconst dX6_joined_40 ?_
        refine x_icmp_ne (tgt := 48) dX6_joined_41 (by decide) (by omega) (fun h41 => ?_) (fun h41 => ?_)
        · refine x_lconst1 dX6_joined_48 ?_
          refine x_S3 mX6_122 dX6_joined_49 (s_lies (by omega) ?_)
          refine x_top (zi_c (show _ ↔ edg k w by unfold edg; rw [if_neg h41])) ?_
          refine x_if_eq (tgt := 59) dX6_joined_52 (by decide) (zi_r _) (fun h52 => ?_) (fun h52 => ?_)
          · refine x_iconst dX6_joined_59 ?_
            refine x_top ((zi_f (fun zz : ((4 ≤ y ∧ y ≤ 25) ∧ (0 ≤ u ∧ u ≤ 10000) ∧ edg k w) => zi_0.mp h52 zz.2.2)).symm) ?_
            refine x_iconst dX6_joined_60 ?_
            refine x_iconst dX6_joined_61 ?_
            refine x_V3 mX6_196 dX6_joined_62 rfl (s_isFine (p := (4 ≤ y ∧ y ≤ 25) ∧ (0 ≤ u ∧ u ≤ 10000) ∧ edg k w) (c := 2) (k := 1) th_0 (by omega) (by omega) (fun m2 r2 hf2 => ?_))
            refine x_if_ne (tgt := 70) dX6_joined_65 (by decide) hf2.r (fun h65 => ?_) (fun h65 => ?_)
            · obtain ⟨hp2, rfl⟩ := hf2.t h65
              obtain ⟨s, rfl⟩ := nat_of hp1.1
              refine x_iconst dX6_joined_70 ?_
              refine x_istore dX6_joined_71 ?_
              exact x_loc (lv' := [(0, vr E 96), (1, vi (s : Int)), (2, vi y), (3, vi u), (4, vi k), (5, vi w), (6, vi ((0 : Nat) : Int))]) ⟨rfl, rfl, rfl, rfl, rfl, rfl, rfl, trivial⟩ (loop s rfl hp1 hp2 hp1.2 1441 0 _ (by omega) (by omega) ag.rf (fun q hq => absurd hq (Nat.not_lt_zero q)))
            · obtain ⟨hp2, rfl⟩ := hf2.f h65
              refine x_iconst dX6_joined_68 ?_
              exact x_iret dX6_joined_69  (hP _ 0 (Or.inl ⟨2, _, _, Or.inl (Or.inr ⟨hp1, hp2, rfl, rfl⟩), ag.rf, rfl⟩))
          · refine x_iconst dX6_joined_55 ?_
            refine x_goto (tgt := 60) dX6_joined_56 (by decide) ?_
            refine x_top ((zi_t (show (4 ≤ y ∧ y ≤ 25) ∧ (0 ≤ u ∧ u ≤ 10000) ∧ edg k w from ⟨zi_1.mp h24, zi_1.mp h31, zi_1.mp h52⟩)).symm) ?_
            refine x_iconst dX6_joined_60 ?_
            refine x_iconst dX6_joined_61 ?_
            refine x_V3 mX6_196 dX6_joined_62 rfl (s_isFine (p := (4 ≤ y ∧ y ≤ 25) ∧ (0 ≤ u ∧ u ≤ 10000) ∧ edg k w) (c := 2) (k := 1) th_0 (by omega) (by omega) (fun m2 r2 hf2 => ?_))
            refine x_if_ne (tgt := 70) dX6_joined_65 (by decide) hf2.r (fun h65 => ?_) (fun h65 => ?_)
            · obtain ⟨hp2, rfl⟩ := hf2.t h65
              obtain ⟨s, rfl⟩ := nat_of hp1.1
              refine x_iconst dX6_joined_70 ?_
              refine x_istore dX6_joined_71 ?_
              exact x_loc (lv' := [(0, vr E 96), (1, vi (s : Int)), (2, vi y), (3, vi u), (4, vi k), (5, vi w), (6, vi ((0 : Nat) : Int))]) ⟨rfl, rfl, rfl, rfl, rfl, rfl, rfl, trivial⟩ (loop s rfl hp1 hp2 hp1.2 1441 0 _ (by omega) (by omega) ag.rf (fun q hq => absurd hq (Nat.not_lt_zero q)))
            · obtain ⟨hp2, rfl⟩ := hf2.f h65
              refine x_iconst dX6_joined_68 ?_
              exact x_iret dX6_joined_69  (hP _ 0 (Or.inl ⟨2, _, _, Or.inl (Or.inr ⟨hp1, hp2, rfl, rfl⟩), ag.rf, rfl⟩))
        · refine x_lconst0 dX6_joined_44 ?_
          refine x_goto (tgt := 49) dX6_joined_45 (by decide) ?_
          refine x_S3 mX6_122 dX6_joined_49 (s_lies (by omega) ?_)
          refine x_top (zi_c (show _ ↔ edg k w by unfold edg; rw [if_pos (by omega)])) ?_
          refine x_if_eq (tgt := 59) dX6_joined_52 (by decide) (zi_r _) (fun h52 => ?_) (fun h52 => ?_)
          · refine x_iconst dX6_joined_59 ?_
            refine x_top ((zi_f (fun zz : ((4 ≤ y ∧ y ≤ 25) ∧ (0 ≤ u ∧ u ≤ 10000) ∧ edg k w) => zi_0.mp h52 zz.2.2)).symm) ?_
            refine x_iconst dX6_joined_60 ?_
            refine x_iconst dX6_joined_61 ?_
            refine x_V3 mX6_196 dX6_joined_62 rfl (s_isFine (p := (4 ≤ y ∧ y ≤ 25) ∧ (0 ≤ u ∧ u ≤ 10000) ∧ edg k w) (c := 2) (k := 1) th_0 (by omega) (by omega) (fun m2 r2 hf2 => ?_))
            refine x_if_ne (tgt := 70) dX6_joined_65 (by decide) hf2.r (fun h65 => ?_) (fun h65 => ?_)
            · obtain ⟨hp2, rfl⟩ := hf2.t h65
              obtain ⟨s, rfl⟩ := nat_of hp1.1
              refine x_iconst dX6_joined_70 ?_
              refine x_istore dX6_joined_71 ?_
              exact x_loc (lv' := [(0, vr E 96), (1, vi (s : Int)), (2, vi y), (3, vi u), (4, vi k), (5, vi w), (6, vi ((0 : Nat) : Int))]) ⟨rfl, rfl, rfl, rfl, rfl, rfl, rfl, trivial⟩ (loop s rfl hp1 hp2 hp1.2 1441 0 _ (by omega) (by omega) ag.rf (fun q hq => absurd hq (Nat.not_lt_zero q)))
            · obtain ⟨hp2, rfl⟩ := hf2.f h65
              refine x_iconst dX6_joined_68 ?_
              exact x_iret dX6_joined_69  (hP _ 0 (Or.inl ⟨2, _, _, Or.inl (Or.inr ⟨hp1, hp2, rfl, rfl⟩), ag.rf, rfl⟩))
          · refine x_iconst dX6_joined_55 ?_
            refine x_goto (tgt := 60) dX6_joined_56 (by decide) ?_
            refine x_top ((zi_t (show (4 ≤ y ∧ y ≤ 25) ∧ (0 ≤ u ∧ u ≤ 10000) ∧ edg k w from ⟨zi_1.mp h24, zi_1.mp h31, zi_1.mp h52⟩)).symm) ?_
            refine x_iconst dX6_joined_60 ?_
            refine x_iconst dX6_joined_61 ?_
            refine x_V3 mX6_196 dX6_joined_62 rfl (s_isFine (p := (4 ≤ y ∧ y ≤ 25) ∧ (0 ≤ u ∧ u ≤ 10000) ∧ edg k w) (c := 2) (k := 1) th_0 (by omega) (by omega) (fun m2 r2 hf2 => ?_))
            refine x_if_ne (tgt := 70) dX6_joined_65 (by decide) hf2.r (fun h65 => ?_) (fun h65 => ?_)
            · obtain ⟨hp2, rfl⟩ := hf2.t h65
              obtain ⟨s, rfl⟩ := nat_of hp1.1
              refine x_iconst dX6_joined_70 ?_
              refine x_istore dX6_joined_71 ?_
              exact x_loc (lv' := [(0, vr E 96), (1, vi (s : Int)), (2, vi y), (3, vi u), (4, vi k), (5, vi w), (6, vi ((0 : Nat) : Int))]) ⟨rfl, rfl, rfl, rfl, rfl, rfl, rfl, trivial⟩ (loop s rfl hp1 hp2 hp1.2 1441 0 _ (by omega) (by omega) ag.rf (fun q hq => absurd hq (Nat.not_lt_zero q)))
            · obtain ⟨hp2, rfl⟩ := hf2.f h65
              refine x_iconst dX6_joined_68 ?_
              exact x_iret dX6_joined_69  (hP _ 0 (Or.inl ⟨2, _, _, Or.inl (Or.inr ⟨hp1, hp2, rfl, rfl⟩), ag.rf, rfl⟩))

set_option maxRecDepth 20000 in
theorem s_mdeepest {E : xE} {f : Nat → Nat} {D : Nat → Nat × Nat} {n : Nat} {m : xM} {P : xPo} {PX : xPx} {v : Nat → Int} {x y z : Int} (hv : vOk v) (hN : mN v m) (hx : -2147483648 ≤ x ∧ x ≤ 2147483647) (hy : -2147483648 ≤ y ∧ y ≤ 2147483647) (hz : -2147483648 ≤ z ∧ z ≤ 2147483647) (hP : ∀ m' r, moR (rf2 (0 ≤ x ∧ x < v 5) ((0 ≤ y ∧ y ≤ 10000) ∧ (4 ≤ z ∧ z ≤ 25)) 0 1) ((0 ≤ x ∧ x < v 5) ∧ ((0 ≤ y ∧ y ≤ 10000) ∧ (4 ≤ z ∧ z ≤ 25))) (fun r => r = dps v x.toNat y z) [103] m m' r → P (some (vi r)) (gS f D n) m') : xC E (yX6_deepest, cX6_deepest, 5, some .int) 8 0 0 [vr E 96, vi x, vi y, vi z] (gS f D n) m P PX := by
  refine x_enter (by decide) rfl rfl (Nat.le_of_ble_eq_true rfl) ?_
  have loop : ∀ s : Nat, x = (s : Int) → (0 ≤ x ∧ x < v 5) → ((0 ≤ y ∧ y ≤ 10000) ∧ (4 ≤ z ∧ z ≤ 25)) → (s : Int) < v 5 → ∀ (j : Nat) (d : Int) (m2 : xM), d < 99 + j → 99 ≤ d ∧ d ≤ 2500 → ag [103] (xu m 96 0 0) m2 → (∀ c, d < c → c ≤ 2500 → ¬ good v s c y z) → xX E (("deepest", some .int, []), (8, 0, 0), P, PX) RX6 cX6_deepest 5 0 0 22 [(0, vr E 96), (1, vi (s : Int)), (2, vi y), (3, vi z), (4, vi d)] [] (gS f D n) m2 := by
    intro s hxs hp1 hp2 hs j
    subst hxs
    induction j with
    | zero => intro d m2 h1 h2; omega
    | succ j ih =>
      intro d m2 h1 h2 ha2 hc
      have hN2 := hN.z.ag ha2 (by decide)
      refine x_iload dX6_deepest_22 rfl ?_
      refine x_bipush dX6_deepest_24 (h := ?_)
      refine x_icmp_lt (tgt := 50) dX6_deepest_26 (by decide) (by omega) (fun h26 => ?_) (fun h26 => ?_)
      · refine x_iconst dX6_deepest_50 ?_
        exact x_iret dX6_deepest_51  (hP _ _ (Or.inr ⟨⟨hp1, hp2⟩, (dps_eq (show dpR v s y z (-1) from Or.inl ⟨rfl, fun c h4 h5 => hc c (by omega) h5⟩)).symm, ha2⟩))
      · refine x_aload_n dX6_deepest_29 rfl ?_
        refine x_iload_n dX6_deepest_30 rfl ?_
        refine x_iload dX6_deepest_31 rfl ?_
        refine x_iload_n dX6_deepest_33 rfl ?_
        refine x_iload_n dX6_deepest_34 rfl ?_
        refine x_V4 mX6_280 dX6_deepest_35 rfl (s_misGood hv hN2 hs (by omega) (by omega) (by omega) (fun m3 ha3 => ?_))
        refine x_if_eq (tgt := 44) dX6_deepest_38 (by decide) (zi_r _) (fun h38 => ?_) (fun h38 => ?_)
        · have hx9 := zi_0.mp h38
          refine x_iinc dX6_deepest_44 rfl ?_
          refine x_goto (tgt := 22) dX6_deepest_47 (by decide) ?_
          exact x_loc (lv' := [(0, vr E 96), (1, vi (s : Int)), (2, vi y), (3, vi z), (4, vi (d - 1))]) ⟨rfl, rfl, rfl, rfl, xl_i rfl (by omega), trivial⟩ (ih (d - 1) m3 (by omega) (by omega) (ha2.tr1 ha3) (fun c h4 h5 => by rcases (by omega : d < c ∨ c = d) with yy | yy; exact hc c yy h5; exact yy ▸ hx9))
        · have hx9 := zi_1.mp h38
          refine x_iload dX6_deepest_41 rfl ?_
          exact x_iret dX6_deepest_43  (hP _ _ (Or.inr ⟨⟨hp1, hp2⟩, (dps_eq (show dpR v s y z d from Or.inr ⟨by omega, by omega, hx9, hc⟩)).symm, ha2.tr1 ha3⟩))
  refine x_aload_n dX6_deepest_0 rfl ?_
  refine x_iconst dX6_deepest_1 ?_
  refine x_putI fX6_1 dX6_deepest_2 rfl (by decide) rfl rfl ?_
  refine x_aload_n dX6_deepest_5 rfl ?_
  refine x_iload_n dX6_deepest_6 rfl ?_
  refine x_iload_n dX6_deepest_7 rfl ?_
  refine x_iload_n dX6_deepest_8 rfl ?_
  refine x_V3 mX6_348 dX6_deepest_9 rfl (s_areGiven hv hN.z th_0 hx hy hz (fun m1 r1 ho1 => ?_))
  refine x_if_ne (tgt := 17) dX6_deepest_12 (by decide) ho1.r (fun h12 => ?_) (fun h12 => ?_)
  · obtain ⟨hp1, hp2, rfl⟩ := ho1.t h12
    obtain ⟨s, rfl⟩ := nat_of hp1.1
    refine x_sipush dX6_deepest_17 (h := ?_)
    refine x_istore dX6_deepest_20 ?_
    exact x_loc (lv' := [(0, vr E 96), (1, vi (s : Int)), (2, vi y), (3, vi z), (4, vi 2500)]) ⟨rfl, rfl, rfl, rfl, rfl, trivial⟩ (loop s rfl hp1 hp2 hp1.2 2500 2500 _ (by omega) (by omega) ag.rf (fun c h4 h5 => by omega))
  · obtain ⟨k1, q1, hrf, rfl⟩ := ho1.f h12
    refine x_iconst dX6_deepest_15 ?_
    exact x_iret dX6_deepest_16  (hP _ 0 (Or.inl ⟨k1, q1, hrf, rfl⟩))

end MX
