section MB
set_option maxRecDepth 20000 in
theorem s_msquat {E : xE} {f : Nat → Nat} {D : Nat → Nat × Nat} {n : Nat} {m : xM} {P : xPo} {PX : xPx} {v : Nat → Int} {x y z w : Int} (hv : vOk v) (hN : mN v m) (hx : -2147483648 ≤ x ∧ x ≤ 2147483647) (hy : -2147483648 ≤ y ∧ y ≤ 2147483647) (hz : -2147483648 ≤ z ∧ z ≤ 2147483647) (hw : -2147483648 ≤ w ∧ w ≤ 2147483647) (hP : ∀ m' r, moR (rf2 ((0 ≤ x ∧ x < v 5) ∧ (0 ≤ y ∧ y < v 4)) ((0 ≤ z ∧ z ≤ 10000) ∧ (4 ≤ w ∧ w ≤ 25)) 0 1) (((0 ≤ x ∧ x < v 5) ∧ (0 ≤ y ∧ y < v 4)) ∧ ((0 ≤ z ∧ z ≤ 10000) ∧ (4 ≤ w ∧ w ≤ 25))) (fun r => r = sk v x.toNat (sh v x.toNat 0) (wa v y.toNat z) w) [103] m m' r → P (some (vi r)) (gS f D n) m') : xC E (yX6_squat, cX6_squat, 5, some .int) 4 0 0 [vr E 96, vi x, vi y, vi z, vi w] (gS f D n) m P PX := by
  refine x_enter (by decide) rfl rfl (Nat.le_of_ble_eq_true rfl) ?_
  have hv5 := hv.1.2.2.2.2.2.1
  have hv4 := hv.1.2.2.2.2.1.1
  have hv3 := hv.1.2.2.2.1.1
  refine x_aload_n dX6_squat_0 rfl ?_
  refine x_iconst dX6_squat_1 ?_
  refine x_putI fX6_1 dX6_squat_2 rfl (by decide) rfl rfl ?_
  refine x_aload_n dX6_squat_5 rfl ?_
  refine x_iload_n dX6_squat_6 rfl ?_
  refine x_iload_n dX6_squat_7 rfl ?_
  refine x_iload_n dX6_squat_8 rfl ?_
  refine x_iload dX6_squat_9 rfl ?_
  refine x_V4 mX6_342 dX6_squat_11 rfl (s_areTold hv hN.z th_0 hx hy hz hw (fun m1 r1 ho1 => ?_))
  refine x_if_eq (tgt := 39) dX6_squat_14 (by decide) ho1.r (fun h14 => ?_) (fun h14 => ?_)
  · obtain ⟨k1, q1, hrf, rfl⟩ := ho1.f h14
    refine x_iconst dX6_squat_39 ?_
    exact x_iret dX6_squat_40  (hP _ 0 (Or.inl ⟨k1, q1, hrf, rfl⟩))
  · obtain ⟨hp1, hp2, rfl⟩ := ho1.t h14
    obtain ⟨s, rfl⟩ := nat_of hp1.1.1
    obtain ⟨b, rfl⟩ := nat_of hp1.2.1
    obtain ⟨hdr, -⟩ := hv.1.2.2.2.2.2.2 s hp1.1.2
    have hwb := wa_b (t := z) hv.1 hp1.2.2
    refine x_aload_n dX6_squat_17 rfl ?_
    refine x_iload_n dX6_squat_18 rfl ?_
    refine x_aload_n dX6_squat_19 rfl ?_
    refine x_iload_n dX6_squat_20 rfl ?_
    refine x_iconst dX6_squat_21 ?_
    refine x_V2 mX6_241 dX6_squat_22 rfl (s_ofShip (60 + 8 * s + 0) (by omega) (by omega) ?_)
    refine x_top (hN.z.s (s := s) (by omega) (by omega)) ?_
    refine x_aload_n dX6_squat_25 rfl ?_
    refine x_iload_n dX6_squat_26 rfl ?_
    refine x_iload_n dX6_squat_27 rfl ?_
    refine x_V2 mX6_250 dX6_squat_28 rfl (s_mwaterAt hv.1 hN.z (by omega) (by omega) ?_)
    refine x_iload dX6_squat_31 rfl ?_
    refine x_V4 mX6_253 dX6_squat_33 rfl (s_msinks hv hN.z (by omega) (by omega) (by omega) (by omega) (fun m2 ha2 => ?_))
    refine x_goto (tgt := 40) dX6_squat_36 (by decide) ?_
    exact x_iret dX6_squat_40  (hP _ _ (Or.inr ⟨⟨hp1, hp2⟩, rfl, ha2⟩))

set_option maxRecDepth 20000 in
theorem s_mleft {E : xE} {f : Nat → Nat} {D : Nat → Nat × Nat} {n : Nat} {m : xM} {P : xPo} {PX : xPx} {v : Nat → Int} {x y z w : Int} (hv : vOk v) (hN : mN v m) (hx : -2147483648 ≤ x ∧ x ≤ 2147483647) (hy : -2147483648 ≤ y ∧ y ≤ 2147483647) (hz : -2147483648 ≤ z ∧ z ≤ 2147483647) (hw : -2147483648 ≤ w ∧ w ≤ 2147483647) (hP : ∀ m' r, moR (rf2 ((0 ≤ x ∧ x < v 5) ∧ (0 ≤ y ∧ y < v 4)) ((0 ≤ z ∧ z ≤ 10000) ∧ (4 ≤ w ∧ w ≤ 25)) 0 1) (((0 ≤ x ∧ x < v 5) ∧ (0 ≤ y ∧ y < v 4)) ∧ ((0 ≤ z ∧ z ≤ 10000) ∧ (4 ≤ w ∧ w ≤ 25))) (fun r => r = lfw v x.toNat (sh v x.toNat 0) (wa v y.toNat z) w) [103] m m' r → P (some (vi r)) (gS f D n) m') : xC E (yX6_left, cX6_left, 5, some .int) 5 0 0 [vr E 96, vi x, vi y, vi z, vi w] (gS f D n) m P PX := by
  refine x_enter (by decide) rfl rfl (Nat.le_of_ble_eq_true rfl) ?_
  have hv5 := hv.1.2.2.2.2.2.1
  have hv4 := hv.1.2.2.2.2.1.1
  have hv3 := hv.1.2.2.2.1.1
  refine x_aload_n dX6_left_0 rfl ?_
  refine x_iconst dX6_left_1 ?_
  refine x_putI fX6_1 dX6_left_2 rfl (by decide) rfl rfl ?_
  refine x_aload_n dX6_left_5 rfl ?_
  refine x_iload_n dX6_left_6 rfl ?_
  refine x_iload_n dX6_left_7 rfl ?_
  refine x_iload_n dX6_left_8 rfl ?_
  refine x_iload dX6_left_9 rfl ?_
  refine x_V4 mX6_342 dX6_left_11 rfl (s_areTold hv hN.z th_0 hx hy hz hw (fun m1 r1 ho1 => ?_))
  refine x_if_eq (tgt := 35) dX6_left_14 (by decide) ho1.r (fun h14 => ?_) (fun h14 => ?_)
  · obtain ⟨k1, q1, hrf, rfl⟩ := ho1.f h14
    refine x_iconst dX6_left_35 ?_
    exact x_iret dX6_left_36  (hP _ 0 (Or.inl ⟨k1, q1, hrf, rfl⟩))
  · obtain ⟨hp1, hp2, rfl⟩ := ho1.t h14
    obtain ⟨s, rfl⟩ := nat_of hp1.1.1
    obtain ⟨b, rfl⟩ := nat_of hp1.2.1
    obtain ⟨hdr, -⟩ := hv.1.2.2.2.2.2.2 s hp1.1.2
    refine x_aload_n dX6_left_17 rfl ?_
    refine x_iload_n dX6_left_18 rfl ?_
    refine x_aload_n dX6_left_19 rfl ?_
    refine x_iload_n dX6_left_20 rfl ?_
    refine x_iconst dX6_left_21 ?_
    refine x_V2 mX6_241 dX6_left_22 rfl (s_ofShip (60 + 8 * s + 0) (by omega) (by omega) ?_)
    refine x_top (hN.z.s (s := s) (by omega) (by omega)) ?_
    refine x_iload_n dX6_left_25 rfl ?_
    refine x_iload_n dX6_left_26 rfl ?_
    refine x_iload dX6_left_27 rfl ?_
    refine x_V5 mX6_257 dX6_left_29 rfl (s_leftBy hv hN.z (by omega) (by omega) (by omega) (by omega) (by omega) (fun m2 ha2 => ?_))
    refine x_goto (tgt := 36) dX6_left_32 (by decide) ?_
    exact x_iret dX6_left_36  (hP _ _ (Or.inr ⟨⟨hp1, hp2⟩, rfl, ha2⟩))

/-- the first minute of a row with the highest water (what 0) or the lowest -/
def hsg (v : Nat → Int) (w t : Int) : Int := if w = 0 then ht v t else - ht v t
def pkR (v : Nat → Int) (x y w r : Int) : Prop := (x ≤ r ∧ r < x + y) ∧ (∀ t, x ≤ t → t < r → hsg v w t < hsg v w r) ∧ ∀ t, r < t → t < x + y → hsg v w t ≤ hsg v w r
theorem pkR_u {v : Nat → Int} {x y w a b : Int} (ha : pkR v x y w a) (hb : pkR v x y w b) : a = b := by
  obtain ⟨a1, a2, a3⟩ := ha
  obtain ⟨b1, b2, b3⟩ := hb
  rcases (by omega : a < b ∨ a = b ∨ b < a) with q | q | q
  · have h1 := b2 a a1.1 q
    have h2 := a3 b q b1.2
    omega
  · exact q
  · have h1 := a2 b b1.1 q
    have h2 := b3 a q a1.2
    omega
theorem pk_no {v : Nat → Int} {x w r t : Int} (h : pkR v x (t - x) w r) (hn : hsg v w t ≤ hsg v w r) : pkR v x (t + 1 - x) w r := by
  obtain ⟨a1, a2, a3⟩ := h
  refine ⟨by omega, a2, fun q h1 h2 => ?_⟩
  rcases (by omega : q < t ∨ q = t) with z | z
  · exact a3 q h1 (by omega)
  · rw [z]; exact hn
theorem pk_yes {v : Nat → Int} {x w r t : Int} (h : pkR v x (t - x) w r) (hn : hsg v w r < hsg v w t) : pkR v x (t + 1 - x) w t := by
  obtain ⟨a1, a2, a3⟩ := h
  refine ⟨by omega, fun q h1 h2 => ?_, fun q h1 h2 => by omega⟩
  rcases (by omega : q < r ∨ q = r ∨ r < q) with z | z | z
  · have := a2 q h1 z; omega
  · rw [z]; exact hn
  · have := a3 q z (by omega); omega
def abv (v : Nat → Int) (b : Nat) (y t : Int) : Nat → Int
  | 0 => 0
  | k + 1 => abv v b y t k + (if y ≤ wa v b (t + k) then 1 else 0)
def ftR (v : Nat → Int) (s b : Nat) (t r : Int) : Prop :=
  ((sh v s 3 ≤ r ∧ r ≤ sh v s 4) ∧ clr v s (sh v s 0) (wa v b t) r ∧ ∀ q, r < q → q ≤ sh v s 4 → ¬ clr v s (sh v s 0) (wa v b t) q) ∨ (r = -1 ∧ ∀ q, sh v s 3 ≤ q → q ≤ sh v s 4 → ¬ clr v s (sh v s 0) (wa v b t) q)
theorem ftR_u {v : Nat → Int} {s b : Nat} {t x y : Int} (ha : ftR v s b t x) (hb : ftR v s b t y) : x = y := by
  rcases ha with ⟨a1, a2, a3⟩ | ⟨a1, a2⟩
  · rcases hb with ⟨b1, b2, b3⟩ | ⟨b1, b2⟩
    · rcases (by omega : x < y ∨ x = y ∨ y < x) with q | q | q
      · exact absurd b2 (a3 y q b1.2)
      · exact q
      · exact absurd a2 (b3 x q a1.2)
    · exact absurd a2 (b2 x a1.1 a1.2)
  · rcases hb with ⟨b1, b2, b3⟩ | ⟨b1, b2⟩
    · exact absurd b2 (a2 y b1.1 b1.2)
    · omega
set_option maxRecDepth 20000 in
theorem s_mpeak {E : xE} {f : Nat → Nat} {D : Nat → Nat × Nat} {n : Nat} {m : xM} {P : xPo} {PX : xPx} {v : Nat → Int} {x y z : Int} (hv : vOk v) (hN : mN v m) (hx : -2147483648 ≤ x ∧ x ≤ 2147483647) (hy : -2147483648 ≤ y ∧ y ≤ 2147483647) (hz : -2147483648 ≤ z ∧ z ≤ 2147483647) (hP : ∀ m' r, moR (rf1 ((0 ≤ x ∧ x ≤ 10000) ∧ (1 ≤ y ∧ y ≤ 2000) ∧ (0 ≤ z ∧ z ≤ 1)) 1) ((0 ≤ x ∧ x ≤ 10000) ∧ (1 ≤ y ∧ y ≤ 2000) ∧ (0 ≤ z ∧ z ≤ 1)) (fun r => pkR v x y z r) [] m m' r → P (some (vi r)) (gS f D n) m') : xC E (yX6_peak, cX6_peak, 6, some .int) 3 0 0 [vr E 96, vi x, vi y, vi z] (gS f D n) m P PX := by
  refine x_enter (by decide) rfl rfl (Nat.le_of_ble_eq_true rfl) ?_
  have loop : ((0 ≤ x ∧ x ≤ 10000) ∧ (1 ≤ y ∧ y ≤ 2000) ∧ (0 ≤ z ∧ z ≤ 1)) → ∀ (j : Nat) (t r : Int), x + y < t + j → t ≤ x + y → x < t → pkR v x (t - x) z r → xX E (("peak", some .int, []), (3, 0, 0), P, PX) RX6 cX6_peak 6 0 0 58 [(0, vr E 96), (1, vi x), (2, vi y), (3, vi z), (4, vi r), (5, vi t)] [] (gS f D n) (xu m 96 0 0) := by
    intro hp1 j
    induction j with
    | zero => intro t r h1 h2; omega
    | succ j ih =>
      intro t r h1 h2 h3 hk
      refine x_iload dX6_peak_58 rfl ?_
      refine x_iload_n dX6_peak_60 rfl ?_
      refine x_iload_n dX6_peak_61 rfl ?_
      refine x_iadd dX6_peak_62 ?_
      refine x_icmp_ge (tgt := 113) dX6_peak_63 (by decide) (by omega) (fun h63 => ?_) (fun h63 => ?_)
      · refine x_iload dX6_peak_113 rfl ?_
        exact x_iret dX6_peak_115  (hP _ _ (Or.inr ⟨hp1, by rw [show y = t - x by omega]; exact hk, ag.rf⟩))
      · have hh1 := ht_b (t := t) hv.1
        have hh2 := ht_b (t := r) hv.1
        refine x_iload_n dX6_peak_66 rfl ?_
        refine x_if_ne (tgt := 88) dX6_peak_67 (by decide) (by omega) (fun h67 => ?_) (fun h67 => ?_)
        · refine x_aload_n dX6_peak_88 rfl ?_
          refine x_iload dX6_peak_89 rfl ?_
          refine x_V1 mX6_225 dX6_peak_91 rfl (s_heightIn hv.1 hN.z (by omega) ?_)
          refine x_aload_n dX6_peak_94 rfl ?_
          refine x_iload dX6_peak_95 rfl ?_
          refine x_V1 mX6_225 dX6_peak_97 rfl (s_heightIn hv.1 hN.z (by have := hk.1; omega) ?_)
          refine x_icmp_ge (tgt := 107) dX6_peak_100 (by decide) (by omega) (fun h100 => ?_) (fun h100 => ?_)
          · refine x_iinc dX6_peak_107 rfl ?_
            refine x_goto (tgt := 58) dX6_peak_110 (by decide) ?_
            exact x_loc (lv' := [(0, vr E 96), (1, vi x), (2, vi y), (3, vi z), (4, vi r), (5, vi (t + 1))]) ⟨rfl, rfl, rfl, rfl, rfl, xl_i rfl (by omega), trivial⟩ (ih (t + 1) r (by omega) (by omega) (by omega) (pk_no hk (by unfold hsg; rw [if_neg h67, if_neg h67]; omega)))
          · refine x_iload dX6_peak_103 rfl ?_
            refine x_istore dX6_peak_105 ?_
            refine x_iinc dX6_peak_107 rfl ?_
            refine x_goto (tgt := 58) dX6_peak_110 (by decide) ?_
            exact x_loc (lv' := [(0, vr E 96), (1, vi x), (2, vi y), (3, vi z), (4, vi t), (5, vi (t + 1))]) ⟨rfl, rfl, rfl, rfl, rfl, xl_i rfl (by omega), trivial⟩ (ih (t + 1) t (by omega) (by omega) (by omega) (pk_yes hk (by unfold hsg; rw [if_neg h67, if_neg h67]; omega)))
        · refine x_aload_n dX6_peak_70 rfl ?_
          refine x_iload dX6_peak_71 rfl ?_
          refine x_V1 mX6_225 dX6_peak_73 rfl (s_heightIn hv.1 hN.z (by omega) ?_)
          refine x_aload_n dX6_peak_76 rfl ?_
          refine x_iload dX6_peak_77 rfl ?_
          refine x_V1 mX6_225 dX6_peak_79 rfl (s_heightIn hv.1 hN.z (by have := hk.1; omega) ?_)
          refine x_icmp_le (tgt := 107) dX6_peak_82 (by decide) (by omega) (fun h82 => ?_) (fun h82 => ?_)
          · refine x_iinc dX6_peak_107 rfl ?_
            refine x_goto (tgt := 58) dX6_peak_110 (by decide) ?_
            exact x_loc (lv' := [(0, vr E 96), (1, vi x), (2, vi y), (3, vi z), (4, vi r), (5, vi (t + 1))]) ⟨rfl, rfl, rfl, rfl, rfl, xl_i rfl (by omega), trivial⟩ (ih (t + 1) r (by omega) (by omega) (by omega) (pk_no hk (by unfold hsg; rw [if_pos h67, if_pos h67]; omega)))
          · refine x_goto (tgt := 103) dX6_peak_85 (by decide) ?_
            refine x_iload dX6_peak_103 rfl ?_
            refine x_istore dX6_peak_105 ?_
            refine x_iinc dX6_peak_107 rfl ?_
            refine x_goto (tgt := 58) dX6_peak_110 (by decide) ?_
            exact x_loc (lv' := [(0, vr E 96), (1, vi x), (2, vi y), (3, vi z), (4, vi t), (5, vi (t + 1))]) ⟨rfl, rfl, rfl, rfl, rfl, xl_i rfl (by omega), trivial⟩ (ih (t + 1) t (by omega) (by omega) (by omega) (pk_yes hk (by unfold hsg; rw [if_pos h67, if_pos h67]; omega)))
  refine x_aload_n dX6_peak_0 rfl ?_
  refine x_iconst dX6_peak_1 ?_
  refine x_putI fX6_1 dX6_peak_2 rfl (by decide) rfl rfl ?_
  refine x_aload_n dX6_peak_5 rfl ?_
  refine x_iload_n dX6_peak_6 rfl ?_
  refine x_S1 mX6_336 dX6_peak_7 (s_isMinute hx ?_)
  refine x_if_eq (tgt := 39) dX6_peak_10 (by decide) (zi_r _) (fun h10 => ?_) (fun h10 => ?_)
  · refine x_iconst dX6_peak_39 ?_
    refine x_top ((zi_f (fun zz : ((0 ≤ x ∧ x ≤ 10000) ∧ (1 ≤ y ∧ y ≤ 2000) ∧ (0 ≤ z ∧ z ≤ 1)) => zi_0.mp h10 zz.1)).symm) ?_
    refine x_iconst dX6_peak_40 ?_
    refine x_iconst dX6_peak_41 ?_
    refine x_V3 mX6_196 dX6_peak_42 rfl (s_isFine (p := (0 ≤ x ∧ x ≤ 10000) ∧ (1 ≤ y ∧ y ≤ 2000) ∧ (0 ≤ z ∧ z ≤ 1)) (c := 1) (k := 1) th_0 (by omega) (by omega) (fun m1 r1 hf1 => ?_))
    refine x_if_ne (tgt := 50) dX6_peak_45 (by decide) hf1.r (fun h45 => ?_) (fun h45 => ?_)
    · obtain ⟨hp1, rfl⟩ := hf1.t h45
      refine x_iload_n dX6_peak_50 rfl ?_
      refine x_istore dX6_peak_51 ?_
      refine x_iload_n dX6_peak_53 rfl ?_
      refine x_iconst dX6_peak_54 ?_
      refine x_iadd dX6_peak_55 ?_
      refine x_istore dX6_peak_56 ?_
      exact x_loc (lv' := [(0, vr E 96), (1, vi x), (2, vi y), (3, vi z), (4, vi x), (5, vi (x + 1))]) ⟨rfl, rfl, rfl, rfl, rfl, rfl, trivial⟩ (loop hp1 2001 (x + 1) x (by omega) (by omega) (by omega) ⟨by omega, fun t h1 h2 => by omega, fun t h1 h2 => by omega⟩)
    · obtain ⟨hp1, rfl⟩ := hf1.f h45
      refine x_iconst dX6_peak_48 ?_
      exact x_iret dX6_peak_49  (hP _ 0 (Or.inl ⟨1, _, ⟨hp1, rfl, rfl⟩, rfl⟩))
  · refine x_iload_n dX6_peak_13 rfl ?_
    refine x_i2l dX6_peak_14 (by omega) ?_
    refine x_lconst1 dX6_peak_15 ?_
    refine x_ldc2_w kX6_316 dX6_peak_16 ?_
    refine x_S3 mX6_122 dX6_peak_19 (s_lies (by omega) ?_)
    refine x_if_eq (tgt := 39) dX6_peak_22 (by decide) (zi_r _) (fun h22 => ?_) (fun h22 => ?_)
    · refine x_iconst dX6_peak_39 ?_
      refine x_top ((zi_f (fun zz : ((0 ≤ x ∧ x ≤ 10000) ∧ (1 ≤ y ∧ y ≤ 2000) ∧ (0 ≤ z ∧ z ≤ 1)) => zi_0.mp h22 zz.2.1)).symm) ?_
      refine x_iconst dX6_peak_40 ?_
      refine x_iconst dX6_peak_41 ?_
      refine x_V3 mX6_196 dX6_peak_42 rfl (s_isFine (p := (0 ≤ x ∧ x ≤ 10000) ∧ (1 ≤ y ∧ y ≤ 2000) ∧ (0 ≤ z ∧ z ≤ 1)) (c := 1) (k := 1) th_0 (by omega) (by omega) (fun m1 r1 hf1 => ?_))
      refine x_if_ne (tgt := 50) dX6_peak_45 (by decide) hf1.r (fun h45 => ?_) (fun h45 => ?_)
      · obtain ⟨hp1, rfl⟩ := hf1.t h45
        refine x_iload_n dX6_peak_50 rfl ?_
        refine x_istore dX6_peak_51 ?_
        refine x_iload_n dX6_peak_53 rfl ?_
        refine x_iconst dX6_peak_54 ?_
        refine x_iadd dX6_peak_55 ?_
        refine x_istore dX6_peak_56 ?_
        exact x_loc (lv' := [(0, vr E 96), (1, vi x), (2, vi y), (3, vi z), (4, vi x), (5, vi (x + 1))]) ⟨rfl, rfl, rfl, rfl, rfl, rfl, trivial⟩ (loop hp1 2001 (x + 1) x (by omega) (by omega) (by omega) ⟨by omega, fun t h1 h2 => by omega, fun t h1 h2 => by omega⟩)
      · obtain ⟨hp1, rfl⟩ := hf1.f h45
        refine x_iconst dX6_peak_48 ?_
        exact x_iret dX6_peak_49  (hP _ 0 (Or.inl ⟨1, _, ⟨hp1, rfl, rfl⟩, rfl⟩))
    · refine x_iload_n dX6_peak_25 rfl ?_
      refine x_i2l dX6_peak_26 (by omega) ?_
      refine x_lconst0 dX6_peak_27 ?_
      refine x_lconst1 dX6_peak_28 ?_
      refine x_S3 mX6_122 dX6_peak_29 (s_lies (by omega) ?_)
      refine x_if_eq (tgt := 39) dX6_peak_32 (by decide) (zi_r _) (fun h32 => ?_) (fun h32 => ?_)
      · refine x_iconst dX6_peak_39 ?_
        refine x_top ((zi_f (fun zz : ((0 ≤ x ∧ x ≤ 10000) ∧ (1 ≤ y ∧ y ≤ 2000) ∧ (0 ≤ z ∧ z ≤ 1)) => zi_0.mp h32 zz.2.2)).symm) ?_
        refine x_iconst dX6_peak_40 ?_
        refine x_iconst dX6_peak_41 ?_
        refine x_V3 mX6_196 dX6_peak_42 rfl (s_isFine (p := (0 ≤ x ∧ x ≤ 10000) ∧ (1 ≤ y ∧ y ≤ 2000) ∧ (0 ≤ z ∧ z ≤ 1)) (c := 1) (k := 1) th_0 (by omega) (by omega) (fun m1 r1 hf1 => ?_))
        refine x_if_ne (tgt := 50) dX6_peak_45 (by decide) hf1.r (fun h45 => ?_) (fun h45 => ?_)
        · obtain ⟨hp1, rfl⟩ := hf1.t h45
          refine x_iload_n dX6_peak_50 rfl ?_
          refine x_istore dX6_peak_51 ?_
          refine x_iload_n dX6_peak_53 rfl ?_
          refine x_iconst dX6_peak_54 ?_
          refine x_iadd dX6_peak_55 ?_
          refine x_istore dX6_peak_56 ?_
          exact x_loc (lv' := [(0, vr E 96), (1, vi x), (2, vi y), (3, vi z), (4, vi x), (5, vi (x + 1))]) ⟨rfl, rfl, rfl, rfl, rfl, rfl, trivial⟩ (loop hp1 2001 (x + 1) x (by omega) (by omega) (by omega) ⟨by omega, fun t h1 h2 => by omega, fun t h1 h2 => by omega⟩)
        · obtain ⟨hp1, rfl⟩ := hf1.f h45
          refine x_iconst dX6_peak_48 ?_
          exact x_iret dX6_peak_49  (hP _ 0 (Or.inl ⟨1, _, ⟨hp1, rfl, rfl⟩, rfl⟩))
      · refine x_iconst dX6_peak_35 ?_
        refine x_goto (tgt := 40) dX6_peak_36 (by decide) ?_
        refine x_top ((zi_t (show (0 ≤ x ∧ x ≤ 10000) ∧ (1 ≤ y ∧ y ≤ 2000) ∧ (0 ≤ z ∧ z ≤ 1) from ⟨zi_1.mp h10, zi_1.mp h22, zi_1.mp h32⟩)).symm) ?_
        refine x_iconst dX6_peak_40 ?_
        refine x_iconst dX6_peak_41 ?_
        refine x_V3 mX6_196 dX6_peak_42 rfl (s_isFine (p := (0 ≤ x ∧ x ≤ 10000) ∧ (1 ≤ y ∧ y ≤ 2000) ∧ (0 ≤ z ∧ z ≤ 1)) (c := 1) (k := 1) th_0 (by omega) (by omega) (fun m1 r1 hf1 => ?_))
        refine x_if_ne (tgt := 50) dX6_peak_45 (by decide) hf1.r (fun h45 => ?_) (fun h45 => ?_)
        · obtain ⟨hp1, rfl⟩ := hf1.t h45
          refine x_iload_n dX6_peak_50 rfl ?_
          refine x_istore dX6_peak_51 ?_
          refine x_iload_n dX6_peak_53 rfl ?_
          refine x_iconst dX6_peak_54 ?_
          refine x_iadd dX6_peak_55 ?_
          refine x_istore dX6_peak_56 ?_
          exact x_loc (lv' := [(0, vr E 96), (1, vi x), (2, vi y), (3, vi z), (4, vi x), (5, vi (x + 1))]) ⟨rfl, rfl, rfl, rfl, rfl, rfl, trivial⟩ (loop hp1 2001 (x + 1) x (by omega) (by omega) (by omega) ⟨by omega, fun t h1 h2 => by omega, fun t h1 h2 => by omega⟩)
        · obtain ⟨hp1, rfl⟩ := hf1.f h45
          refine x_iconst dX6_peak_48 ?_
          exact x_iret dX6_peak_49  (hP _ 0 (Or.inl ⟨1, _, ⟨hp1, rfl, rfl⟩, rfl⟩))

set_option maxRecDepth 20000 in
theorem s_mabove {E : xE} {f : Nat → Nat} {D : Nat → Nat × Nat} {n : Nat} {m : xM} {P : xPo} {PX : xPx} {v : Nat → Int} {x y z w : Int} (hv : vOk v) (hN : mN v m) (hx : -2147483648 ≤ x ∧ x ≤ 2147483647) (hy : -2147483648 ≤ y ∧ y ≤ 2147483647) (hz : -2147483648 ≤ z ∧ z ≤ 2147483647) (hw : -2147483648 ≤ w ∧ w ≤ 2147483647) (hP : ∀ m' r, moR (rf2 (0 ≤ x ∧ x < v 4) ((0 ≤ z ∧ z ≤ 10000) ∧ (0 ≤ w ∧ w ≤ 2000)) 0 1) ((0 ≤ x ∧ x < v 4) ∧ ((0 ≤ z ∧ z ≤ 10000) ∧ (0 ≤ w ∧ w ≤ 2000))) (fun r => r = abv v x.toNat y z w.toNat) [] m m' r → P (some (vi r)) (gS f D n) m') : xC E (yX6_above, cX6_above, 7, some .int) 4 0 0 [vr E 96, vi x, vi y, vi z, vi w] (gS f D n) m P PX := by
  refine x_enter (by decide) rfl rfl (Nat.le_of_ble_eq_true rfl) ?_
  have loop : ∀ b : Nat, x = (b : Int) → (0 ≤ x ∧ x < v 4) → ((0 ≤ z ∧ z ≤ 10000) ∧ (0 ≤ w ∧ w ≤ 2000)) → (b : Int) < v 4 → ∀ (j k : Nat), w < (k : Int) + j → (k : Int) ≤ w → xX E (("above", some .int, []), (4, 0, 0), P, PX) RX6 cX6_above 7 0 0 61 [(0, vr E 96), (1, vi (b : Int)), (2, vi y), (3, vi z), (4, vi w), (5, vi (abv v b y z k)), (6, vi (k : Int))] [] (gS f D n) (xu m 96 0 0) := by
    intro b hxb hp1 hp2 hb j
    subst hxb
    induction j with
    | zero => intro k h1 h2; omega
    | succ j ih =>
      intro k h1 h2
      refine x_iload dX6_above_61 rfl ?_
      refine x_iload dX6_above_63 rfl ?_
      refine x_icmp_ge (tgt := 97) dX6_above_65 (by decide) (by omega) (fun h65 => ?_) (fun h65 => ?_)
      · refine x_iload dX6_above_97 rfl ?_
        exact x_iret dX6_above_99  (hP _ _ (Or.inr ⟨⟨hp1, hp2⟩, by rw [show w.toNat = k by omega]; rfl, ag.rf⟩))
      · have hwb := wa_b (t := z + k) hv.1 hb
        refine x_iload dX6_above_68 rfl ?_
        refine x_aload_n dX6_above_70 rfl ?_
        refine x_iload_n dX6_above_71 rfl ?_
        refine x_iload_n dX6_above_72 rfl ?_
        refine x_iload dX6_above_73 rfl ?_
        refine x_iadd dX6_above_75 ?_
        refine x_V2 mX6_250 dX6_above_76 rfl (s_mwaterAt hv.1 hN.z hb (by omega) ?_)
        refine x_iload_n dX6_above_79 rfl ?_
        refine x_icmp_lt (tgt := 87) dX6_above_80 (by decide) (by omega) (fun h80 => ?_) (fun h80 => ?_)
        · refine x_iconst dX6_above_87 ?_
          refine x_iadd dX6_above_88 ?_
          refine x_istore dX6_above_89 ?_
          refine x_iinc dX6_above_91 rfl ?_
          refine x_goto (tgt := 61) dX6_above_94 (by decide) ?_
          exact x_loc (lv' := [(0, vr E 96), (1, vi (b : Int)), (2, vi y), (3, vi z), (4, vi w), (5, vi (abv v b y z (k + 1))), (6, vi ((k + 1 : Nat) : Int))]) ⟨rfl, rfl, rfl, rfl, rfl, xl_i rfl (by show _ = abv v b y z k + (if y ≤ wa v b (z + k) then 1 else 0); rw [if_neg (by omega)]), xl_i rfl (by omega), trivial⟩ (ih (k + 1) (by omega) (by omega))
        · refine x_iconst dX6_above_83 ?_
          refine x_goto (tgt := 88) dX6_above_84 (by decide) ?_
          refine x_iadd dX6_above_88 ?_
          refine x_istore dX6_above_89 ?_
          refine x_iinc dX6_above_91 rfl ?_
          refine x_goto (tgt := 61) dX6_above_94 (by decide) ?_
          exact x_loc (lv' := [(0, vr E 96), (1, vi (b : Int)), (2, vi y), (3, vi z), (4, vi w), (5, vi (abv v b y z (k + 1))), (6, vi ((k + 1 : Nat) : Int))]) ⟨rfl, rfl, rfl, rfl, rfl, xl_i rfl (by show _ = abv v b y z k + (if y ≤ wa v b (z + k) then 1 else 0); rw [if_pos (by omega)]), xl_i rfl (by omega), trivial⟩ (ih (k + 1) (by omega) (by omega))
  have hv5 := hv.1.2.2.2.2.2.1
  have hv4 := hv.1.2.2.2.2.1.1
  have hv3 := hv.1.2.2.2.1.1
  refine x_aload_n dX6_above_0 rfl ?_
  refine x_iconst dX6_above_1 ?_
  refine x_putI fX6_1 dX6_above_2 rfl (by decide) rfl rfl ?_
  refine x_aload_n dX6_above_5 rfl ?_
  refine x_aload_n dX6_above_6 rfl ?_
  refine x_iload_n dX6_above_7 rfl ?_
  refine x_V1 mX6_290 dX6_above_8 rfl (s_isBar hv hN.z hx ?_)
  refine x_iconst dX6_above_11 ?_
  refine x_iconst dX6_above_12 ?_
  refine x_V3 mX6_196 dX6_above_13 rfl (s_isFine (p := 0 ≤ x ∧ x < v 4) (c := 1) (k := 0) th_0 (by omega) (by omega) (fun m1 r1 hf1 => ?_))
  refine x_if_eq (tgt := 53) dX6_above_16 (by decide) hf1.r (fun h16 => ?_) (fun h16 => ?_)
  · obtain ⟨hp1, rfl⟩ := hf1.f h16
    refine x_iconst dX6_above_53 ?_
    exact x_iret dX6_above_54  (hP _ 0 (Or.inl ⟨1, _, Or.inl ⟨hp1, rfl, rfl⟩, rfl⟩))
  · obtain ⟨hp1, rfl⟩ := hf1.t h16
    refine x_aload_n dX6_above_19 rfl ?_
    refine x_iload_n dX6_above_20 rfl ?_
    refine x_S1 mX6_336 dX6_above_21 (s_isMinute hz ?_)
    refine x_if_eq (tgt := 44) dX6_above_24 (by decide) (zi_r _) (fun h24 => ?_) (fun h24 => ?_)
    · refine x_iconst dX6_above_44 ?_
      refine x_top ((zi_f (fun zz : ((0 ≤ z ∧ z ≤ 10000) ∧ (0 ≤ w ∧ w ≤ 2000)) => zi_0.mp h24 zz.1)).symm) ?_
      refine x_iconst dX6_above_45 ?_
      refine x_iconst dX6_above_46 ?_
      refine x_V3 mX6_196 dX6_above_47 rfl (s_isFine (p := (0 ≤ z ∧ z ≤ 10000) ∧ (0 ≤ w ∧ w ≤ 2000)) (c := 2) (k := 1) th_0 (by omega) (by omega) (fun m2 r2 hf2 => ?_))
      refine x_if_ne (tgt := 55) dX6_above_50 (by decide) hf2.r (fun h50 => ?_) (fun h50 => ?_)
      · obtain ⟨hp2, rfl⟩ := hf2.t h50
        obtain ⟨b, rfl⟩ := nat_of hp1.1
        refine x_iconst dX6_above_55 ?_
        refine x_istore dX6_above_56 ?_
        refine x_iconst dX6_above_58 ?_
        refine x_istore dX6_above_59 ?_
        exact x_loc (lv' := [(0, vr E 96), (1, vi (b : Int)), (2, vi y), (3, vi z), (4, vi w), (5, vi (abv v b y z 0)), (6, vi ((0 : Nat) : Int))]) ⟨rfl, rfl, rfl, rfl, rfl, rfl, rfl, trivial⟩ (loop b rfl hp1 hp2 hp1.2 2001 0 (by omega) (by omega))
      · obtain ⟨hp2, rfl⟩ := hf2.f h50
        refine x_iconst dX6_above_53 ?_
        exact x_iret dX6_above_54  (hP _ 0 (Or.inl ⟨2, _, Or.inr ⟨hp1, hp2, rfl, rfl⟩, rfl⟩))
    · refine x_iload dX6_above_27 rfl ?_
      refine x_i2l dX6_above_29 (by omega) ?_
      refine x_lconst0 dX6_above_30 ?_
      refine x_ldc2_w kX6_316 dX6_above_31 ?_
      refine x_S3 mX6_122 dX6_above_34 (s_lies (by omega) ?_)
      refine x_if_eq (tgt := 44) dX6_above_37 (by decide) (zi_r _) (fun h37 => ?_) (fun h37 => ?_)
      · refine x_iconst dX6_above_44 ?_
        refine x_top ((zi_f (fun zz : ((0 ≤ z ∧ z ≤ 10000) ∧ (0 ≤ w ∧ w ≤ 2000)) => zi_0.mp h37 zz.2)).symm) ?_
        refine x_iconst dX6_above_45 ?_
        refine x_iconst dX6_above_46 ?_
        refine x_V3 mX6_196 dX6_above_47 rfl (s_isFine (p := (0 ≤ z ∧ z ≤ 10000) ∧ (0 ≤ w ∧ w ≤ 2000)) (c := 2) (k := 1) th_0 (by omega) (by omega) (fun m2 r2 hf2 => ?_))
        refine x_if_ne (tgt := 55) dX6_above_50 (by decide) hf2.r (fun h50 => ?_) (fun h50 => ?_)
        · obtain ⟨hp2, rfl⟩ := hf2.t h50
          obtain ⟨b, rfl⟩ := nat_of hp1.1
          refine x_iconst dX6_above_55 ?_
          refine x_istore dX6_above_56 ?_
          refine x_iconst dX6_above_58 ?_
          refine x_istore dX6_above_59 ?_
          exact x_loc (lv' := [(0, vr E 96), (1, vi (b : Int)), (2, vi y), (3, vi z), (4, vi w), (5, vi (abv v b y z 0)), (6, vi ((0 : Nat) : Int))]) ⟨rfl, rfl, rfl, rfl, rfl, rfl, rfl, trivial⟩ (loop b rfl hp1 hp2 hp1.2 2001 0 (by omega) (by omega))
        · obtain ⟨hp2, rfl⟩ := hf2.f h50
          refine x_iconst dX6_above_53 ?_
          exact x_iret dX6_above_54  (hP _ 0 (Or.inl ⟨2, _, Or.inr ⟨hp1, hp2, rfl, rfl⟩, rfl⟩))
      · refine x_iconst dX6_above_40 ?_
        refine x_goto (tgt := 45) dX6_above_41 (by decide) ?_
        refine x_top ((zi_t (show (0 ≤ z ∧ z ≤ 10000) ∧ (0 ≤ w ∧ w ≤ 2000) from ⟨zi_1.mp h24, zi_1.mp h37⟩)).symm) ?_
        refine x_iconst dX6_above_45 ?_
        refine x_iconst dX6_above_46 ?_
        refine x_V3 mX6_196 dX6_above_47 rfl (s_isFine (p := (0 ≤ z ∧ z ≤ 10000) ∧ (0 ≤ w ∧ w ≤ 2000)) (c := 2) (k := 1) th_0 (by omega) (by omega) (fun m2 r2 hf2 => ?_))
        refine x_if_ne (tgt := 55) dX6_above_50 (by decide) hf2.r (fun h50 => ?_) (fun h50 => ?_)
        · obtain ⟨hp2, rfl⟩ := hf2.t h50
          obtain ⟨b, rfl⟩ := nat_of hp1.1
          refine x_iconst dX6_above_55 ?_
          refine x_istore dX6_above_56 ?_
          refine x_iconst dX6_above_58 ?_
          refine x_istore dX6_above_59 ?_
          exact x_loc (lv' := [(0, vr E 96), (1, vi (b : Int)), (2, vi y), (3, vi z), (4, vi w), (5, vi (abv v b y z 0)), (6, vi ((0 : Nat) : Int))]) ⟨rfl, rfl, rfl, rfl, rfl, rfl, rfl, trivial⟩ (loop b rfl hp1 hp2 hp1.2 2001 0 (by omega) (by omega))
        · obtain ⟨hp2, rfl⟩ := hf2.f h50
          refine x_iconst dX6_above_53 ?_
          exact x_iret dX6_above_54  (hP _ 0 (Or.inl ⟨2, _, Or.inr ⟨hp1, hp2, rfl, rfl⟩, rfl⟩))

set_option maxRecDepth 20000 in
theorem s_mfastest {E : xE} {f : Nat → Nat} {D : Nat → Nat × Nat} {n : Nat} {m : xM} {P : xPo} {PX : xPx} {v : Nat → Int} {x y z : Int} (hv : vOk v) (hN : mN v m) (hx : -2147483648 ≤ x ∧ x ≤ 2147483647) (hy : -2147483648 ≤ y ∧ y ≤ 2147483647) (hz : -2147483648 ≤ z ∧ z ≤ 2147483647) (hP : ∀ m' r, moR (rf2 ((0 ≤ x ∧ x < v 5) ∧ (0 ≤ y ∧ y < v 4)) (0 ≤ z ∧ z ≤ 10000) 0 1) (((0 ≤ x ∧ x < v 5) ∧ (0 ≤ y ∧ y < v 4)) ∧ (0 ≤ z ∧ z ≤ 10000)) (fun r => ftR v x.toNat y.toNat z r) [103] m m' r → P (some (vi r)) (gS f D n) m') : xC E (yX6_fastest, cX6_fastest, 5, some .int) 6 0 0 [vr E 96, vi x, vi y, vi z] (gS f D n) m P PX := by
  refine x_enter (by decide) rfl rfl (Nat.le_of_ble_eq_true rfl) ?_
  have loop : ∀ s b : Nat, x = (s : Int) → y = (b : Int) → ((0 ≤ x ∧ x < v 5) ∧ (0 ≤ y ∧ y < v 4)) → (0 ≤ z ∧ z ≤ 10000) → (s : Int) < v 5 → (b : Int) < v 4 → ∀ (j : Nat) (q : Int) (m2 : xM), q < sh v s 3 - 1 + j → sh v s 3 - 1 ≤ q ∧ q ≤ sh v s 4 → ag [103] (xu m 96 0 0) m2 → (∀ c, q < c → c ≤ sh v s 4 → ¬ clr v s (sh v s 0) (wa v b z) c) → xX E (("fastest", some .int, []), (6, 0, 0), P, PX) RX6 cX6_fastest 5 0 0 58 [(0, vr E 96), (1, vi (s : Int)), (2, vi (b : Int)), (3, vi z), (4, vi q)] [] (gS f D n) m2 := by
    intro s b hxs hyb hp1 hp2 hs hb j
    subst hxs hyb
    have hv5 := hv.1.2.2.2.2.2.1
    have hv4 := hv.1.2.2.2.2.1.1
    obtain ⟨hdr, -, -, hls, -⟩ := hv.1.2.2.2.2.2.2 s hs
    induction j with
    | zero => intro q m2 h1 h2; omega
    | succ j ih =>
      intro q m2 h1 h2 ha2 hc
      have hN2 := hN.z.ag ha2 (by decide)
      refine x_iload dX6_fastest_58 rfl ?_
      refine x_aload_n dX6_fastest_60 rfl ?_
      refine x_iload_n dX6_fastest_61 rfl ?_
      refine x_iconst dX6_fastest_62 ?_
      refine x_V2 mX6_241 dX6_fastest_63 rfl (s_ofShip (60 + 8 * s + 3) (by omega) (by omega) ?_)
      refine x_top (hN2.s (s := s) (by omega) (by omega)) ?_
      refine x_icmp_lt (tgt := 96) dX6_fastest_66 (by decide) (by omega) (fun h66 => ?_) (fun h66 => ?_)
      · refine x_iconst dX6_fastest_96 ?_
        exact x_iret dX6_fastest_97  (hP _ _ (Or.inr ⟨⟨hp1, hp2⟩, (show ftR v s b z (-1) from Or.inr ⟨rfl, fun c h4 h5 => hc c (by omega) h5⟩), ha2⟩))
      · refine x_aload_n dX6_fastest_69 rfl ?_
        refine x_iload_n dX6_fastest_70 rfl ?_
        refine x_aload_n dX6_fastest_71 rfl ?_
        refine x_iload_n dX6_fastest_72 rfl ?_
        refine x_iconst dX6_fastest_73 ?_
        refine x_V2 mX6_241 dX6_fastest_74 rfl (s_ofShip (60 + 8 * s + 0) (by omega) (by omega) ?_)
        refine x_top (hN2.s (s := s) (by omega) (by omega)) ?_
        refine x_iload_n dX6_fastest_77 rfl ?_
        refine x_iload_n dX6_fastest_78 rfl ?_
        refine x_iload dX6_fastest_79 rfl ?_
        refine x_V5 mX6_264 dX6_fastest_81 rfl (s_misClear hv hN2 hs hb (by omega) (by omega) (by omega) (fun m3 ha3 => ?_))
        refine x_if_eq (tgt := 90) dX6_fastest_84 (by decide) (zi_r _) (fun h84 => ?_) (fun h84 => ?_)
        · have hx9 := zi_0.mp h84
          refine x_iinc dX6_fastest_90 rfl ?_
          refine x_goto (tgt := 58) dX6_fastest_93 (by decide) ?_
          exact x_loc (lv' := [(0, vr E 96), (1, vi (s : Int)), (2, vi (b : Int)), (3, vi z), (4, vi (q - 1))]) ⟨rfl, rfl, rfl, rfl, xl_i rfl (by omega), trivial⟩ (ih (q - 1) m3 (by omega) (by omega) (ha2.tr1 ha3) (fun c h4 h5 => by rcases (by omega : q < c ∨ c = q) with y | y; exact hc c y h5; exact y ▸ hx9))
        · have hx9 := zi_1.mp h84
          refine x_iload dX6_fastest_87 rfl ?_
          exact x_iret dX6_fastest_89  (hP _ _ (Or.inr ⟨⟨hp1, hp2⟩, (show ftR v s b z q from Or.inl ⟨by omega, hx9, hc⟩), ha2.tr1 ha3⟩))
  have hv5 := hv.1.2.2.2.2.2.1
  have hv4 := hv.1.2.2.2.2.1.1
  have hv3 := hv.1.2.2.2.1.1
  refine x_aload_n dX6_fastest_0 rfl ?_
  refine x_iconst dX6_fastest_1 ?_
  refine x_putI fX6_1 dX6_fastest_2 rfl (by decide) rfl rfl ?_
  refine x_aload_n dX6_fastest_5 rfl ?_
  refine x_aload_n dX6_fastest_6 rfl ?_
  refine x_iload_n dX6_fastest_7 rfl ?_
  refine x_V1 mX6_300 dX6_fastest_8 rfl (s_isShip hv hN.z hx ?_)
  refine x_if_eq (tgt := 26) dX6_fastest_11 (by decide) (zi_r _) (fun h11 => ?_) (fun h11 => ?_)
  · refine x_iconst dX6_fastest_26 ?_
    refine x_top ((zi_f (fun zz : ((0 ≤ x ∧ x < v 5) ∧ (0 ≤ y ∧ y < v 4)) => zi_0.mp h11 zz.1)).symm) ?_
    refine x_iconst dX6_fastest_27 ?_
    refine x_iconst dX6_fastest_28 ?_
    refine x_V3 mX6_196 dX6_fastest_29 rfl (s_isFine (p := (0 ≤ x ∧ x < v 5) ∧ (0 ≤ y ∧ y < v 4)) (c := 1) (k := 0) th_0 (by omega) (by omega) (fun m1 r1 hf1 => ?_))
    refine x_if_eq (tgt := 48) dX6_fastest_32 (by decide) hf1.r (fun h32 => ?_) (fun h32 => ?_)
    · obtain ⟨hp1, rfl⟩ := hf1.f h32
      refine x_iconst dX6_fastest_48 ?_
      exact x_iret dX6_fastest_49  (hP _ 0 (Or.inl ⟨1, _, Or.inl ⟨hp1, rfl, rfl⟩, rfl⟩))
    · obtain ⟨hp1, rfl⟩ := hf1.t h32
      refine x_aload_n dX6_fastest_35 rfl ?_
      refine x_iload_n dX6_fastest_36 rfl ?_
      refine x_S1 mX6_336 dX6_fastest_37 (s_isMinute hz ?_)
      refine x_iconst dX6_fastest_40 ?_
      refine x_iconst dX6_fastest_41 ?_
      refine x_V3 mX6_196 dX6_fastest_42 rfl (s_isFine (p := 0 ≤ z ∧ z ≤ 10000) (c := 2) (k := 1) th_0 (by omega) (by omega) (fun m2 r2 hf2 => ?_))
      refine x_if_ne (tgt := 50) dX6_fastest_45 (by decide) hf2.r (fun h45 => ?_) (fun h45 => ?_)
      · obtain ⟨hp2, rfl⟩ := hf2.t h45
        obtain ⟨s, rfl⟩ := nat_of hp1.1.1
        obtain ⟨b, rfl⟩ := nat_of hp1.2.1
        refine x_aload_n dX6_fastest_50 rfl ?_
        refine x_iload_n dX6_fastest_51 rfl ?_
        refine x_iconst dX6_fastest_52 ?_
        refine x_V2 mX6_241 dX6_fastest_53 rfl (s_ofShip (60 + 8 * s + 4) (by omega) (by omega) ?_)
        refine x_top (hN.z.s (s := s) (by omega) (by omega)) ?_
        refine x_istore dX6_fastest_56 ?_
        exact x_loc (lv' := [(0, vr E 96), (1, vi (s : Int)), (2, vi (b : Int)), (3, vi z), (4, vi (sh v s 4))]) ⟨rfl, rfl, rfl, rfl, rfl, trivial⟩ (loop s b rfl rfl hp1 hp2 hp1.1.2 hp1.2.2 40 (sh v s 4) _ (by have := hv.1.2.2.2.2.2.2 s hp1.1.2; omega) (by have := hv.1.2.2.2.2.2.2 s hp1.1.2; omega) ag.rf (fun c h4 h5 => by omega))
      · obtain ⟨hp2, rfl⟩ := hf2.f h45
        refine x_iconst dX6_fastest_48 ?_
        exact x_iret dX6_fastest_49  (hP _ 0 (Or.inl ⟨2, _, Or.inr ⟨hp1, hp2, rfl, rfl⟩, rfl⟩))
  · refine x_aload_n dX6_fastest_14 rfl ?_
    refine x_iload_n dX6_fastest_15 rfl ?_
    refine x_V1 mX6_290 dX6_fastest_16 rfl (s_isBar hv hN.z hy ?_)
    refine x_if_eq (tgt := 26) dX6_fastest_19 (by decide) (zi_r _) (fun h19 => ?_) (fun h19 => ?_)
    · refine x_iconst dX6_fastest_26 ?_
      refine x_top ((zi_f (fun zz : ((0 ≤ x ∧ x < v 5) ∧ (0 ≤ y ∧ y < v 4)) => zi_0.mp h19 zz.2)).symm) ?_
      refine x_iconst dX6_fastest_27 ?_
      refine x_iconst dX6_fastest_28 ?_
      refine x_V3 mX6_196 dX6_fastest_29 rfl (s_isFine (p := (0 ≤ x ∧ x < v 5) ∧ (0 ≤ y ∧ y < v 4)) (c := 1) (k := 0) th_0 (by omega) (by omega) (fun m1 r1 hf1 => ?_))
      refine x_if_eq (tgt := 48) dX6_fastest_32 (by decide) hf1.r (fun h32 => ?_) (fun h32 => ?_)
      · obtain ⟨hp1, rfl⟩ := hf1.f h32
        refine x_iconst dX6_fastest_48 ?_
        exact x_iret dX6_fastest_49  (hP _ 0 (Or.inl ⟨1, _, Or.inl ⟨hp1, rfl, rfl⟩, rfl⟩))
      · obtain ⟨hp1, rfl⟩ := hf1.t h32
        refine x_aload_n dX6_fastest_35 rfl ?_
        refine x_iload_n dX6_fastest_36 rfl ?_
        refine x_S1 mX6_336 dX6_fastest_37 (s_isMinute hz ?_)
        refine x_iconst dX6_fastest_40 ?_
        refine x_iconst dX6_fastest_41 ?_
        refine x_V3 mX6_196 dX6_fastest_42 rfl (s_isFine (p := 0 ≤ z ∧ z ≤ 10000) (c := 2) (k := 1) th_0 (by omega) (by omega) (fun m2 r2 hf2 => ?_))
        refine x_if_ne (tgt := 50) dX6_fastest_45 (by decide) hf2.r (fun h45 => ?_) (fun h45 => ?_)
        · obtain ⟨hp2, rfl⟩ := hf2.t h45
          obtain ⟨s, rfl⟩ := nat_of hp1.1.1
          obtain ⟨b, rfl⟩ := nat_of hp1.2.1
          refine x_aload_n dX6_fastest_50 rfl ?_
          refine x_iload_n dX6_fastest_51 rfl ?_
          refine x_iconst dX6_fastest_52 ?_
          refine x_V2 mX6_241 dX6_fastest_53 rfl (s_ofShip (60 + 8 * s + 4) (by omega) (by omega) ?_)
          refine x_top (hN.z.s (s := s) (by omega) (by omega)) ?_
          refine x_istore dX6_fastest_56 ?_
          exact x_loc (lv' := [(0, vr E 96), (1, vi (s : Int)), (2, vi (b : Int)), (3, vi z), (4, vi (sh v s 4))]) ⟨rfl, rfl, rfl, rfl, rfl, trivial⟩ (loop s b rfl rfl hp1 hp2 hp1.1.2 hp1.2.2 40 (sh v s 4) _ (by have := hv.1.2.2.2.2.2.2 s hp1.1.2; omega) (by have := hv.1.2.2.2.2.2.2 s hp1.1.2; omega) ag.rf (fun c h4 h5 => by omega))
        · obtain ⟨hp2, rfl⟩ := hf2.f h45
          refine x_iconst dX6_fastest_48 ?_
          exact x_iret dX6_fastest_49  (hP _ 0 (Or.inl ⟨2, _, Or.inr ⟨hp1, hp2, rfl, rfl⟩, rfl⟩))
    · refine x_iconst dX6_fastest_22 ?_
      refine x_goto (tgt := 27) dX6_fastest_23 (by decide) ?_
      refine x_top ((zi_t (show (0 ≤ x ∧ x < v 5) ∧ (0 ≤ y ∧ y < v 4) from ⟨zi_1.mp h11, zi_1.mp h19⟩)).symm) ?_
      refine x_iconst dX6_fastest_27 ?_
      refine x_iconst dX6_fastest_28 ?_
      refine x_V3 mX6_196 dX6_fastest_29 rfl (s_isFine (p := (0 ≤ x ∧ x < v 5) ∧ (0 ≤ y ∧ y < v 4)) (c := 1) (k := 0) th_0 (by omega) (by omega) (fun m1 r1 hf1 => ?_))
      refine x_if_eq (tgt := 48) dX6_fastest_32 (by decide) hf1.r (fun h32 => ?_) (fun h32 => ?_)
      · obtain ⟨hp1, rfl⟩ := hf1.f h32
        refine x_iconst dX6_fastest_48 ?_
        exact x_iret dX6_fastest_49  (hP _ 0 (Or.inl ⟨1, _, Or.inl ⟨hp1, rfl, rfl⟩, rfl⟩))
      · obtain ⟨hp1, rfl⟩ := hf1.t h32
        refine x_aload_n dX6_fastest_35 rfl ?_
        refine x_iload_n dX6_fastest_36 rfl ?_
        refine x_S1 mX6_336 dX6_fastest_37 (s_isMinute hz ?_)
        refine x_iconst dX6_fastest_40 ?_
        refine x_iconst dX6_fastest_41 ?_
        refine x_V3 mX6_196 dX6_fastest_42 rfl (s_isFine (p := 0 ≤ z ∧ z ≤ 10000) (c := 2) (k := 1) th_0 (by omega) (by omega) (fun m2 r2 hf2 => ?_))
        refine x_if_ne (tgt := 50) dX6_fastest_45 (by decide) hf2.r (fun h45 => ?_) (fun h45 => ?_)
        · obtain ⟨hp2, rfl⟩ := hf2.t h45
          obtain ⟨s, rfl⟩ := nat_of hp1.1.1
          obtain ⟨b, rfl⟩ := nat_of hp1.2.1
          refine x_aload_n dX6_fastest_50 rfl ?_
          refine x_iload_n dX6_fastest_51 rfl ?_
          refine x_iconst dX6_fastest_52 ?_
          refine x_V2 mX6_241 dX6_fastest_53 rfl (s_ofShip (60 + 8 * s + 4) (by omega) (by omega) ?_)
          refine x_top (hN.z.s (s := s) (by omega) (by omega)) ?_
          refine x_istore dX6_fastest_56 ?_
          exact x_loc (lv' := [(0, vr E 96), (1, vi (s : Int)), (2, vi (b : Int)), (3, vi z), (4, vi (sh v s 4))]) ⟨rfl, rfl, rfl, rfl, rfl, trivial⟩ (loop s b rfl rfl hp1 hp2 hp1.1.2 hp1.2.2 40 (sh v s 4) _ (by have := hv.1.2.2.2.2.2.2 s hp1.1.2; omega) (by have := hv.1.2.2.2.2.2.2 s hp1.1.2; omega) ag.rf (fun c h4 h5 => by omega))
        · obtain ⟨hp2, rfl⟩ := hf2.f h45
          refine x_iconst dX6_fastest_48 ?_
          exact x_iret dX6_fastest_49  (hP _ 0 (Or.inl ⟨2, _, Or.inr ⟨hp1, hp2, rfl, rfl⟩, rfl⟩))

end MB
