section ML
/-- the least of what is left at the first i bars of the way, and K minutes of the next -/
def lfo (v : Nat → Int) (s : Nat) (st sp : Int) (i k : Nat) : Int := lfw v s (sh v s 0) (wa v (bo v s i) (st + cm v s sp (bo v s i) + k)) sp
def lpC (v : Nat → Int) (s : Nat) (sp : Int) (i K a k : Nat) : Prop := (a < i ∧ (k : Int) ≤ tk (br v (bo v s a) 2) sp) ∨ (a = i ∧ k < K)
def lpR (v : Nat → Int) (s : Nat) (st sp : Int) (i K : Nat) (r : Int) : Prop :=
  (i = 0 ∧ K = 0 ∧ r = -1000000) ∨ ((0 < i ∨ 0 < K) ∧ (∃ a k, lpC v s sp i K a k ∧ r = lfo v s st sp a k) ∧ ∀ a k, lpC v s sp i K a k → r ≤ lfo v s st sp a k)
theorem lp_1 {v : Nat → Int} {s : Nat} {st sp : Int} : lpR v s st sp 0 1 (lfo v s st sp 0 0) := by
  refine Or.inr ⟨Or.inr (by omega), ⟨0, 0, Or.inr ⟨rfl, by omega⟩, rfl⟩, fun a k h => ?_⟩
  rcases h with ⟨h1, h2⟩ | ⟨h1, h2⟩
  · omega
  · rw [h1, show k = 0 by omega]; exact Int.le_refl _
theorem lp_s {v : Nat → Int} {s : Nat} {st sp r : Int} {i K : Nat} (h : lpR v s st sp i K r) (hn : ¬ (i = 0 ∧ K = 0)) : lpR v s st sp i (K + 1) (min r (lfo v s st sp i K)) := by
  rcases h with ⟨h1, h2, h3⟩ | ⟨h1, ⟨a, k, h2, h3⟩, h4⟩
  · exact absurd ⟨h1, h2⟩ hn
  · refine Or.inr ⟨Or.inr (by omega), ?_, fun a' k' hc => ?_⟩
    · rcases (by omega : r ≤ lfo v s st sp i K ∨ lfo v s st sp i K < r) with z | z
      · exact ⟨a, k, by unfold lpC at *; omega, by rw [← h3]; omega⟩
      · exact ⟨i, K, Or.inr ⟨rfl, by omega⟩, by omega⟩
    · by_cases c : a' = i ∧ k' = K
      · rw [c.1, c.2]; omega
      · have := h4 a' k' (by unfold lpC at *; omega)
        omega
theorem lp_up {v : Nat → Int} {s : Nat} {st sp r : Int} {i K : Nat} (h : lpR v s st sp i K r) (hK : (K : Int) = tk (br v (bo v s i) 2) sp + 1) (h1 : 1 ≤ tk (br v (bo v s i) 2) sp) : lpR v s st sp (i + 1) 0 r := by
  have hc : ∀ a k, lpC v s sp i K a k ↔ lpC v s sp (i + 1) 0 a k := by
    intro a k
    constructor
    · rintro (⟨z1, z2⟩ | ⟨z1, z2⟩)
      · exact Or.inl ⟨by omega, z2⟩
      · subst z1; exact Or.inl ⟨by omega, by omega⟩
    · rintro (⟨z1, z2⟩ | ⟨z1, z2⟩)
      · by_cases e : a = i
        · subst e; exact Or.inr ⟨rfl, by omega⟩
        · exact Or.inl ⟨by omega, z2⟩
      · omega
  rcases h with ⟨z1, z2, z3⟩ | ⟨z1, ⟨a, k, z2, z3⟩, z4⟩
  · omega
  · exact Or.inr ⟨Or.inl (by omega), ⟨a, k, (hc a k).mp z2, z3⟩, fun a k z => z4 a k ((hc a k).mpr z)⟩
theorem lp_end {v : Nat → Int} {s : Nat} {st sp r : Int} (h4 : 0 ≤ v 4) (h : lpR v s st sp (v 4).toNat 0 r) : lst v s st sp = r := by
  refine lst_eq ?_
  rcases h with ⟨z1, z2, z3⟩ | ⟨z1, ⟨a, k, z2, z3⟩, z4⟩
  · exact Or.inl ⟨by omega, z3⟩
  · refine Or.inr ⟨?_, fun b k hb hk => ?_⟩
    · rcases z2 with ⟨q1, q2⟩ | ⟨q1, q2⟩
      · exact ⟨bo v s a, k, bo_b h4 (by omega), q2, z3⟩
      · omega
    · have hx := bo_b (s := s) h4 hb
      have := z4 (bo v s b) k (Or.inl ⟨by omega, by rw [bo_bo hb]; exact hk⟩)
      unfold lfo at this
      rw [bo_bo hb] at this
      exact this
set_option maxRecDepth 20000 in
theorem least_in {E : xE} {f : Nat → Nat} {D : Nat → Nat × Nat} {n : Nat} {P : xPo} {PX : xPx} {v : Nat → Int} {m0 : xM} {s i : Nat} {y z : Int} (hv : vOk v) (hN : mN v m0) (hs : (s : Int) < v 5) (hi : (i : Int) < v 4) (hy : 0 ≤ y ∧ y ≤ 10000) (hsp : 4 ≤ z ∧ z ≤ 25)
    (hK : ∀ r m2, ag [103] m0 m2 → lpR v s y z (i + 1) 0 r → (-2000000 ≤ r ∧ r ≤ 2000000) → xX E (("least", some .int, []), (5, 0, 0), P, PX) RX6 cX6_least 10 0 0 126 [(0, vr E 96), (1, vi (s : Int)), (2, vi y), (3, vi z), (4, vi r), (5, vi (i : Int))] [] (gS f D n) m2) :
    ∀ (j k : Nat) (r : Int) (m2 : xM), tk (br v (bo v s i) 2) z + 1 < (k : Int) + j → (k : Int) ≤ tk (br v (bo v s i) 2) z + 1 → ag [103] m0 m2 → lpR v s y z i k r → (-2000000 ≤ r ∧ r ≤ 2000000) → xX E (("least", some .int, []), (5, 0, 0), P, PX) RX6 cX6_least 10 0 0 59 [(0, vr E 96), (1, vi (s : Int)), (2, vi y), (3, vi z), (4, vi r), (5, vi (i : Int)), (6, vi ((bo v s i : Nat) : Int)), (7, vi (y + cm v s z (bo v s i))), (8, vi (k : Int))] [] (gS f D n) m2 := by
  have hv5 := hv.1.2.2.2.2.2.1
  have hv4 := hv.1.2.2.2.2.1.1
  have hb := bo_b (s := s) hv4.1 hi
  have hsg := sg_b hv.1.2.2.2.2.1 hb hsp
  have hcb := cm_b (s := s) hv.1.2.2.2.2.1 hsp hb
  obtain ⟨-, -, hlg, -⟩ := hv.1.2.2.2.2.1.2 (bo v s i) hb
  obtain ⟨hdr, -⟩ := hv.1.2.2.2.2.2.2 s hs
  intro j
  induction j with
  | zero => intro k r m2 h1 h2; omega
  | succ j ih =>
    intro k r m2 h1 h2 ha2 hr hrb
    have hN2 := hN.ag ha2 (by decide)
    refine x_iload dX6_least_59 rfl ?_
    refine x_aload_n dX6_least_61 rfl ?_
    refine x_iload dX6_least_62 rfl ?_
    refine x_iconst dX6_least_64 ?_
    refine x_V2 mX6_222 dX6_least_65 rfl (s_ofBar (24 + 6 * bo v s i + 2) (by omega) (by omega) ?_)
    refine x_top (hN2.b (b := bo v s i) (by omega) (by omega)) ?_
    refine x_iload_n dX6_least_68 rfl ?_
    refine x_S2 mX6_261 dX6_least_69 (s_takes (by omega) (by omega) ?_)
    refine x_icmp_gt (tgt := 126) dX6_least_72 (by decide) (by omega) (fun h72 => ?_) (fun h72 => ?_)
    · exact x_loc (lv' := [(0, vr E 96), (1, vi (s : Int)), (2, vi y), (3, vi z), (4, vi r), (5, vi (i : Int))]) ⟨rfl, rfl, rfl, rfl, rfl, rfl, trivial⟩ (hK r m2 ha2 (lp_up hr (by omega) (by omega)) hrb)
    · have hwb := wa_b (t := y + cm v s z (bo v s i) + k) hv.1 hb
      have hlb := lfw_b (dr := sh v s 0) (w := wa v (bo v s i) (y + cm v s z (bo v s i) + k)) hv hs hsp (by omega) (by omega)
      have hlf : lfw v s (sh v s 0) (wa v (bo v s i) (y + cm v s z (bo v s i) + k)) z = lfo v s y z i k := rfl
      refine x_aload_n dX6_least_75 rfl ?_
      refine x_iload_n dX6_least_76 rfl ?_
      refine x_aload_n dX6_least_77 rfl ?_
      refine x_iload_n dX6_least_78 rfl ?_
      refine x_iconst dX6_least_79 ?_
      refine x_V2 mX6_241 dX6_least_80 rfl (s_ofShip (60 + 8 * s + 0) (by omega) (by omega) ?_)
      refine x_top (hN2.s (s := s) (by omega) (by omega)) ?_
      refine x_iload dX6_least_83 rfl ?_
      refine x_iload dX6_least_85 rfl ?_
      refine x_iload dX6_least_87 rfl ?_
      refine x_iadd dX6_least_89 ?_
      refine x_iload_n dX6_least_90 rfl ?_
      refine x_V5 mX6_257 dX6_least_91 rfl (s_leftBy hv hN2 hs hb (by omega) (by omega) hsp (fun m3 ha3 => ?_))
      refine x_top (hlf) ?_
      refine x_istore dX6_least_94 ?_
      refine x_iload dX6_least_96 rfl ?_
      refine x_if_ne (tgt := 111) dX6_least_98 (by decide) (by omega) (fun h98 => ?_) (fun h98 => ?_)
      · refine x_iload dX6_least_111 rfl ?_
        refine x_iload dX6_least_113 rfl ?_
        refine x_S2 mX6_116 dX6_least_115 (s_min (by omega) ?_)
        refine x_istore dX6_least_118 ?_
        refine x_iinc dX6_least_120 rfl ?_
        refine x_goto (tgt := 59) dX6_least_123 (by decide) ?_
        exact x_loc (lv' := [(0, vr E 96), (1, vi (s : Int)), (2, vi y), (3, vi z), (4, vi (min r (lfo v s y z i k))), (5, vi (i : Int)), (6, vi ((bo v s i : Nat) : Int)), (7, vi (y + cm v s z (bo v s i))), (8, vi ((k + 1 : Nat) : Int))]) ⟨rfl, rfl, rfl, rfl, rfl, rfl, rfl, rfl, xl_i rfl (by omega), trivial⟩ (ih (k + 1) _ m3 (by omega) (by omega) (ha2.tr1 ha3) (lp_s hr (by omega)) (by omega))
      · refine x_iload dX6_least_101 rfl ?_
        refine x_if_ne (tgt := 111) dX6_least_103 (by decide) (by omega) (fun h103 => ?_) (fun h103 => ?_)
        · refine x_iload dX6_least_111 rfl ?_
          refine x_iload dX6_least_113 rfl ?_
          refine x_S2 mX6_116 dX6_least_115 (s_min (by omega) ?_)
          refine x_istore dX6_least_118 ?_
          refine x_iinc dX6_least_120 rfl ?_
          refine x_goto (tgt := 59) dX6_least_123 (by decide) ?_
          exact x_loc (lv' := [(0, vr E 96), (1, vi (s : Int)), (2, vi y), (3, vi z), (4, vi (min r (lfo v s y z i k))), (5, vi (i : Int)), (6, vi ((bo v s i : Nat) : Int)), (7, vi (y + cm v s z (bo v s i))), (8, vi ((k + 1 : Nat) : Int))]) ⟨rfl, rfl, rfl, rfl, rfl, rfl, rfl, rfl, xl_i rfl (by omega), trivial⟩ (ih (k + 1) _ m3 (by omega) (by omega) (ha2.tr1 ha3) (lp_s hr (by omega)) (by omega))
        · refine x_iload dX6_least_106 rfl ?_
          refine x_goto (tgt := 118) dX6_least_108 (by decide) ?_
          refine x_istore dX6_least_118 ?_
          refine x_iinc dX6_least_120 rfl ?_
          refine x_goto (tgt := 59) dX6_least_123 (by decide) ?_
          exact x_loc (lv' := [(0, vr E 96), (1, vi (s : Int)), (2, vi y), (3, vi z), (4, vi (lfo v s y z i k)), (5, vi (i : Int)), (6, vi ((bo v s i : Nat) : Int)), (7, vi (y + cm v s z (bo v s i))), (8, vi ((k + 1 : Nat) : Int))]) ⟨rfl, rfl, rfl, rfl, rfl, rfl, rfl, rfl, xl_i rfl (by omega), trivial⟩ (ih (k + 1) _ m3 (by omega) (by omega) (ha2.tr1 ha3) (by rw [show i = 0 by omega, show k = 0 by omega]; exact lp_1) (by omega))

set_option maxRecDepth 20000 in
theorem s_mleast {E : xE} {f : Nat → Nat} {D : Nat → Nat × Nat} {n : Nat} {m : xM} {P : xPo} {PX : xPx} {v : Nat → Int} {x y z : Int} (hv : vOk v) (hN : mN v m) (hx : -2147483648 ≤ x ∧ x ≤ 2147483647) (hy : -2147483648 ≤ y ∧ y ≤ 2147483647) (hz : -2147483648 ≤ z ∧ z ≤ 2147483647) (hP : ∀ m' r, moR (rf2 (0 ≤ x ∧ x < v 5) ((0 ≤ y ∧ y ≤ 10000) ∧ (4 ≤ z ∧ z ≤ 25)) 0 1) ((0 ≤ x ∧ x < v 5) ∧ ((0 ≤ y ∧ y ≤ 10000) ∧ (4 ≤ z ∧ z ≤ 25))) (fun r => r = lst v x.toNat y z) [103] m m' r → P (some (vi r)) (gS f D n) m') : xC E (yX6_least, cX6_least, 10, some .int) 5 0 0 [vr E 96, vi x, vi y, vi z] (gS f D n) m P PX := by
  refine x_enter (by decide) rfl rfl (Nat.le_of_ble_eq_true rfl) ?_
  have loop : ∀ s : Nat, x = (s : Int) → (0 ≤ x ∧ x < v 5) → ((0 ≤ y ∧ y ≤ 10000) ∧ (4 ≤ z ∧ z ≤ 25)) → (s : Int) < v 5 → ∀ (j i : Nat) (r : Int) (m2 : xM), v 4 < (i : Int) + j → (i : Int) ≤ v 4 → ag [103] (xu m 96 0 0) m2 → lpR v s y z i 0 r → (-2000000 ≤ r ∧ r ≤ 2000000) → xX E (("least", some .int, []), (5, 0, 0), P, PX) RX6 cX6_least 10 0 0 25 [(0, vr E 96), (1, vi (s : Int)), (2, vi y), (3, vi z), (4, vi r), (5, vi (i : Int))] [] (gS f D n) m2 := by
    intro s hxs hp1 hp2 hs j
    subst hxs
    have hv4 := hv.1.2.2.2.2.1.1
    induction j with
    | zero => intro i r m2 h1 h2; omega
    | succ j ih =>
      intro i r m2 h1 h2 ha2 hr hrb
      have hN2 := hN.z.ag ha2 (by decide)
      refine x_iload dX6_least_25 rfl ?_
      refine x_aload_n dX6_least_27 rfl ?_
      refine x_getR (r := 98) fX6_17 dX6_least_28 rfl rfl ?_
      refine x_iconst dX6_least_31 ?_
      refine x_iald (j := 4) dX6_least_32 rfl rfl (show 4 < 709 by omega) (by omega) ?_
      refine x_top (hN2 4 (by omega)) ?_
      refine x_icmp_ge (tgt := 132) dX6_least_33 (by decide) (by omega) (fun h33 => ?_) (fun h33 => ?_)
      · refine x_iload dX6_least_132 rfl ?_
        exact x_iret dX6_least_134  (hP _ _ (Or.inr ⟨⟨hp1, hp2⟩, (lp_end hv4.1 (by rw [show (v 4).toNat = i by omega]; exact hr)).symm, ha2⟩))
      · have hi : (i : Int) < v 4 := by omega
        refine x_aload_n dX6_least_36 rfl ?_
        refine x_iload_n dX6_least_37 rfl ?_
        refine x_iload dX6_least_38 rfl ?_
        refine x_V2 mX6_271 dX6_least_40 rfl (s_barOn hv hN2 hs hi ?_)
        refine x_istore dX6_least_43 ?_
        refine x_aload_n dX6_least_45 rfl ?_
        refine x_iload_n dX6_least_46 rfl ?_
        refine x_iload_n dX6_least_47 rfl ?_
        refine x_iload_n dX6_least_48 rfl ?_
        refine x_iload dX6_least_49 rfl ?_
        refine x_V4 mX6_274 dX6_least_51 rfl (s_comesTo hv hN2 hs hi (by omega) ?_)
        refine x_istore dX6_least_54 ?_
        refine x_iconst dX6_least_56 ?_
        refine x_istore dX6_least_57 ?_
        refine x_loc (lv' := [(0, vr E 96), (1, vi (s : Int)), (2, vi y), (3, vi z), (4, vi r), (5, vi (i : Int)), (6, vi ((bo v s i : Nat) : Int)), (7, vi (y + cm v s z (bo v s i))), (8, vi ((0 : Nat) : Int))]) ⟨rfl, rfl, rfl, rfl, rfl, rfl, rfl, rfl, rfl, trivial⟩ (least_in hv hN.z hs hi (by omega) (by omega) (fun r2 m3 ha3 hr3 hb3 => ?_) 40 0 r m2 (by have := sg_b hv.1.2.2.2.2.1 (bo_b (s := s) hv4.1 hi) (show 4 ≤ z ∧ z ≤ 25 by omega); omega) (by have := sg_b hv.1.2.2.2.2.1 (bo_b (s := s) hv4.1 hi) (show 4 ≤ z ∧ z ≤ 25 by omega); omega) ha2 hr hrb)
        refine x_iinc dX6_least_126 rfl ?_
        refine x_goto (tgt := 25) dX6_least_129 (by decide) ?_
        exact x_loc (lv' := [(0, vr E 96), (1, vi (s : Int)), (2, vi y), (3, vi z), (4, vi r2), (5, vi ((i + 1 : Nat) : Int))]) ⟨rfl, rfl, rfl, rfl, rfl, xl_i rfl (by omega), trivial⟩ (ih (i + 1) r2 m3 (by omega) (by omega) ha3 hr3 hb3)
  refine x_aload_n dX6_least_0 rfl ?_
  refine x_iconst dX6_least_1 ?_
  refine x_putI fX6_1 dX6_least_2 rfl (by decide) rfl rfl ?_
  refine x_aload_n dX6_least_5 rfl ?_
  refine x_iload_n dX6_least_6 rfl ?_
  refine x_iload_n dX6_least_7 rfl ?_
  refine x_iload_n dX6_least_8 rfl ?_
  refine x_V3 mX6_348 dX6_least_9 rfl (s_areGiven hv hN.z th_0 hx hy hz (fun m1 r1 ho1 => ?_))
  refine x_if_ne (tgt := 17) dX6_least_12 (by decide) ho1.r (fun h12 => ?_) (fun h12 => ?_)
  · obtain ⟨hp1, hp2, rfl⟩ := ho1.t h12
    obtain ⟨s, rfl⟩ := nat_of hp1.1
    refine x_ldc_w kX6_351 dX6_least_17 ?_
    refine x_istore dX6_least_20 ?_
    refine x_iconst dX6_least_22 ?_
    refine x_istore dX6_least_23 ?_
    exact x_loc (lv' := [(0, vr E 96), (1, vi (s : Int)), (2, vi y), (3, vi z), (4, vi (-1000000)), (5, vi ((0 : Nat) : Int))]) ⟨rfl, rfl, rfl, rfl, rfl, rfl, trivial⟩ (loop s rfl hp1 hp2 hp1.2 7 0 _ _ (by have := hv.1.2.2.2.2.1.1; omega) (by have := hv.1.2.2.2.2.1.1; omega) ag.rf (Or.inl ⟨rfl, rfl, rfl⟩) (by omega))
  · obtain ⟨k1, q1, hrf, rfl⟩ := ho1.f h12
    refine x_iconst dX6_least_15 ?_
    exact x_iret dX6_least_16  (hP _ 0 (Or.inl ⟨k1, q1, hrf, rfl⟩))

end ML
