section MP
set_option maxRecDepth 20000 in
theorem or_126 {E : xE} {f : Nat → Nat} {D : Nat → Nat × Nat} {n : Nat} {P : xPo} {PX : xPx} {a : Nat} {y z w : Int} {m0 : xM} {l : List Nat} {r : Int} (hl6 : l.length ≤ 6) (hM : lnM m0 l) (hK : ∀ m1, ag [110] m0 m1 → (∀ q, q < l.length → m1 110 q = (l.getD q 0 : Int)) → xX E (("order", some .int, []), (10, 0, 0), P, PX) RX6 cX6_order 8 0 0 155 [(0, vr E 96), (1, vi (a : Int)), (2, vi y), (3, vi z), (4, vi w), (5, vi 1)] [] (gS f D n) m1) :
    ∀ (k j : Nat) (m1 : xM), l.length < j + k → j ≤ l.length → ag [110] m0 m1 → (∀ q, q < j → m1 110 q = (l.getD q 0 : Int)) → xX E (("order", some .int, []), (10, 0, 0), P, PX) RX6 cX6_order 8 0 0 126 [(0, vr E 96), (1, vi (a : Int)), (2, vi y), (3, vi z), (4, vi w), (5, vi 1), (6, vi r), (7, vi (j : Int))] [] (gS f D n) m1 := by
  intro k
  induction k with
  | zero => intro j m1 h1 h2; omega
  | succ k ih =>
    intro j m1 h1 h2 ha1 hq1
    refine x_iload dX6_order_126 rfl ?_
    refine x_aload_n dX6_order_128 rfl ?_
    refine x_getI fX6_360 dX6_order_129 rfl ?_
    refine x_top (show m1 96 25 = (l.length : Int) by rw [ha1 96 (by decide)]; exact hM.1) ?_
    refine x_icmp_ge (tgt := 155) dX6_order_132 (by decide) (by omega) (fun h132 => ?_) (fun h132 => ?_)
    · exact x_loc (lv' := [(0, vr E 96), (1, vi (a : Int)), (2, vi y), (3, vi z), (4, vi w), (5, vi 1)]) ⟨rfl, rfl, rfl, rfl, rfl, rfl, trivial⟩ (hK m1 ha1 (fun q hq => hq1 q (by omega)))
    · refine x_aload_n dX6_order_135 rfl ?_
      refine x_getR (r := 110) fX6_59 dX6_order_136 rfl rfl ?_
      refine x_iload dX6_order_139 rfl ?_
      refine x_aload_n dX6_order_141 rfl ?_
      refine x_getR (r := 109) fX6_56 dX6_order_142 rfl rfl ?_
      refine x_iload dX6_order_145 rfl ?_
      refine x_iald (j := j) dX6_order_147 rfl (by omega) (show _ < 6 by omega) (by omega) ?_
      refine x_top (show m1 109 j = (l.getD j 0 : Int) by rw [ha1 109 (by decide)]; exact hM.2 j (by omega)) ?_
      refine x_iast (j := j) dX6_order_148 rfl (by decide) (by omega) (show _ < 6 by omega) (by omega) ?_
      refine x_iinc dX6_order_149 rfl ?_
      refine x_goto (tgt := 126) dX6_order_152 (by decide) ?_
      exact x_loc (lv' := [(0, vr E 96), (1, vi (a : Int)), (2, vi y), (3, vi z), (4, vi w), (5, vi 1), (6, vi r), (7, vi ((j + 1 : Nat) : Int))]) ⟨rfl, rfl, rfl, rfl, rfl, rfl, rfl, xl_i rfl (by omega), trivial⟩ (ih (j + 1) _ (by omega) (by omega) (ha1.u (by decide)) (fun q hq => by rw [xu_if]; by_cases c : q = j; (rw [if_pos c, c]); (rw [if_neg c]; exact hq1 q (by omega))))

set_option maxRecDepth 20000 in
theorem or_83 {E : xE} {f : Nat → Nat} {D : Nat → Nat × Nat} {n : Nat} {mL : xM} {P : xPo} {PX : xPx} {a gp : Nat} {y z w : Int} {Gd : Nat → Nat → Prop} {c : Nat} {pre : List (List Nat)} {l : List Nat} {m1 : xM} (ha64 : a < 64) (ha0 : 0 < a) (hg : mL 98 1 = (gp : Int)) (hg2 : gp ≤ 240) (hcnt : 1440 + (((pcn a : Nat) : Int) - 1) * (gp : Int) = (c : Int)) (hc : c ≤ 2640) (hG : mgR mL Gd a c) (hin : inS a l) (hpre : ∀ l' ∈ pre, lxl l' l) (ha1 : ag [96, 109, 110] mL m1) (ho1 : ∀ j, j ≠ 26 → m1 96 j = mL 96 j) (hM : lnM m1 l) (hb : bsR Gd gp (pcn a) pre (m1 96 26) (m1 110))
    (hk : ∀ m2, ag [96, 109, 110] mL m2 → (∀ j, j ≠ 26 → m2 96 j = mL 96 j) → lnM m2 l → bsR Gd gp (pcn a) (pre ++ [l]) (m2 96 26) (m2 110) → xX E (("order", some .int, []), (10, 0, 0), P, PX) RX6 cX6_order 8 0 0 155 [(0, vr E 96), (1, vi (a : Int)), (2, vi y), (3, vi z), (4, vi w), (5, vi 1)] [] (gS f D n) m2) : xX E (("order", some .int, []), (10, 0, 0), P, PX) RX6 cX6_order 8 0 0 83 [(0, vr E 96), (1, vi (a : Int)), (2, vi y), (3, vi z), (4, vi w), (5, vi 1)] [] (gS f D n) m1 := by
  have hlen := hin.1
  have hp6 := pcn_b a ha64 ha0
  refine x_iload dX6_order_83 rfl ?_
  refine x_if_eq (tgt := 164) dX6_order_85 (by decide) (by omega) (fun h85 => absurd h85 (by decide)) (fun h85 => ?_)
  refine x_aload_n dX6_order_88 rfl ?_
  refine x_V0 mX6_369 dX6_order_89 rfl (s_firstStart (gp := gp) (by rw [ha1 98 (by decide)]; exact hg) hg2 hcnt hc ha64 hM hin (show mgR m1 Gd a c from fun u hu ht t htc => by rw [ha1 108 (by decide)]; exact hG u hu ht t htc) (fun r hr => ?_))
  have hrb := dayR_b hr
  have hbb := bsR_b hb
  refine x_istore dX6_order_92 ?_
  refine x_iload dX6_order_94 rfl ?_
  refine x_iconst dX6_order_96 ?_
  refine x_icmp_eq (tgt := 155) dX6_order_97 (by decide) (by omega) (fun h97 => ?_) (fun h97 => ?_)
  · exact x_loc (lv' := [(0, vr E 96), (1, vi (a : Int)), (2, vi y), (3, vi z), (4, vi w), (5, vi 1)]) ⟨rfl, rfl, rfl, rfl, rfl, rfl, trivial⟩ (hk _ ha1 ho1 hM (bsR_n hb hpre hr (Or.inl h97)))
  · refine x_aload_n dX6_order_100 rfl ?_
    refine x_getI fX6_382 dX6_order_101 rfl ?_
    refine x_iconst dX6_order_104 ?_
    refine x_icmp_eq (tgt := 117) dX6_order_105 (by decide) (by omega) (fun h105 => ?_) (fun h105 => ?_)
    · refine x_aload_n dX6_order_117 rfl ?_
      refine x_iload dX6_order_118 rfl ?_
      refine x_putI fX6_382 dX6_order_120 rfl (by decide) rfl rfl ?_
      refine x_iconst dX6_order_123 ?_
      refine x_istore dX6_order_124 ?_
      exact x_loc (lv' := [(0, vr E 96), (1, vi (a : Int)), (2, vi y), (3, vi z), (4, vi w), (5, vi 1), (6, vi r), (7, vi ((0 : Nat) : Int))]) ⟨rfl, rfl, rfl, rfl, rfl, rfl, rfl, rfl, trivial⟩ (or_126 (l := l) (m0 := xu m1 96 26 r) (by omega) ⟨by rw [xu_if, if_neg (by omega)]; exact hM.1, fun q hq => by rw [xu_ne (by omega)]; exact hM.2 q hq⟩ (fun m2 ha2 hq2 => hk m2 ((ha1.u (by decide)).tr ha2 (by decide) (by decide)) (fun j hj => by rw [ha2 96 (by decide), xu_if, if_neg hj]; exact ho1 j hj) ⟨by rw [ha2 96 (by decide), xu_if, if_neg (by omega)]; exact hM.1, fun q hq => by rw [ha2 109 (by decide), xu_ne (by omega)]; exact hM.2 q hq⟩ (by rw [ha2 96 (by decide), xu_if, if_pos rfl]; exact bsR_y hb hr h97 (Or.inl (by omega)) (fun q hq => hq2 q (by omega)))) 7 0 _ (by omega) (by omega) ag.rf (fun q hq => absurd hq (Nat.not_lt_zero q)))
    · refine x_iload dX6_order_108 rfl ?_
      refine x_aload_n dX6_order_110 rfl ?_
      refine x_getI fX6_382 dX6_order_111 rfl ?_
      refine x_icmp_ge (tgt := 155) dX6_order_114 (by decide) (by omega) (fun h114 => ?_) (fun h114 => ?_)
      · exact x_loc (lv' := [(0, vr E 96), (1, vi (a : Int)), (2, vi y), (3, vi z), (4, vi w), (5, vi 1)]) ⟨rfl, rfl, rfl, rfl, rfl, rfl, trivial⟩ (hk _ ha1 ho1 hM (bsR_n hb hpre hr (Or.inr ⟨by omega, by omega⟩)))
      · refine x_aload_n dX6_order_117 rfl ?_
        refine x_iload dX6_order_118 rfl ?_
        refine x_putI fX6_382 dX6_order_120 rfl (by decide) rfl rfl ?_
        refine x_iconst dX6_order_123 ?_
        refine x_istore dX6_order_124 ?_
        exact x_loc (lv' := [(0, vr E 96), (1, vi (a : Int)), (2, vi y), (3, vi z), (4, vi w), (5, vi 1), (6, vi r), (7, vi ((0 : Nat) : Int))]) ⟨rfl, rfl, rfl, rfl, rfl, rfl, rfl, rfl, trivial⟩ (or_126 (l := l) (m0 := xu m1 96 26 r) (by omega) ⟨by rw [xu_if, if_neg (by omega)]; exact hM.1, fun q hq => by rw [xu_ne (by omega)]; exact hM.2 q hq⟩ (fun m2 ha2 hq2 => hk m2 ((ha1.u (by decide)).tr ha2 (by decide) (by decide)) (fun j hj => by rw [ha2 96 (by decide), xu_if, if_neg hj]; exact ho1 j hj) ⟨by rw [ha2 96 (by decide), xu_if, if_neg (by omega)]; exact hM.1, fun q hq => by rw [ha2 109 (by decide), xu_ne (by omega)]; exact hM.2 q hq⟩ (by rw [ha2 96 (by decide), xu_if, if_pos rfl]; exact bsR_y hb hr h97 (Or.inr (by omega)) (fun q hq => hq2 q (by omega)))) 7 0 _ (by omega) (by omega) ag.rf (fun q hq => absurd hq (Nat.not_lt_zero q)))

theorem or_L {E : xE} {f : Nat → Nat} {D : Nat → Nat × Nat} {n : Nat} {mL : xM} {P : xPo} {PX : xPx} {a gp : Nat} {y z w : Int} {Gd : Nat → Nat → Prop} {c : Nat} (ha64 : a < 64) (ha0 : 0 < a) (hg : mL 98 1 = (gp : Int)) (hg2 : gp ≤ 240) (hcnt : 1440 + (((pcn a : Nat) : Int) - 1) * (gp : Int) = (c : Int)) (hc : c ≤ 2640) (hG : mgR mL Gd a c)
    (hF : ∀ m2, ag [96, 109, 110] mL m2 → (∀ j, j ≠ 26 → m2 96 j = mL 96 j) → bsR Gd gp (pcn a) (pl 6 a) (m2 96 26) (m2 110) → xX E (("order", some .int, []), (10, 0, 0), P, PX) RX6 cX6_order 8 0 0 164 [(0, vr E 96), (1, vi (a : Int)), (2, vi y), (3, vi z), (4, vi w)] [] (gS f D n) m2) :
    ∀ (t pre : List (List Nat)) (l : List Nat) (m1 : xM), pre ++ l :: t = pl 6 a → ag [96, 109, 110] mL m1 → (∀ j, j ≠ 26 → m1 96 j = mL 96 j) → lnM m1 l → bsR Gd gp (pcn a) pre (m1 96 26) (m1 110) → xX E (("order", some .int, []), (10, 0, 0), P, PX) RX6 cX6_order 8 0 0 83 [(0, vr E 96), (1, vi (a : Int)), (2, vi y), (3, vi z), (4, vi w), (5, vi 1)] [] (gS f D n) m1 := by
  have hch : chn a (pl 6 a) = true := by have := chn_all a ha64; simp only [Bool.and_eq_true] at this; exact this.1
  have hpw := chn_p _ hch
  intro t
  induction t with
  | nil =>
    intro pre l m1 hpl ha1 ho1 hM hb
    have h1 : chn a [l] = true := chn_ap pre (by rw [hpl]; exact hch)
    rw [← hpl] at hpw
    refine or_83 ha64 ha0 hg hg2 hcnt hc hG (chn_in h1) (fun l' hl' => (List.pairwise_append.mp hpw).2.2 l' hl' l (by simp)) ha1 ho1 hM hb (fun m2 ha2 ho2 hM2 hb2 => ?_)
    refine x_aload_n dX6_order_155 rfl ?_
    refine x_V0 mX6_385 dX6_order_156 rfl (s_hasNextLine ha64 ha0 hM2 (chn_in h1) (fun _ => ?_) (fun l' m' hl' => ?_))
    · refine x_istore dX6_order_159 ?_
      refine x_goto (tgt := 83) dX6_order_161 (by decide) ?_
      refine x_iload dX6_order_83 rfl ?_
      refine x_if_eq (tgt := 164) dX6_order_85 (by decide) (by decide) (fun h85 => ?_) (fun h85 => absurd rfl h85)
      exact x_loc (lv' := [(0, vr E 96), (1, vi (a : Int)), (2, vi y), (3, vi z), (4, vi w)]) ⟨rfl, rfl, rfl, rfl, rfl, trivial⟩ (hF m2 ha2 ho2 (by rw [← hpl]; exact hb2))
    · rw [chn_n h1] at hl'; cases hl'
  | cons l2 t ih =>
    intro pre l m1 hpl ha1 ho1 hM hb
    have h1 : chn a (l :: l2 :: t) = true := chn_ap pre (by rw [hpl]; exact hch)
    have hpw' := hpw
    rw [← hpl] at hpw'
    refine or_83 ha64 ha0 hg hg2 hcnt hc hG (chn_in h1) (fun l' hl' => (List.pairwise_append.mp hpw').2.2 l' hl' l (by simp)) ha1 ho1 hM hb (fun m2 ha2 ho2 hM2 hb2 => ?_)
    refine x_aload_n dX6_order_155 rfl ?_
    refine x_V0 mX6_385 dX6_order_156 rfl (s_hasNextLine ha64 ha0 hM2 (chn_in h1) (fun hl' => ?_) (fun l' m3 hl' ha3 hM3 => ?_))
    · rw [chn_s h1] at hl'; cases hl'
    · rw [chn_s h1] at hl'
      cases hl'
      refine x_istore dX6_order_159 ?_
      refine x_goto (tgt := 83) dX6_order_161 (by decide) ?_
      exact x_loc (lv' := [(0, vr E 96), (1, vi (a : Int)), (2, vi y), (3, vi z), (4, vi w), (5, vi 1)]) ⟨rfl, rfl, rfl, rfl, rfl, rfl, trivial⟩ (ih (pre ++ [l]) l2 m3 (by rw [← hpl]; simp) (ha2.tr ha3 (by decide) (by decide)) (fun j hj => by rw [ha3 96 (by decide)]; exact ho2 j hj) hM3 (by rw [ha3 96 (by decide), ha3 110 (by decide)]; exact hb2))

set_option maxRecDepth 20000 in
theorem s_morder {E : xE} {f : Nat → Nat} {D : Nat → Nat × Nat} {n : Nat} {m : xM} {P : xPo} {PX : xPx} {v : Nat → Int} {x y z w : Int} (hv : vOk v) (hN : mN v m) (hx : -2147483648 ≤ x ∧ x ≤ 2147483647) (hy : -2147483648 ≤ y ∧ y ≤ 2147483647) (hz : -2147483648 ≤ z ∧ z ≤ 2147483647) (hw : -2147483648 ≤ w ∧ w ≤ 2147483647) (hP : ∀ m' r, moR3 (rf2 ((1 ≤ x ∧ x < ((2 ^ (v 5).toNat : Nat) : Int)) ∧ (4 ≤ y ∧ y ≤ 25) ∧ (0 ≤ z ∧ z ≤ 10000)) (-1 ≤ w ∧ w < (pcn x.toNat : Int)) 1 0) (((1 ≤ x ∧ x < ((2 ^ (v 5).toNat : Nat) : Int)) ∧ (4 ≤ y ∧ y ≤ 25) ∧ (0 ≤ z ∧ z ≤ 10000)) ∧ (-1 ≤ w ∧ w < (pcn x.toNat : Int))) (orR v x.toNat y z w) [96, 103, 108, 109, 110] m m' r → P (some (vi r)) (gS f D n) m') : xC E (yX6_order, cX6_order, 8, some .int) 10 0 0 [vr E 96, vi x, vi y, vi z, vi w] (gS f D n) m P PX := by
  refine x_enter (by decide) rfl rfl (Nat.le_of_ble_eq_true rfl) ?_
  have hv5 := hv.1.2.2.2.2.2.1
  have hv4 := hv.1.2.2.2.2.1.1
  have hv3 := hv.1.2.2.2.1.1
  have hv1 := hv.1.2.1
  refine x_aload_n dX6_order_0 rfl ?_
  refine x_iconst dX6_order_1 ?_
  refine x_putI fX6_1 dX6_order_2 rfl (by decide) rfl rfl ?_
  refine x_aload_n dX6_order_5 rfl ?_
  refine x_aload_n dX6_order_6 rfl ?_
  refine x_iload_n dX6_order_7 rfl ?_
  refine x_V1 mX6_363 dX6_order_8 rfl (s_isSet hv hN.z hx ?_)
  refine x_if_eq (tgt := 32) dX6_order_11 (by decide) (zi_r _) (fun h11 => ?_) (fun h11 => ?_)
  · refine x_iconst dX6_order_32 ?_
    refine x_top ((zi_f (fun zz : ((1 ≤ x ∧ x < ((2 ^ (v 5).toNat : Nat) : Int)) ∧ (4 ≤ y ∧ y ≤ 25) ∧ (0 ≤ z ∧ z ≤ 10000)) => zi_0.mp h11 zz.1)).symm) ?_
    refine x_iconst dX6_order_33 ?_
    refine x_iconst dX6_order_34 ?_
    refine x_V3 mX6_196 dX6_order_35 rfl (s_isFine (p := (1 ≤ x ∧ x < ((2 ^ (v 5).toNat : Nat) : Int)) ∧ (4 ≤ y ∧ y ≤ 25) ∧ (0 ≤ z ∧ z ≤ 10000)) (c := 1) (k := 1) th_0 (by omega) (by omega) (fun m1 r1 hf1 => ?_))
    refine x_if_eq (tgt := 66) dX6_order_38 (by decide) hf1.r (fun h38 => ?_) (fun h38 => ?_)
    · obtain ⟨hp1, rfl⟩ := hf1.f h38
      refine x_iconst dX6_order_66 ?_
      exact x_iret dX6_order_67  (hP _ 0 (Or.inl ⟨1, _, Or.inl ⟨hp1, rfl, rfl⟩, rfl⟩))
    · obtain ⟨hp1, rfl⟩ := hf1.t h38
      obtain ⟨a, rfl⟩ := nat_of (show 0 ≤ x by omega)
      obtain ⟨ha64, hset⟩ := set_ok hv5 hp1.1.2
      obtain ⟨c, hcnt⟩ := cnt_ok (gp := (v 1).toNat) ha64 (show 0 < a by omega)
      have hcb := gp_c ha64 (by omega) (show (v 1).toNat ≤ 240 by omega) hcnt
      have hpc := pcn_b a ha64 (by omega)
      refine x_aload_n dX6_order_41 rfl ?_
      refine x_iload dX6_order_42 rfl ?_
      refine x_i2l dX6_order_44 (by omega) ?_
      refine x_ldc2_w kX6_375 dX6_order_45 ?_
      refine x_iload_n dX6_order_48 rfl ?_
      refine x_S1 mX6_377 dX6_order_49 (s_bitCount ha64 ?_)
      refine x_iconst dX6_order_52 ?_
      refine x_isub dX6_order_53 ?_
      refine x_i2l dX6_order_54 (by omega) ?_
      refine x_S3 mX6_122 dX6_order_55 (s_lies (by omega) ?_)
      refine x_top (zi_c (show _ ↔ (-1 ≤ w ∧ w < (pcn a : Int)) by omega)) ?_
      refine x_iconst dX6_order_58 ?_
      refine x_iconst dX6_order_59 ?_
      refine x_V3 mX6_196 dX6_order_60 rfl (s_isFine (p := (-1 ≤ w ∧ w < (pcn a : Int))) (c := 2) (k := 0) th_0 (by omega) (by omega) (fun m2 r2 hf2 => ?_))
      refine x_if_ne (tgt := 68) dX6_order_63 (by decide) hf2.r (fun h63 => ?_) (fun h63 => ?_)
      · obtain ⟨hp2, rfl⟩ := hf2.t h63
        refine x_aload_n dX6_order_68 rfl ?_
        refine x_iload_n dX6_order_69 rfl ?_
        refine x_iload_n dX6_order_70 rfl ?_
        refine x_iload_n dX6_order_71 rfl ?_
        refine x_V3 mX6_366 dX6_order_72 rfl (s_laysGoods (gp := (v 1).toNat) hv hN.z ha64 (by omega) hset (by omega) hcnt (by omega) (by omega) (fun m2 ha2 hk2 hM2 hg2 => ?_))
        refine x_aload_n dX6_order_75 rfl ?_
        refine x_iconst dX6_order_76 ?_
        refine x_putI fX6_382 dX6_order_77 rfl (by decide) rfl rfl ?_
        refine x_iconst dX6_order_80 ?_
        refine x_istore dX6_order_81 ?_
        obtain ⟨tl, htl⟩ : ∃ tl, pl 6 a = asL a :: tl := by
          have := chn_all a ha64
          simp only [Bool.and_eq_true, beq_iff_eq] at this
          cases hp : pl 6 a with
          | nil => rw [hp] at this; simp at this
          | cons q tl => rw [hp] at this; simp at this; exact ⟨tl, by rw [this.2]⟩
        refine x_loc (lv' := [(0, vr E 96), (1, vi (a : Int)), (2, vi y), (3, vi z), (4, vi w), (5, vi 1)]) ⟨rfl, rfl, rfl, rfl, rfl, rfl, trivial⟩ (or_L (mL := xu m2 96 26 (-1)) (gp := (v 1).toNat) (Gd := gdf v y z) ha64 (by omega) (by rw [xu_ne (by omega), ha2 98 (by decide), hN.z 1 (by omega)]; omega) (by omega) hcnt hcb.1 (fun u hu ht t htc => by rw [xu_ne (by omega)]; exact hg2 u hu ht t htc) (fun m3 ha3 ho3 hb3 => ?_) tl [] (asL a) _ htl.symm ag.rf (fun j hj => rfl) ⟨by rw [xu_if, if_neg (by omega)]; exact hM2.1, fun q hq => by rw [xu_ne (by omega)]; exact hM2.2 q hq⟩ (Or.inl ⟨by rw [xu_if, if_pos rfl], fun l hl => by cases hl⟩))
        have hO := bsR_o ha64 hb3
        have hOb := ordR_b hO
        have hA0 : ag [96, 103, 108, 109] (xu m 96 0 0) (xu m2 96 26 (-1)) := ha2.u (by decide)
        have hA : ag [96, 103, 108, 109, 110] (xu m 96 0 0) m3 := hA0.tr ha3 (by decide) (by decide)
        have hj : ∀ j, j ≠ 25 → j ≠ 26 → m3 96 j = xu m 96 0 0 96 j := fun j h25 h26 => by rw [ho3 j h26, xu_if, if_neg h26]; exact hk2 j h25
        refine x_aload_n dX6_order_164 rfl ?_
        refine x_getI fX6_382 dX6_order_165 rfl ?_
        refine x_iconst dX6_order_168 ?_
        refine x_icmp_ne (tgt := 174) dX6_order_169 (by decide) (by omega) (fun h169 => ?_) (fun h169 => ?_)
        · refine x_iload dX6_order_174 rfl ?_
          refine x_iconst dX6_order_176 ?_
          refine x_icmp_ne (tgt := 189) dX6_order_177 (by decide) (by omega) (fun h177 => ?_) (fun h177 => ?_)
          · refine x_aload_n dX6_order_189 rfl ?_
            refine x_getR (r := 110) fX6_59 dX6_order_190 rfl rfl ?_
            refine x_iload dX6_order_193 rfl ?_
            refine x_iald (j := w.toNat) dX6_order_195 rfl (by omega) (show _ < 6 by omega) (by omega) ?_
            exact x_iret dX6_order_196  (hP _ _ (Or.inr ⟨⟨hp1, hp2⟩, ⟨m3 96 26, m3 110, hO, Or.inr (Or.inr ⟨by omega, by omega, rfl⟩)⟩, hA, hj⟩))
          · refine x_iload_n dX6_order_180 rfl ?_
            refine x_aload_n dX6_order_181 rfl ?_
            refine x_getI fX6_382 dX6_order_182 rfl ?_
            refine x_iadd dX6_order_185 ?_
            refine x_goto (tgt := 196) dX6_order_186 (by decide) ?_
            exact x_iret dX6_order_196  (hP _ _ (Or.inr ⟨⟨hp1, hp2⟩, ⟨m3 96 26, m3 110, hO, Or.inr (Or.inl ⟨by omega, by omega, rfl⟩)⟩, hA, hj⟩))
        · refine x_iconst dX6_order_172 ?_
          exact x_iret dX6_order_173  (hP _ _ (Or.inr ⟨⟨hp1, hp2⟩, ⟨m3 96 26, m3 110, hO, Or.inl ⟨by omega, rfl⟩⟩, hA, hj⟩))
      · obtain ⟨hp2, rfl⟩ := hf2.f h63
        refine x_iconst dX6_order_66 ?_
        exact x_iret dX6_order_67  (hP _ 0 (Or.inl ⟨2, _, Or.inr ⟨hp1, hp2, rfl, rfl⟩, rfl⟩))
  · refine x_iload_n dX6_order_14 rfl ?_
    refine x_S1 mX6_339 dX6_order_15 (s_isSpeed hy ?_)
    refine x_if_eq (tgt := 32) dX6_order_18 (by decide) (zi_r _) (fun h18 => ?_) (fun h18 => ?_)
    · refine x_iconst dX6_order_32 ?_
      refine x_top ((zi_f (fun zz : ((1 ≤ x ∧ x < ((2 ^ (v 5).toNat : Nat) : Int)) ∧ (4 ≤ y ∧ y ≤ 25) ∧ (0 ≤ z ∧ z ≤ 10000)) => zi_0.mp h18 zz.2.1)).symm) ?_
      refine x_iconst dX6_order_33 ?_
      refine x_iconst dX6_order_34 ?_
      refine x_V3 mX6_196 dX6_order_35 rfl (s_isFine (p := (1 ≤ x ∧ x < ((2 ^ (v 5).toNat : Nat) : Int)) ∧ (4 ≤ y ∧ y ≤ 25) ∧ (0 ≤ z ∧ z ≤ 10000)) (c := 1) (k := 1) th_0 (by omega) (by omega) (fun m1 r1 hf1 => ?_))
      refine x_if_eq (tgt := 66) dX6_order_38 (by decide) hf1.r (fun h38 => ?_) (fun h38 => ?_)
      · obtain ⟨hp1, rfl⟩ := hf1.f h38
        refine x_iconst dX6_order_66 ?_
        exact x_iret dX6_order_67  (hP _ 0 (Or.inl ⟨1, _, Or.inl ⟨hp1, rfl, rfl⟩, rfl⟩))
      · obtain ⟨hp1, rfl⟩ := hf1.t h38
        obtain ⟨a, rfl⟩ := nat_of (show 0 ≤ x by omega)
        obtain ⟨ha64, hset⟩ := set_ok hv5 hp1.1.2
        obtain ⟨c, hcnt⟩ := cnt_ok (gp := (v 1).toNat) ha64 (show 0 < a by omega)
        have hcb := gp_c ha64 (by omega) (show (v 1).toNat ≤ 240 by omega) hcnt
        have hpc := pcn_b a ha64 (by omega)
        refine x_aload_n dX6_order_41 rfl ?_
        refine x_iload dX6_order_42 rfl ?_
        refine x_i2l dX6_order_44 (by omega) ?_
        refine x_ldc2_w kX6_375 dX6_order_45 ?_
        refine x_iload_n dX6_order_48 rfl ?_
        refine x_S1 mX6_377 dX6_order_49 (s_bitCount ha64 ?_)
        refine x_iconst dX6_order_52 ?_
        refine x_isub dX6_order_53 ?_
        refine x_i2l dX6_order_54 (by omega) ?_
        refine x_S3 mX6_122 dX6_order_55 (s_lies (by omega) ?_)
        refine x_top (zi_c (show _ ↔ (-1 ≤ w ∧ w < (pcn a : Int)) by omega)) ?_
        refine x_iconst dX6_order_58 ?_
        refine x_iconst dX6_order_59 ?_
        refine x_V3 mX6_196 dX6_order_60 rfl (s_isFine (p := (-1 ≤ w ∧ w < (pcn a : Int))) (c := 2) (k := 0) th_0 (by omega) (by omega) (fun m2 r2 hf2 => ?_))
        refine x_if_ne (tgt := 68) dX6_order_63 (by decide) hf2.r (fun h63 => ?_) (fun h63 => ?_)
        · obtain ⟨hp2, rfl⟩ := hf2.t h63
          refine x_aload_n dX6_order_68 rfl ?_
          refine x_iload_n dX6_order_69 rfl ?_
          refine x_iload_n dX6_order_70 rfl ?_
          refine x_iload_n dX6_order_71 rfl ?_
          refine x_V3 mX6_366 dX6_order_72 rfl (s_laysGoods (gp := (v 1).toNat) hv hN.z ha64 (by omega) hset (by omega) hcnt (by omega) (by omega) (fun m2 ha2 hk2 hM2 hg2 => ?_))
          refine x_aload_n dX6_order_75 rfl ?_
          refine x_iconst dX6_order_76 ?_
          refine x_putI fX6_382 dX6_order_77 rfl (by decide) rfl rfl ?_
          refine x_iconst dX6_order_80 ?_
          refine x_istore dX6_order_81 ?_
          obtain ⟨tl, htl⟩ : ∃ tl, pl 6 a = asL a :: tl := by
            have := chn_all a ha64
            simp only [Bool.and_eq_true, beq_iff_eq] at this
            cases hp : pl 6 a with
            | nil => rw [hp] at this; simp at this
            | cons q tl => rw [hp] at this; simp at this; exact ⟨tl, by rw [this.2]⟩
          refine x_loc (lv' := [(0, vr E 96), (1, vi (a : Int)), (2, vi y), (3, vi z), (4, vi w), (5, vi 1)]) ⟨rfl, rfl, rfl, rfl, rfl, rfl, trivial⟩ (or_L (mL := xu m2 96 26 (-1)) (gp := (v 1).toNat) (Gd := gdf v y z) ha64 (by omega) (by rw [xu_ne (by omega), ha2 98 (by decide), hN.z 1 (by omega)]; omega) (by omega) hcnt hcb.1 (fun u hu ht t htc => by rw [xu_ne (by omega)]; exact hg2 u hu ht t htc) (fun m3 ha3 ho3 hb3 => ?_) tl [] (asL a) _ htl.symm ag.rf (fun j hj => rfl) ⟨by rw [xu_if, if_neg (by omega)]; exact hM2.1, fun q hq => by rw [xu_ne (by omega)]; exact hM2.2 q hq⟩ (Or.inl ⟨by rw [xu_if, if_pos rfl], fun l hl => by cases hl⟩))
          have hO := bsR_o ha64 hb3
          have hOb := ordR_b hO
          have hA0 : ag [96, 103, 108, 109] (xu m 96 0 0) (xu m2 96 26 (-1)) := ha2.u (by decide)
          have hA : ag [96, 103, 108, 109, 110] (xu m 96 0 0) m3 := hA0.tr ha3 (by decide) (by decide)
          have hj : ∀ j, j ≠ 25 → j ≠ 26 → m3 96 j = xu m 96 0 0 96 j := fun j h25 h26 => by rw [ho3 j h26, xu_if, if_neg h26]; exact hk2 j h25
          refine x_aload_n dX6_order_164 rfl ?_
          refine x_getI fX6_382 dX6_order_165 rfl ?_
          refine x_iconst dX6_order_168 ?_
          refine x_icmp_ne (tgt := 174) dX6_order_169 (by decide) (by omega) (fun h169 => ?_) (fun h169 => ?_)
          · refine x_iload dX6_order_174 rfl ?_
            refine x_iconst dX6_order_176 ?_
            refine x_icmp_ne (tgt := 189) dX6_order_177 (by decide) (by omega) (fun h177 => ?_) (fun h177 => ?_)
            · refine x_aload_n dX6_order_189 rfl ?_
              refine x_getR (r := 110) fX6_59 dX6_order_190 rfl rfl ?_
              refine x_iload dX6_order_193 rfl ?_
              refine x_iald (j := w.toNat) dX6_order_195 rfl (by omega) (show _ < 6 by omega) (by omega) ?_
              exact x_iret dX6_order_196  (hP _ _ (Or.inr ⟨⟨hp1, hp2⟩, ⟨m3 96 26, m3 110, hO, Or.inr (Or.inr ⟨by omega, by omega, rfl⟩)⟩, hA, hj⟩))
            · refine x_iload_n dX6_order_180 rfl ?_
              refine x_aload_n dX6_order_181 rfl ?_
              refine x_getI fX6_382 dX6_order_182 rfl ?_
              refine x_iadd dX6_order_185 ?_
              refine x_goto (tgt := 196) dX6_order_186 (by decide) ?_
              exact x_iret dX6_order_196  (hP _ _ (Or.inr ⟨⟨hp1, hp2⟩, ⟨m3 96 26, m3 110, hO, Or.inr (Or.inl ⟨by omega, by omega, rfl⟩)⟩, hA, hj⟩))
          · refine x_iconst dX6_order_172 ?_
            exact x_iret dX6_order_173  (hP _ _ (Or.inr ⟨⟨hp1, hp2⟩, ⟨m3 96 26, m3 110, hO, Or.inl ⟨by omega, rfl⟩⟩, hA, hj⟩))
        · obtain ⟨hp2, rfl⟩ := hf2.f h63
          refine x_iconst dX6_order_66 ?_
          exact x_iret dX6_order_67  (hP _ 0 (Or.inl ⟨2, _, Or.inr ⟨hp1, hp2, rfl, rfl⟩, rfl⟩))
    · refine x_iload_n dX6_order_21 rfl ?_
      refine x_S1 mX6_336 dX6_order_22 (s_isMinute hz ?_)
      refine x_if_eq (tgt := 32) dX6_order_25 (by decide) (zi_r _) (fun h25 => ?_) (fun h25 => ?_)
      · refine x_iconst dX6_order_32 ?_
        refine x_top ((zi_f (fun zz : ((1 ≤ x ∧ x < ((2 ^ (v 5).toNat : Nat) : Int)) ∧ (4 ≤ y ∧ y ≤ 25) ∧ (0 ≤ z ∧ z ≤ 10000)) => zi_0.mp h25 zz.2.2)).symm) ?_
        refine x_iconst dX6_order_33 ?_
        refine x_iconst dX6_order_34 ?_
        refine x_V3 mX6_196 dX6_order_35 rfl (s_isFine (p := (1 ≤ x ∧ x < ((2 ^ (v 5).toNat : Nat) : Int)) ∧ (4 ≤ y ∧ y ≤ 25) ∧ (0 ≤ z ∧ z ≤ 10000)) (c := 1) (k := 1) th_0 (by omega) (by omega) (fun m1 r1 hf1 => ?_))
        refine x_if_eq (tgt := 66) dX6_order_38 (by decide) hf1.r (fun h38 => ?_) (fun h38 => ?_)
        · obtain ⟨hp1, rfl⟩ := hf1.f h38
          refine x_iconst dX6_order_66 ?_
          exact x_iret dX6_order_67  (hP _ 0 (Or.inl ⟨1, _, Or.inl ⟨hp1, rfl, rfl⟩, rfl⟩))
        · obtain ⟨hp1, rfl⟩ := hf1.t h38
          obtain ⟨a, rfl⟩ := nat_of (show 0 ≤ x by omega)
          obtain ⟨ha64, hset⟩ := set_ok hv5 hp1.1.2
          obtain ⟨c, hcnt⟩ := cnt_ok (gp := (v 1).toNat) ha64 (show 0 < a by omega)
          have hcb := gp_c ha64 (by omega) (show (v 1).toNat ≤ 240 by omega) hcnt
          have hpc := pcn_b a ha64 (by omega)
          refine x_aload_n dX6_order_41 rfl ?_
          refine x_iload dX6_order_42 rfl ?_
          refine x_i2l dX6_order_44 (by omega) ?_
          refine x_ldc2_w kX6_375 dX6_order_45 ?_
          refine x_iload_n dX6_order_48 rfl ?_
          refine x_S1 mX6_377 dX6_order_49 (s_bitCount ha64 ?_)
          refine x_iconst dX6_order_52 ?_
          refine x_isub dX6_order_53 ?_
          refine x_i2l dX6_order_54 (by omega) ?_
          refine x_S3 mX6_122 dX6_order_55 (s_lies (by omega) ?_)
          refine x_top (zi_c (show _ ↔ (-1 ≤ w ∧ w < (pcn a : Int)) by omega)) ?_
          refine x_iconst dX6_order_58 ?_
          refine x_iconst dX6_order_59 ?_
          refine x_V3 mX6_196 dX6_order_60 rfl (s_isFine (p := (-1 ≤ w ∧ w < (pcn a : Int))) (c := 2) (k := 0) th_0 (by omega) (by omega) (fun m2 r2 hf2 => ?_))
          refine x_if_ne (tgt := 68) dX6_order_63 (by decide) hf2.r (fun h63 => ?_) (fun h63 => ?_)
          · obtain ⟨hp2, rfl⟩ := hf2.t h63
            refine x_aload_n dX6_order_68 rfl ?_
            refine x_iload_n dX6_order_69 rfl ?_
            refine x_iload_n dX6_order_70 rfl ?_
            refine x_iload_n dX6_order_71 rfl ?_
            refine x_V3 mX6_366 dX6_order_72 rfl (s_laysGoods (gp := (v 1).toNat) hv hN.z ha64 (by omega) hset (by omega) hcnt (by omega) (by omega) (fun m2 ha2 hk2 hM2 hg2 => ?_))
            refine x_aload_n dX6_order_75 rfl ?_
            refine x_iconst dX6_order_76 ?_
            refine x_putI fX6_382 dX6_order_77 rfl (by decide) rfl rfl ?_
            refine x_iconst dX6_order_80 ?_
            refine x_istore dX6_order_81 ?_
            obtain ⟨tl, htl⟩ : ∃ tl, pl 6 a = asL a :: tl := by
              have := chn_all a ha64
              simp only [Bool.and_eq_true, beq_iff_eq] at this
              cases hp : pl 6 a with
              | nil => rw [hp] at this; simp at this
              | cons q tl => rw [hp] at this; simp at this; exact ⟨tl, by rw [this.2]⟩
            refine x_loc (lv' := [(0, vr E 96), (1, vi (a : Int)), (2, vi y), (3, vi z), (4, vi w), (5, vi 1)]) ⟨rfl, rfl, rfl, rfl, rfl, rfl, trivial⟩ (or_L (mL := xu m2 96 26 (-1)) (gp := (v 1).toNat) (Gd := gdf v y z) ha64 (by omega) (by rw [xu_ne (by omega), ha2 98 (by decide), hN.z 1 (by omega)]; omega) (by omega) hcnt hcb.1 (fun u hu ht t htc => by rw [xu_ne (by omega)]; exact hg2 u hu ht t htc) (fun m3 ha3 ho3 hb3 => ?_) tl [] (asL a) _ htl.symm ag.rf (fun j hj => rfl) ⟨by rw [xu_if, if_neg (by omega)]; exact hM2.1, fun q hq => by rw [xu_ne (by omega)]; exact hM2.2 q hq⟩ (Or.inl ⟨by rw [xu_if, if_pos rfl], fun l hl => by cases hl⟩))
            have hO := bsR_o ha64 hb3
            have hOb := ordR_b hO
            have hA0 : ag [96, 103, 108, 109] (xu m 96 0 0) (xu m2 96 26 (-1)) := ha2.u (by decide)
            have hA : ag [96, 103, 108, 109, 110] (xu m 96 0 0) m3 := hA0.tr ha3 (by decide) (by decide)
            have hj : ∀ j, j ≠ 25 → j ≠ 26 → m3 96 j = xu m 96 0 0 96 j := fun j h25 h26 => by rw [ho3 j h26, xu_if, if_neg h26]; exact hk2 j h25
            refine x_aload_n dX6_order_164 rfl ?_
            refine x_getI fX6_382 dX6_order_165 rfl ?_
            refine x_iconst dX6_order_168 ?_
            refine x_icmp_ne (tgt := 174) dX6_order_169 (by decide) (by omega) (fun h169 => ?_) (fun h169 => ?_)
            · refine x_iload dX6_order_174 rfl ?_
              refine x_iconst dX6_order_176 ?_
              refine x_icmp_ne (tgt := 189) dX6_order_177 (by decide) (by omega) (fun h177 => ?_) (fun h177 => ?_)
              · refine x_aload_n dX6_order_189 rfl ?_
                refine x_getR (r := 110) fX6_59 dX6_order_190 rfl rfl ?_
                refine x_iload dX6_order_193 rfl ?_
                refine x_iald (j := w.toNat) dX6_order_195 rfl (by omega) (show _ < 6 by omega) (by omega) ?_
                exact x_iret dX6_order_196  (hP _ _ (Or.inr ⟨⟨hp1, hp2⟩, ⟨m3 96 26, m3 110, hO, Or.inr (Or.inr ⟨by omega, by omega, rfl⟩)⟩, hA, hj⟩))
              · refine x_iload_n dX6_order_180 rfl ?_
                refine x_aload_n dX6_order_181 rfl ?_
                refine x_getI fX6_382 dX6_order_182 rfl ?_
                refine x_iadd dX6_order_185 ?_
                refine x_goto (tgt := 196) dX6_order_186 (by decide) ?_
                exact x_iret dX6_order_196  (hP _ _ (Or.inr ⟨⟨hp1, hp2⟩, ⟨m3 96 26, m3 110, hO, Or.inr (Or.inl ⟨by omega, by omega, rfl⟩)⟩, hA, hj⟩))
            · refine x_iconst dX6_order_172 ?_
              exact x_iret dX6_order_173  (hP _ _ (Or.inr ⟨⟨hp1, hp2⟩, ⟨m3 96 26, m3 110, hO, Or.inl ⟨by omega, rfl⟩⟩, hA, hj⟩))
          · obtain ⟨hp2, rfl⟩ := hf2.f h63
            refine x_iconst dX6_order_66 ?_
            exact x_iret dX6_order_67  (hP _ 0 (Or.inl ⟨2, _, Or.inr ⟨hp1, hp2, rfl, rfl⟩, rfl⟩))
      · refine x_iconst dX6_order_28 ?_
        refine x_goto (tgt := 33) dX6_order_29 (by decide) ?_
        refine x_top ((zi_t (show (1 ≤ x ∧ x < ((2 ^ (v 5).toNat : Nat) : Int)) ∧ (4 ≤ y ∧ y ≤ 25) ∧ (0 ≤ z ∧ z ≤ 10000) from ⟨zi_1.mp h11, zi_1.mp h18, zi_1.mp h25⟩)).symm) ?_
        refine x_iconst dX6_order_33 ?_
        refine x_iconst dX6_order_34 ?_
        refine x_V3 mX6_196 dX6_order_35 rfl (s_isFine (p := (1 ≤ x ∧ x < ((2 ^ (v 5).toNat : Nat) : Int)) ∧ (4 ≤ y ∧ y ≤ 25) ∧ (0 ≤ z ∧ z ≤ 10000)) (c := 1) (k := 1) th_0 (by omega) (by omega) (fun m1 r1 hf1 => ?_))
        refine x_if_eq (tgt := 66) dX6_order_38 (by decide) hf1.r (fun h38 => ?_) (fun h38 => ?_)
        · obtain ⟨hp1, rfl⟩ := hf1.f h38
          refine x_iconst dX6_order_66 ?_
          exact x_iret dX6_order_67  (hP _ 0 (Or.inl ⟨1, _, Or.inl ⟨hp1, rfl, rfl⟩, rfl⟩))
        · obtain ⟨hp1, rfl⟩ := hf1.t h38
          obtain ⟨a, rfl⟩ := nat_of (show 0 ≤ x by omega)
          obtain ⟨ha64, hset⟩ := set_ok hv5 hp1.1.2
          obtain ⟨c, hcnt⟩ := cnt_ok (gp := (v 1).toNat) ha64 (show 0 < a by omega)
          have hcb := gp_c ha64 (by omega) (show (v 1).toNat ≤ 240 by omega) hcnt
          have hpc := pcn_b a ha64 (by omega)
          refine x_aload_n dX6_order_41 rfl ?_
          refine x_iload dX6_order_42 rfl ?_
          refine x_i2l dX6_order_44 (by omega) ?_
          refine x_ldc2_w kX6_375 dX6_order_45 ?_
          refine x_iload_n dX6_order_48 rfl ?_
          refine x_S1 mX6_377 dX6_order_49 (s_bitCount ha64 ?_)
          refine x_iconst dX6_order_52 ?_
          refine x_isub dX6_order_53 ?_
          refine x_i2l dX6_order_54 (by omega) ?_
          refine x_S3 mX6_122 dX6_order_55 (s_lies (by omega) ?_)
          refine x_top (zi_c (show _ ↔ (-1 ≤ w ∧ w < (pcn a : Int)) by omega)) ?_
          refine x_iconst dX6_order_58 ?_
          refine x_iconst dX6_order_59 ?_
          refine x_V3 mX6_196 dX6_order_60 rfl (s_isFine (p := (-1 ≤ w ∧ w < (pcn a : Int))) (c := 2) (k := 0) th_0 (by omega) (by omega) (fun m2 r2 hf2 => ?_))
          refine x_if_ne (tgt := 68) dX6_order_63 (by decide) hf2.r (fun h63 => ?_) (fun h63 => ?_)
          · obtain ⟨hp2, rfl⟩ := hf2.t h63
            refine x_aload_n dX6_order_68 rfl ?_
            refine x_iload_n dX6_order_69 rfl ?_
            refine x_iload_n dX6_order_70 rfl ?_
            refine x_iload_n dX6_order_71 rfl ?_
            refine x_V3 mX6_366 dX6_order_72 rfl (s_laysGoods (gp := (v 1).toNat) hv hN.z ha64 (by omega) hset (by omega) hcnt (by omega) (by omega) (fun m2 ha2 hk2 hM2 hg2 => ?_))
            refine x_aload_n dX6_order_75 rfl ?_
            refine x_iconst dX6_order_76 ?_
            refine x_putI fX6_382 dX6_order_77 rfl (by decide) rfl rfl ?_
            refine x_iconst dX6_order_80 ?_
            refine x_istore dX6_order_81 ?_
            obtain ⟨tl, htl⟩ : ∃ tl, pl 6 a = asL a :: tl := by
              have := chn_all a ha64
              simp only [Bool.and_eq_true, beq_iff_eq] at this
              cases hp : pl 6 a with
              | nil => rw [hp] at this; simp at this
              | cons q tl => rw [hp] at this; simp at this; exact ⟨tl, by rw [this.2]⟩
            refine x_loc (lv' := [(0, vr E 96), (1, vi (a : Int)), (2, vi y), (3, vi z), (4, vi w), (5, vi 1)]) ⟨rfl, rfl, rfl, rfl, rfl, rfl, trivial⟩ (or_L (mL := xu m2 96 26 (-1)) (gp := (v 1).toNat) (Gd := gdf v y z) ha64 (by omega) (by rw [xu_ne (by omega), ha2 98 (by decide), hN.z 1 (by omega)]; omega) (by omega) hcnt hcb.1 (fun u hu ht t htc => by rw [xu_ne (by omega)]; exact hg2 u hu ht t htc) (fun m3 ha3 ho3 hb3 => ?_) tl [] (asL a) _ htl.symm ag.rf (fun j hj => rfl) ⟨by rw [xu_if, if_neg (by omega)]; exact hM2.1, fun q hq => by rw [xu_ne (by omega)]; exact hM2.2 q hq⟩ (Or.inl ⟨by rw [xu_if, if_pos rfl], fun l hl => by cases hl⟩))
            have hO := bsR_o ha64 hb3
            have hOb := ordR_b hO
            have hA0 : ag [96, 103, 108, 109] (xu m 96 0 0) (xu m2 96 26 (-1)) := ha2.u (by decide)
            have hA : ag [96, 103, 108, 109, 110] (xu m 96 0 0) m3 := hA0.tr ha3 (by decide) (by decide)
            have hj : ∀ j, j ≠ 25 → j ≠ 26 → m3 96 j = xu m 96 0 0 96 j := fun j h25 h26 => by rw [ho3 j h26, xu_if, if_neg h26]; exact hk2 j h25
            refine x_aload_n dX6_order_164 rfl ?_
            refine x_getI fX6_382 dX6_order_165 rfl ?_
            refine x_iconst dX6_order_168 ?_
            refine x_icmp_ne (tgt := 174) dX6_order_169 (by decide) (by omega) (fun h169 => ?_) (fun h169 => ?_)
            · refine x_iload dX6_order_174 rfl ?_
              refine x_iconst dX6_order_176 ?_
              refine x_icmp_ne (tgt := 189) dX6_order_177 (by decide) (by omega) (fun h177 => ?_) (fun h177 => ?_)
              · refine x_aload_n dX6_order_189 rfl ?_
                refine x_getR (r := 110) fX6_59 dX6_order_190 rfl rfl ?_
                refine x_iload dX6_order_193 rfl ?_
                refine x_iald (j := w.toNat) dX6_order_195 rfl (by omega) (show _ < 6 by omega) (by omega) ?_
                exact x_iret dX6_order_196  (hP _ _ (Or.inr ⟨⟨hp1, hp2⟩, ⟨m3 96 26, m3 110, hO, Or.inr (Or.inr ⟨by omega, by omega, rfl⟩)⟩, hA, hj⟩))
              · refine x_iload_n dX6_order_180 rfl ?_
                refine x_aload_n dX6_order_181 rfl ?_
                refine x_getI fX6_382 dX6_order_182 rfl ?_
                refine x_iadd dX6_order_185 ?_
                refine x_goto (tgt := 196) dX6_order_186 (by decide) ?_
                exact x_iret dX6_order_196  (hP _ _ (Or.inr ⟨⟨hp1, hp2⟩, ⟨m3 96 26, m3 110, hO, Or.inr (Or.inl ⟨by omega, by omega, rfl⟩)⟩, hA, hj⟩))
            · refine x_iconst dX6_order_172 ?_
              exact x_iret dX6_order_173  (hP _ _ (Or.inr ⟨⟨hp1, hp2⟩, ⟨m3 96 26, m3 110, hO, Or.inl ⟨by omega, rfl⟩⟩, hA, hj⟩))
          · obtain ⟨hp2, rfl⟩ := hf2.f h63
            refine x_iconst dX6_order_66 ?_
            exact x_iret dX6_order_67  (hP _ 0 (Or.inl ⟨2, _, Or.inr ⟨hp1, hp2, rfl, rfl⟩, rfl⟩))

end MP
