section CQ
/-- the cells of charts: the class's own, the eight kept, the draft -/
def chL : List Nat := [41, 47, 51, 55, 59, 63, 67, 71, 75, 82]
theorem ch_1 : ∀ c ∈ chL, c < 100 ∧ 40 < c ∧ gkt.getD c 99 = 0 ∧ gkt.getD (c + 1) 99 = 8 ∧ gkt.getD (c + 2) 99 = 8 ∧ gkt.getD (c + 3) 99 = 8 ∧ glt.getD (c + 1) 0 = 18 ∧ glt.getD (c + 2) 0 = 36 ∧ glt.getD (c + 3) 0 = 48 := by decide
theorem ch_2 : ∀ c ∈ chL, c ≠ 40 ∧ c ≠ 45 ∧ c ≠ 46 ∧ c ≠ 80 ∧ c ≠ 86 ∧ c ≠ 88 ∧ c ≠ 96 := by decide
theorem ch_3 : ∀ c ∈ chL, ∀ d ∈ chL, d ≠ c → c + 4 ≤ d ∨ d + 4 ≤ c := by decide
theorem ch_4 : ∀ j : Nat, j < 8 → 47 + 4 * j ∈ chL := by decide
section CH9
variable {f : Nat → Nat} {D : Nat → Nat × Nat} {n c : Nat}
theorem ch_n (h : c ∈ chL) : nS ≤ c := by have := (ch_1 c h).2.1; unfold nS; omega
theorem ch_K (h : c ∈ chL) : (gS f D n).2.1 c = 0 := by
  have h1 := ch_1 c h
  show (if c < 112 then gkt.getD c 99 else _) = 0
  rw [if_pos (by omega)]; exact h1.2.2.1
theorem ch_K1 (h : c ∈ chL) : (gS f D n).2.1 (c + 1) = 8 ∧ (gS f D n).2.1 (c + 2) = 8 ∧ (gS f D n).2.1 (c + 3) = 8 := by
  have h1 := ch_1 c h
  refine ⟨?_, ?_, ?_⟩
  · show (if c + 1 < 112 then gkt.getD (c + 1) 99 else _) = 8
    rw [if_pos (by omega)]; exact h1.2.2.2.1
  · show (if c + 2 < 112 then gkt.getD (c + 2) 99 else _) = 8
    rw [if_pos (by omega)]; exact h1.2.2.2.2.1
  · show (if c + 3 < 112 then gkt.getD (c + 3) 99 else _) = 8
    rw [if_pos (by omega)]; exact h1.2.2.2.2.2.1
theorem ch_L (h : c ∈ chL) : (gS f D n).2.2.1 (c + 1) = 18 ∧ (gS f D n).2.2.1 (c + 2) = 36 ∧ (gS f D n).2.2.1 (c + 3) = 48 := by
  have h1 := ch_1 c h
  refine ⟨?_, ?_, ?_⟩
  · show (if c + 1 < 112 then glt.getD (c + 1) 0 else _) = 18
    rw [if_pos (by omega)]; exact h1.2.2.2.2.2.2.1
  · show (if c + 2 < 112 then glt.getD (c + 2) 0 else _) = 36
    rw [if_pos (by omega)]; exact h1.2.2.2.2.2.2.2.1
  · show (if c + 3 < 112 then glt.getD (c + 3) 0 else _) = 48
    rw [if_pos (by omega)]; exact h1.2.2.2.2.2.2.2.2
theorem ch_g (h : c ∈ chL) (j : Nat) : gRf f c j = if j = 6 then c + 1 else if j = 7 then c + 2 else if j = 8 then c + 3 else if j = 9 then f c else 0 := by
  obtain ⟨a1, a2, a3, a4, a5, a6, a7⟩ := ch_2 c h
  unfold gRf
  rw [if_neg a1, if_neg a2, if_neg a3, if_neg a4, if_neg a5, if_neg a6, if_neg a7, if_pos (ch_1 c h).2.2.1]
theorem ch_r6 (h : c ∈ chL) : (gS f D n).1 c 6 = c + 1 := (ch_g h 6).trans rfl
theorem ch_r7 (h : c ∈ chL) : (gS f D n).1 c 7 = c + 2 := (ch_g h 7).trans rfl
theorem ch_r8 (h : c ∈ chL) : (gS f D n).1 c 8 = c + 3 := (ch_g h 8).trans rfl
theorem ch_r9 (h : c ∈ chL) : (gS f D n).1 c 9 = f c := (ch_g h 9).trans rfl
def fu (f : Nat → Nat) (c z : Nat) : Nat → Nat := fun a => if a = c then z else f a
theorem fu_s {z : Nat} : fu f c z c = z := if_pos rfl
theorem fu_n {z a : Nat} (h : a ≠ c) : fu f c z a = f a := if_neg h
theorem gS_fu {z : Nat} (h : c ∈ chL) : xur (gS f D n) c 9 z = gS (fu f c z) D n := by
  have e : (fun a b => if a = c then (if b = 9 then z else gRf f a b) else gRf f a b) = gRf (fu f c z) := by
    funext a b
    by_cases q : a = c
    · subst q
      rw [if_pos rfl, ch_g h, ch_g h, fu_s]
      by_cases q9 : b = 9
      · subst q9; rfl
      · rw [if_neg q9, if_neg q9, if_neg q9]
    · rw [if_neg q]
      unfold gRf
      rw [fu_n q]
  show ((fun a b => if a = c then (if b = 9 then z else gRf f a b) else gRf f a b), (gS f D n).2) = _
  rw [e]
  rfl
end CH9
/-- a chart copied -/
def cpR (c d : Nat) (m m' : xM) : Prop := ag [c, c + 1, c + 2, c + 3] m m' ∧ (∀ j, j < 6 → m' c j = m d j) ∧ m' c 10 = m d 10 ∧ m' c 11 = m d 11 ∧ (∀ i, i < 18 → m' (c + 1) i = m (d + 1) i) ∧ (∀ i, i < 36 → m' (c + 2) i = m (d + 2) i) ∧ ∀ i, i < 48 → m' (c + 3) i = m (d + 3) i
set_option maxRecDepth 20000 in
theorem cf_b {E : xE} {f : Nat → Nat} {D : Nat → Nat × Nat} {n : Nat} {m : xM} {P : xPo} {PX : xPx} {c d : Nat} {m1 : xM} (hc : c ∈ chL) (hd : d ∈ chL) (hdc : d ≠ c) (hP : ∀ m', cpR c d m m' → P none (gS (fu f c (f d)) D n) m') (h10 : 0 ≤ m d 10 ∧ m d 10 ≤ 1) (ha1 : ag [c] m m1) (h6 : ∀ j, j < 6 → m1 c j = m d j) : xX E (("copyFrom", none, []), (1, 0, 0), P, PX) RX0 cX0_copyFrom 2 0 0 48 [(0, vr E c), (1, vr E d)] [] (gS f D n) m1 := by
  have hap := ch_3 c hc d hd hdc
  have hcb := ch_1 c hc
  refine x_aload_n dX0_copyFrom_48 rfl ?_
  refine x_getR (r := d + 1) fX0_15 dX0_copyFrom_49 (ch_K hd) (ch_r6 hd) ?_
  refine x_iconst dX0_copyFrom_52 ?_
  refine x_aload_n dX0_copyFrom_53 rfl ?_
  refine x_getR (r := c + 1) fX0_15 dX0_copyFrom_54 (ch_K hc) (ch_r6 hc) ?_
  refine x_iconst dX0_copyFrom_57 ?_
  refine x_aload_n dX0_copyFrom_58 rfl ?_
  refine x_getR (r := c + 1) fX0_15 dX0_copyFrom_59 (ch_K hc) (ch_r6 hc) ?_
  refine x_alen (t := 8) (N := 18) dX0_copyFrom_62 (ch_K1 hc).1 (by decide) (ch_L hc).1 ?_
  refine x_copyI (a := d + 1) (b := c + 1) (i := 0) (j := 0) (N := 18) mX0_50 dX0_copyFrom_63 (ch_K1 hd).1 (ch_K1 hc).1 (Nat.le_trans (ch_n hc) (by omega)) (by rw [(ch_L hd).1]; omega) (by rw [(ch_L hc).1]; omega) (by omega) (by omega) (Nat.le_of_ble_eq_true rfl) ?_
  refine x_aload_n dX0_copyFrom_66 rfl ?_
  refine x_getR (r := d + 2) fX0_19 dX0_copyFrom_67 (ch_K hd) (ch_r7 hd) ?_
  refine x_iconst dX0_copyFrom_70 ?_
  refine x_aload_n dX0_copyFrom_71 rfl ?_
  refine x_getR (r := c + 2) fX0_19 dX0_copyFrom_72 (ch_K hc) (ch_r7 hc) ?_
  refine x_iconst dX0_copyFrom_75 ?_
  refine x_aload_n dX0_copyFrom_76 rfl ?_
  refine x_getR (r := c + 2) fX0_19 dX0_copyFrom_77 (ch_K hc) (ch_r7 hc) ?_
  refine x_alen (t := 8) (N := 36) dX0_copyFrom_80 (ch_K1 hc).2.1 (by decide) (ch_L hc).2.1 ?_
  refine x_copyI (a := d + 2) (b := c + 2) (i := 0) (j := 0) (N := 36) mX0_50 dX0_copyFrom_81 (ch_K1 hd).2.1 (ch_K1 hc).2.1 (Nat.le_trans (ch_n hc) (by omega)) (by rw [(ch_L hd).2.1]; omega) (by rw [(ch_L hc).2.1]; omega) (by omega) (by omega) (Nat.le_of_ble_eq_true rfl) ?_
  refine x_aload_n dX0_copyFrom_84 rfl ?_
  refine x_getR (r := d + 3) fX0_22 dX0_copyFrom_85 (ch_K hd) (ch_r8 hd) ?_
  refine x_iconst dX0_copyFrom_88 ?_
  refine x_aload_n dX0_copyFrom_89 rfl ?_
  refine x_getR (r := c + 3) fX0_22 dX0_copyFrom_90 (ch_K hc) (ch_r8 hc) ?_
  refine x_iconst dX0_copyFrom_93 ?_
  refine x_aload_n dX0_copyFrom_94 rfl ?_
  refine x_getR (r := c + 3) fX0_22 dX0_copyFrom_95 (ch_K hc) (ch_r8 hc) ?_
  refine x_alen (t := 8) (N := 48) dX0_copyFrom_98 (ch_K1 hc).2.2 (by decide) (ch_L hc).2.2 ?_
  refine x_copyI (a := d + 3) (b := c + 3) (i := 0) (j := 0) (N := 48) mX0_50 dX0_copyFrom_99 (ch_K1 hd).2.2 (ch_K1 hc).2.2 (Nat.le_trans (ch_n hc) (by omega)) (by rw [(ch_L hd).2.2]; omega) (by rw [(ch_L hc).2.2]; omega) (by omega) (by omega) (Nat.le_of_ble_eq_true rfl) ?_
  refine x_aload_n dX0_copyFrom_102 rfl ?_
  refine x_aload_n dX0_copyFrom_103 rfl ?_
  refine x_getR (r := f d) fX0_28 dX0_copyFrom_104 (ch_K hd) (ch_r9 hd) ?_
  refine x_putR fX0_28 dX0_copyFrom_107 (ch_K hc) (ch_n hc) rfl ?_
  rw [gS_fu hc]
  refine x_aload_n dX0_copyFrom_110 rfl ?_
  refine x_aload_n dX0_copyFrom_111 rfl ?_
  refine x_getI fX0_46 dX0_copyFrom_112 (ch_K hd) ?_
  refine x_top (show _ = m d 10 by rw [xcpy_ne (by omega), xcpy_ne (by omega), xcpy_ne (by omega), ha1 d (fun q => hdc (List.mem_singleton.mp q))]) ?_
  refine x_putZ fX0_46 dX0_copyFrom_115 (ch_K hc) (ch_n hc) rfl rfl (by omega) ?_
  refine x_aload_n dX0_copyFrom_118 rfl ?_
  refine x_aload_n dX0_copyFrom_119 rfl ?_
  refine x_getI fX0_56 dX0_copyFrom_120 (ch_K hd) ?_
  refine x_top (show _ = m d 11 by rw [xu_ne hdc, xcpy_ne (by omega), xcpy_ne (by omega), xcpy_ne (by omega), ha1 d (fun q => hdc (List.mem_singleton.mp q))]) ?_
  refine x_putI fX0_56 dX0_copyFrom_123 (ch_K hc) (ch_n hc) rfl rfl ?_
  refine x_vret dX0_copyFrom_126 (hP _ ⟨?_, ?_, ?_, ?_, ?_, ?_, ?_⟩)
  · intro a ha
    have e0 : a ≠ c := fun q => ha (by rw [q]; simp)
    rw [xu_ne e0, xu_ne e0, xcpy_ne (fun q => ha (by rw [q]; simp)), xcpy_ne (fun q => ha (by rw [q]; simp)), xcpy_ne (fun q => ha (by rw [q]; simp))]
    exact ha1 a (fun q => e0 (List.mem_singleton.mp q))
  · intro j hj
    rw [xu_n (Or.inr (by omega)), xu_n (Or.inr (by omega)), xcpy_ne (by omega), xcpy_ne (by omega), xcpy_ne (by omega)]
    exact h6 j hj
  · rw [xu_n (Or.inr (by omega)), xu_s]
  · rw [xu_s]
  · intro i hi
    rw [xu_ne (by omega), xu_ne (by omega), xcpy_ne (by omega), xcpy_ne (by omega), xcpy_00 hi, ha1 (d + 1) (fun q => by have := List.mem_singleton.mp q; omega)]
  · intro i hi
    rw [xu_ne (by omega), xu_ne (by omega), xcpy_ne (by omega), xcpy_00 hi, xcpy_ne (by omega), ha1 (d + 2) (fun q => by have := List.mem_singleton.mp q; omega)]
  · intro i hi
    rw [xu_ne (by omega), xu_ne (by omega), xcpy_00 hi, xcpy_ne (by omega), xcpy_ne (by omega), ha1 (d + 3) (fun q => by have := List.mem_singleton.mp q; omega)]

set_option maxRecDepth 20000 in
theorem s_copyFrom {E : xE} {f : Nat → Nat} {D : Nat → Nat × Nat} {n : Nat} {m : xM} {P : xPo} {PX : xPx} {c d : Nat} (hc : c ∈ chL) (hd : d ∈ chL) (hdc : d ≠ c) (hP : ∀ m', cpR c d m m' → P none (gS (fu f c (f d)) D n) m') (h10 : 0 ≤ m d 10 ∧ m d 10 ≤ 1) : xC E (yX0_copyFrom, cX0_copyFrom, 2, none) 1 0 0 [vr E c, vr E d] (gS f D n) m P PX := by
  refine x_enter (by decide) rfl rfl (by simp only [lg_sl, List.flatMap_cons, List.flatMap_nil, vr_cat]; exact Nat.le_of_ble_eq_true rfl) ?_
  have hle : lv_args 0 [vr E c, vr E d] = [(0, vr E c), (1, vr E d)] := by simp only [lv_args, vr_cat]; rfl
  rw [hle]
  refine x_aload_n dX0_copyFrom_0 rfl ?_
  refine x_aload_n dX0_copyFrom_1 rfl ?_
  refine x_getI fX0_31 dX0_copyFrom_2 (ch_K hd) ?_
  refine x_putI fX0_31 dX0_copyFrom_5 (ch_K hc) (ch_n hc) rfl rfl ?_
  refine x_aload_n dX0_copyFrom_8 rfl ?_
  refine x_aload_n dX0_copyFrom_9 rfl ?_
  refine x_getI fX0_9 dX0_copyFrom_10 (ch_K hd) ?_
  refine x_top (show _ = m d 1 by simp only [xu_ne hdc]) ?_
  refine x_putI fX0_9 dX0_copyFrom_13 (ch_K hc) (ch_n hc) rfl rfl ?_
  refine x_aload_n dX0_copyFrom_16 rfl ?_
  refine x_aload_n dX0_copyFrom_17 rfl ?_
  refine x_getI fX0_34 dX0_copyFrom_18 (ch_K hd) ?_
  refine x_top (show _ = m d 2 by simp only [xu_ne hdc]) ?_
  refine x_putI fX0_34 dX0_copyFrom_21 (ch_K hc) (ch_n hc) rfl rfl ?_
  refine x_aload_n dX0_copyFrom_24 rfl ?_
  refine x_aload_n dX0_copyFrom_25 rfl ?_
  refine x_getI fX0_37 dX0_copyFrom_26 (ch_K hd) ?_
  refine x_top (show _ = m d 3 by simp only [xu_ne hdc]) ?_
  refine x_putI fX0_37 dX0_copyFrom_29 (ch_K hc) (ch_n hc) rfl rfl ?_
  refine x_aload_n dX0_copyFrom_32 rfl ?_
  refine x_aload_n dX0_copyFrom_33 rfl ?_
  refine x_getI fX0_40 dX0_copyFrom_34 (ch_K hd) ?_
  refine x_top (show _ = m d 4 by simp only [xu_ne hdc]) ?_
  refine x_putI fX0_40 dX0_copyFrom_37 (ch_K hc) (ch_n hc) rfl rfl ?_
  refine x_aload_n dX0_copyFrom_40 rfl ?_
  refine x_aload_n dX0_copyFrom_41 rfl ?_
  refine x_getI fX0_43 dX0_copyFrom_42 (ch_K hd) ?_
  refine x_top (show _ = m d 5 by simp only [xu_ne hdc]) ?_
  refine x_putI fX0_43 dX0_copyFrom_45 (ch_K hc) (ch_n hc) rfl rfl ?_
  exact cf_b hc hd hdc hP h10 (ag.u (ag.u (ag.u (ag.u (ag.u (ag.u ag.rf (by simp)) (by simp)) (by simp)) (by simp)) (by simp)) (by simp)) (fun j hj => by
    rcases (by omega : j = 0 ∨ j = 1 ∨ j = 2 ∨ j = 3 ∨ j = 4 ∨ j = 5) with rfl | rfl | rfl | rfl | rfl | rfl <;> simp [xu])

theorem g46 {f : Nat → Nat} {D : Nat → Nat × Nat} {n p : Nat} (hp : p < 8) : (gS f D n).1 46 p = 47 + 4 * p := by
  show (if p < 8 then 47 + 4 * p else 0) = _
  rw [if_pos hp]
set_option maxRecDepth 20000 in
theorem s_keep {E : xE} {f : Nat → Nat} {D : Nat → Nat × Nat} {n : Nat} {m : xM} {P : xPo} {PX : xPx} {p k : Nat} (hp : m 45 1 = (p : Int)) (hp8 : p < 8) (hk : m 45 2 = (k : Int)) (hk8 : k ≤ 8) (h10 : 0 ≤ m 41 10 ∧ m 41 10 ≤ 1) (hP : ∀ m1, cpR (47 + 4 * p) 41 m m1 → P none (gS (fu f (47 + 4 * p) (f 41)) D n) (xu (xu m1 45 1 (((p + 1) % 8 : Nat) : Int)) 45 2 ((min (k + 1) 8 : Nat) : Int))) : xC E (yX1_keep, cX1_keep, 2, none) 2 0 0 [vr E 45, vr E 41] (gS f D n) m P PX := by
  refine x_enter (by decide) rfl rfl (Nat.le_of_ble_eq_true rfl) ?_
  refine x_aload_n dX1_keep_0 rfl ?_
  refine x_getR (r := 46) fX1_11 dX1_keep_1 rfl rfl ?_
  refine x_aload_n dX1_keep_4 rfl ?_
  refine x_getI fX1_18 dX1_keep_5 rfl ?_
  refine x_top (hp) ?_
  refine x_aald (j := p) (r := 47 + 4 * p) dX1_keep_8 rfl (by omega) (show _ < 8 by omega) (by omega) (g46 hp8) ?_
  refine x_aload_n dX1_keep_9 rfl ?_
  refine x_V1 mX1_22 dX1_keep_10 (ch_K (ch_4 p hp8)) (s_copyFrom (ch_4 p hp8) (by decide) (by omega) (fun m1 hc1 => ?_) h10)
  have e1 : m1 45 = m 45 := hc1.1 45 (by simp; omega)
  refine x_aload_n dX1_keep_13 rfl ?_
  refine x_aload_n dX1_keep_14 rfl ?_
  refine x_getI fX1_18 dX1_keep_15 rfl ?_
  refine x_top (show m1 45 1 = (p : Int) by rw [e1]; exact hp) ?_
  refine x_iconst dX1_keep_18 ?_
  refine x_iadd dX1_keep_19 ?_
  refine x_bipush dX1_keep_20 (h := ?_)
  refine x_irem dX1_keep_22 (by omega) (by omega) ?_
  refine x_top (show ((p : Int) + 1).tmod 8 = (((p + 1) % 8 : Nat) : Int) by rw [Int.tmod_eq_emod_of_nonneg (by omega)]; omega) ?_
  refine x_putI fX1_18 dX1_keep_23 rfl (by decide) rfl rfl ?_
  refine x_aload_n dX1_keep_26 rfl ?_
  refine x_aload_n dX1_keep_27 rfl ?_
  refine x_getI fX1_26 dX1_keep_28 rfl ?_
  refine x_top (show _ = (k : Int) by rw [xu_n (Or.inr (by omega)), e1]; exact hk) ?_
  refine x_iconst dX1_keep_31 ?_
  refine x_iadd dX1_keep_32 ?_
  refine x_bipush dX1_keep_33 (h := ?_)
  refine x_S2 mX1_29 dX1_keep_35 (s_min (by omega) ?_)
  refine x_top (show min ((k : Int) + 1) 8 = ((min (k + 1) 8 : Nat) : Int) by omega) ?_
  refine x_putI fX1_26 dX1_keep_38 rfl (by decide) rfl rfl ?_
  exact x_vret dX1_keep_41 (hP m1 hc1)

set_option maxRecDepth 20000 in
theorem s_giveBack {E : xE} {f : Nat → Nat} {D : Nat → Nat × Nat} {n : Nat} {m : xM} {P : xPo} {PX : xPx} {p k : Nat} (hp : m 45 1 = (p : Int)) (hp8 : p < 8) (hk : m 45 2 = (k : Int)) (hk8 : k ≤ 8) (h10 : 0 < k → 0 ≤ m (47 + 4 * ((p + 7) % 8)) 10 ∧ m (47 + 4 * ((p + 7) % 8)) 10 ≤ 1) (hP0 : k = 0 → P (some (vi 0)) (gS f D n) m) (hP : 0 < k → ∀ m', cpR 41 (47 + 4 * ((p + 7) % 8)) (xu (xu m 45 2 ((k : Int) - 1)) 45 1 (((p + 7) % 8 : Nat) : Int)) m' → P (some (vi 1)) (gS (fu f 41 (f (47 + 4 * ((p + 7) % 8)))) D n) m') : xC E (yX1_giveBack, cX1_giveBack, 2, some .boolean) 2 0 0 [vr E 45, vr E 41] (gS f D n) m P PX := by
  refine x_enter (by decide) rfl rfl (Nat.le_of_ble_eq_true rfl) ?_
  have hq8 : (p + 7) % 8 < 8 := Nat.mod_lt _ (by omega)
  refine x_aload_n dX1_giveBack_0 rfl ?_
  refine x_getI fX1_26 dX1_giveBack_1 rfl ?_
  refine x_top (hk) ?_
  refine x_if_ne (tgt := 9) dX1_giveBack_4 (by decide) (by omega) (fun h4 => ?_) (fun h4 => ?_)
  · refine x_aload_n dX1_giveBack_9 rfl ?_
    refine x_dup dX1_giveBack_10 vr_cat ?_
    refine x_getI fX1_26 dX1_giveBack_11 rfl ?_
    refine x_top (hk) ?_
    refine x_iconst dX1_giveBack_14 ?_
    refine x_isub dX1_giveBack_15 ?_
    refine x_putI fX1_26 dX1_giveBack_16 rfl (by decide) rfl rfl ?_
    refine x_aload_n dX1_giveBack_19 rfl ?_
    refine x_aload_n dX1_giveBack_20 rfl ?_
    refine x_getI fX1_18 dX1_giveBack_21 rfl ?_
    refine x_top (show _ = (p : Int) by rw [xu_n (Or.inr (by omega))]; exact hp) ?_
    refine x_bipush dX1_giveBack_24 (h := ?_)
    refine x_iadd dX1_giveBack_26 ?_
    refine x_iconst dX1_giveBack_27 ?_
    refine x_isub dX1_giveBack_28 ?_
    refine x_bipush dX1_giveBack_29 (h := ?_)
    refine x_irem dX1_giveBack_31 (by omega) (by omega) ?_
    refine x_top (show ((p : Int) + 8 - 1).tmod 8 = (((p + 7) % 8 : Nat) : Int) by rw [Int.tmod_eq_emod_of_nonneg (by omega)]; omega) ?_
    refine x_putI fX1_18 dX1_giveBack_32 rfl (by decide) rfl rfl ?_
    refine x_aload_n dX1_giveBack_35 rfl ?_
    refine x_aload_n dX1_giveBack_36 rfl ?_
    refine x_getR (r := 46) fX1_11 dX1_giveBack_37 rfl rfl ?_
    refine x_aload_n dX1_giveBack_40 rfl ?_
    refine x_getI fX1_18 dX1_giveBack_41 rfl ?_
    refine x_top (show _ = (((p + 7) % 8 : Nat) : Int) by rw [xu_s]) ?_
    refine x_aald (j := (p + 7) % 8) (r := 47 + 4 * ((p + 7) % 8)) dX1_giveBack_44 rfl rfl (show _ < 8 by omega) (by omega) (g46 hq8) ?_
    refine x_V1 mX1_22 dX1_giveBack_45 rfl (s_copyFrom (by decide) (ch_4 _ hq8) (by omega) (fun m1 hc1 => ?_) (by rw [xu_ne (by omega), xu_ne (by omega)]; exact h10 (by omega)))
    refine x_iconst dX1_giveBack_48 ?_
    exact x_zret dX1_giveBack_49 (Or.inr rfl) (hP (by omega) _ hc1)
  · refine x_iconst dX1_giveBack_7 ?_
    exact x_zret dX1_giveBack_8 (Or.inl rfl) (hP0 (by omega))

end CQ
