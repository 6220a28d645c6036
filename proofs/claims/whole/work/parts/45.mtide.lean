section MT
theorem i64_r (a : Int64) : -9223372036854775808 ≤ a.toInt ∧ a.toInt ≤ 9223372036854775807 := by
  have h1 := Int64.minValue_le_toInt a
  have h2 := Int64.toInt_le a
  rw [mn64] at h1
  rw [mx64] at h2
  exact ⟨h1, h2⟩
theorem xor_sgL {x y : Int} (hx : -9223372036854775808 ≤ x ∧ x ≤ 9223372036854775807) (hy : 0 ≤ y ∧ y ≤ 9223372036854775807) : 0 ≤ (Int64.ofInt x ^^^ Int64.ofInt y).toInt ↔ 0 ≤ x := by
  have hm : ∀ z : Int, -9223372036854775808 ≤ z ∧ z ≤ 9223372036854775807 → ((Int64.ofInt z).toBitVec.msb = true ↔ z < 0) := by
    intro z hz
    have e := rl_to hz
    rw [BitVec.msb_eq_toInt]
    have e2 : (Int64.ofInt z).toBitVec.toInt = z := e
    rw [e2]
    simp
  have h1 := hm x hx
  have h2 := hm y ⟨by omega, hy.2⟩
  have e3 : (Int64.ofInt x ^^^ Int64.ofInt y).toBitVec.msb = ((Int64.ofInt x).toBitVec.msb ^^ (Int64.ofInt y).toBitVec.msb) := by
    show ((Int64.ofInt x).toBitVec ^^^ (Int64.ofInt y).toBitVec).msb = _
    exact BitVec.msb_xor
  have e4 : (Int64.ofInt x ^^^ Int64.ofInt y).toBitVec.msb = true ↔ (Int64.ofInt x ^^^ Int64.ofInt y).toInt < 0 := by
    rw [BitVec.msb_eq_toInt]
    simp only [decide_eq_true_eq]
    exact Iff.rfl
  have h2' : (Int64.ofInt y).toBitVec.msb = false := by
    cases hq : (Int64.ofInt y).toBitVec.msb with
    | false => rfl
    | true => have := h2.mp hq; omega
  rw [h2', Bool.xor_false] at e3
  rw [e3] at e4
  have : (Int64.ofInt x ^^^ Int64.ofInt y).toInt < 0 ↔ x < 0 := e4.symm.trans h1
  omega
/-- the model's row now is the view -/
def mN (v : Nat → Int) (m : xM) : Prop := ∀ k : Nat, k < 709 → m 98 k = v k
theorem mN.w {v : Nat → Int} {m : xM} (h : mN v m) {w j : Nat} (hw : w < 6) (hj : j < 3) : m 98 (6 + 3 * w + j) = wv v w j := h _ (by omega)
theorem mN.b {v : Nat → Int} {m : xM} (h : mN v m) {b j : Nat} (hb : b < 6) (hj : j < 6) : m 98 (24 + 6 * b + j) = br v b j := h _ (by omega)
theorem mN.s {v : Nat → Int} {m : xM} (h : mN v m) {s j : Nat} (hs : s < 6) (hj : j < 8) : m 98 (60 + 8 * s + j) = sh v s j := h _ (by omega)
theorem mN.ag {v : Nat → Int} {m m' : xM} {S : List Nat} (h : mN v m) (ha : ag S m m') (h1 : 98 ∉ S) : mN v m' := by
  unfold mN at *
  rw [ha 98 h1]
  exact h
set_option maxRecDepth 20000 in
theorem s_floorModL {E : xE} {g : xG} {m : xM} {P : xPo} {PX : xPx} {x y : Int} (hr : -9223372036854775808 ≤ x ∧ x ≤ 9223372036854775807 ∧ -9223372036854775808 ≤ y ∧ y ≤ 9223372036854775807) (hy : 0 < y) (hP : P (some (vl (x % y))) g m) : xC E (yJ9_floorMod_f86c9, cJ9_floorMod_f86c9, 6, some .long) 0 0 0 [vl x, vl y] g m P PX := by
  refine x_enterF (by decide +kernel) rfl rfl (Nat.le_of_ble_eq_true rfl) ?_
  refine x_lload_n dJ9_floorMod_f86c9_0 rfl ?_
  refine x_lload_n dJ9_floorMod_f86c9_1 rfl ?_
  refine x_lrem dJ9_floorMod_f86c9_2 (by omega) (by omega) ?_
  refine x_lstore dJ9_floorMod_f86c9_3 ?_
  refine x_lload_n dJ9_floorMod_f86c9_5 rfl ?_
  refine x_lload_n dJ9_floorMod_f86c9_6 rfl ?_
  refine x_lxor (z := (Int64.ofInt x ^^^ Int64.ofInt y).toInt) dJ9_floorMod_f86c9_7 ((Int64.ofInt_toInt _).symm) ?_
  refine x_lconst0 dJ9_floorMod_f86c9_8 ?_
  refine x_lge (tgt := 25) dJ9_floorMod_f86c9_9 dJ9_floorMod_f86c9_10 (by decide) (by have := i64_r (Int64.ofInt x ^^^ Int64.ofInt y); exact ⟨this.1, this.2, by decide, by decide⟩) (fun h9 => ?_) (fun h9 => ?_)
  · have hx0 : 0 ≤ x := (xor_sgL (by omega) (by omega)).mp h9
    refine x_lload dJ9_floorMod_f86c9_25 rfl ?_
    exact x_lret dJ9_floorMod_f86c9_27 ((by first | (rw [← fm_pos hx0] at hP; exact hP) | (rw [hfm.1 h16] at hP; rw [h16]; exact hP)))
  · have hx0 : ¬ 0 ≤ x := fun q => h9 ((xor_sgL (by omega) (by omega)).mpr q)
    have hfm := fm_neg (show x < 0 by omega) hy
    refine x_lload dJ9_floorMod_f86c9_13 rfl ?_
    refine x_lconst0 dJ9_floorMod_f86c9_15 ?_
    refine x_leq (tgt := 25) dJ9_floorMod_f86c9_16 dJ9_floorMod_f86c9_17 (by decide) (by have := hfm.2.2; exact ⟨by omega, by omega, by decide, by decide⟩) (fun h16 => ?_) (fun h16 => ?_)
    · refine x_lload dJ9_floorMod_f86c9_25 rfl ?_
      exact x_lret dJ9_floorMod_f86c9_27 ((by first | (rw [← fm_pos hx0] at hP; exact hP) | (rw [hfm.1 h16] at hP; rw [h16]; exact hP)))
    · refine x_lload dJ9_floorMod_f86c9_20 rfl ?_
      refine x_lload_n dJ9_floorMod_f86c9_22 rfl ?_
      refine x_ladd dJ9_floorMod_f86c9_23 ?_
      exact x_lret dJ9_floorMod_f86c9_24 ((by rw [← hfm.2.1 h16] at hP; exact hP))

set_option maxRecDepth 20000 in
theorem s_ofBar {E : xE} {f : Nat → Nat} {D : Nat → Nat × Nat} {n : Nat} {m : xM} {P : xPo} {PX : xPx} {b w : Int} (i : Nat) (hj : 24 + 6 * b + w = i) (hl : i < 709) (hP : P (some (vi (m 98 i))) (gS f D n) m) : xC E (yX6_ofBar, cX6_ofBar, 3, some .int) 0 0 0 [vr E 96, vi b, vi w] (gS f D n) m P PX := by
  refine x_enter (by decide) rfl rfl (Nat.le_of_ble_eq_true rfl) ?_
  refine x_aload_n dX6_ofBar_0 rfl ?_
  refine x_getR (r := 98) fX6_17 dX6_ofBar_1 rfl rfl ?_
  refine x_bipush dX6_ofBar_4 (h := ?_)
  refine x_bipush dX6_ofBar_6 (h := ?_)
  refine x_iload_n dX6_ofBar_8 rfl ?_
  refine x_imul dX6_ofBar_9 ?_
  refine x_iadd dX6_ofBar_10 ?_
  refine x_iload_n dX6_ofBar_11 rfl ?_
  refine x_iadd dX6_ofBar_12 ?_
  refine x_iald (j := i) dX6_ofBar_13 rfl (by omega) (show _ < 709 by omega) (by omega) ?_
  exact x_iret dX6_ofBar_14  (hP)

set_option maxRecDepth 20000 in
theorem s_ofShip {E : xE} {f : Nat → Nat} {D : Nat → Nat × Nat} {n : Nat} {m : xM} {P : xPo} {PX : xPx} {b w : Int} (i : Nat) (hj : 60 + 8 * b + w = i) (hl : i < 709) (hP : P (some (vi (m 98 i))) (gS f D n) m) : xC E (yX6_ofShip, cX6_ofShip, 3, some .int) 0 0 0 [vr E 96, vi b, vi w] (gS f D n) m P PX := by
  refine x_enter (by decide) rfl rfl (Nat.le_of_ble_eq_true rfl) ?_
  refine x_aload_n dX6_ofShip_0 rfl ?_
  refine x_getR (r := 98) fX6_17 dX6_ofShip_1 rfl rfl ?_
  refine x_bipush dX6_ofShip_4 (h := ?_)
  refine x_bipush dX6_ofShip_6 (h := ?_)
  refine x_iload_n dX6_ofShip_8 rfl ?_
  refine x_imul dX6_ofShip_9 ?_
  refine x_iadd dX6_ofShip_10 ?_
  refine x_iload_n dX6_ofShip_11 rfl ?_
  refine x_iadd dX6_ofShip_12 ?_
  refine x_iald (j := i) dX6_ofShip_13 rfl (by omega) (show _ < 709 by omega) (by omega) ?_
  exact x_iret dX6_ofShip_14  (hP)

set_option maxRecDepth 20000 in
theorem s_takes {E : xE} {g : xG} {m : xM} {P : xPo} {PX : xPx} {x v : Int} (hx : 0 ≤ x ∧ x ≤ 300) (hv : 1 ≤ v ∧ v ≤ 1000) (hP : P (some (vi (tk x v))) g m) : xC E (yX6_takes, cX6_takes, 2, some .int) 0 0 0 [vi x, vi v] g m P PX := by
  refine x_enter (by decide) rfl rfl (Nat.le_of_ble_eq_true rfl) ?_
  refine x_bipush dX6_takes_0 (h := ?_)
  refine x_iload_n dX6_takes_2 rfl ?_
  refine x_imul dX6_takes_3 ?_
  refine x_iload_n dX6_takes_4 rfl ?_
  refine x_iadd dX6_takes_5 ?_
  refine x_iconst dX6_takes_6 ?_
  refine x_isub dX6_takes_7 ?_
  refine x_iload_n dX6_takes_8 rfl ?_
  refine x_idiv dX6_takes_9 (by omega) (by omega) ?_
  exact x_iret dX6_takes_10  (hP)

set_option maxRecDepth 20000 in
theorem s_mpartOf {E : xE} {g : xG} {m : xM} {P : xPo} {PX : xPx} {t p l : Int} (hp : 60 ≤ p ∧ p ≤ 2000) (ht : -100000 ≤ t ∧ t ≤ 100000) (hl : 0 ≤ l ∧ l ≤ 2000) (hP : P (some (vi (wpt t p l))) g m) : xC E (yX6_partOf, cX6_partOf, 7, some .int) 1 0 0 [vi t, vi p, vi l] g m P PX := by
  refine x_enter (by decide) rfl rfl (Nat.le_of_ble_eq_true rfl) ?_
  have hx := wx_b (a := t - l) hp
  unfold wpt prt at hP
  refine x_iload_n dX6_partOf_0 rfl ?_
  refine x_i2l dX6_partOf_1 (by omega) ?_
  refine x_iload_n dX6_partOf_2 rfl ?_
  refine x_i2l dX6_partOf_3 (by omega) ?_
  refine x_lsub dX6_partOf_4 ?_
  refine x_iload_n dX6_partOf_5 rfl ?_
  refine x_i2l dX6_partOf_6 (by omega) ?_
  refine x_S2 mX6_208 dX6_partOf_7 (s_floorModL (by omega) (by omega) ?_)
  refine x_ldc2_w kX6_212 dX6_partOf_10 ?_
  refine x_lmul dX6_partOf_13 ?_
  refine x_iload_n dX6_partOf_14 rfl ?_
  refine x_i2l dX6_partOf_15 (by omega) ?_
  refine x_ldiv dX6_partOf_16 (by omega) (by omega) ?_
  refine x_l2i dX6_partOf_17 ?_
  obtain ⟨x, ex⟩ : ∃ x, x = (((t - l) % p) * 3600).tdiv p := ⟨_, rfl⟩
  refine x_top ex.symm ?_
  rw [← ex] at hP hx
  refine x_istore_n dX6_partOf_18 ?_
  refine x_iload_n dX6_partOf_19 rfl ?_
  refine x_sipush dX6_partOf_20 (h := ?_)
  refine x_icmp_lt (tgt := 30) dX6_partOf_23 (by decide) (by omega) (fun h23 => ?_) (fun h23 => ?_)
  · refine x_iconst dX6_partOf_30 ?_
    refine x_istore dX6_partOf_31 ?_
    refine x_iload_n dX6_partOf_33 rfl ?_
    refine x_sipush dX6_partOf_34 (h := ?_)
    refine x_icmp_lt (tgt := 48) dX6_partOf_37 (by decide) (by omega) (fun h37 => ?_) (fun h37 => ?_)
    · have hb := bow_in (h := x) (by omega) (by omega)
      refine x_iload_n dX6_partOf_48 rfl ?_
      refine x_istore_n dX6_partOf_49 ?_
      refine x_iload_n dX6_partOf_50 rfl ?_
      refine x_i2l dX6_partOf_51 (by omega) ?_
      refine x_sipush dX6_partOf_52 (h := ?_)
      refine x_iload_n dX6_partOf_55 rfl ?_
      refine x_isub dX6_partOf_56 ?_
      refine x_i2l dX6_partOf_57 (by omega) ?_
      refine x_lmul dX6_partOf_58 ?_
      refine x_lstore dX6_partOf_59 ?_
      refine x_iload dX6_partOf_61 rfl ?_
      refine x_ldc2_w kX6_214 dX6_partOf_63 ?_
      refine x_lload dX6_partOf_66 rfl ?_
      refine x_lmul dX6_partOf_68 ?_
      refine x_ldc2_w kX6_216 dX6_partOf_69 ?_
      refine x_lload dX6_partOf_72 rfl ?_
      refine x_lsub dX6_partOf_74 ?_
      refine x_ldiv dX6_partOf_75 (by omega) (by omega) ?_
      refine x_l2i dX6_partOf_76 ?_
      refine x_imul dX6_partOf_77 ?_
      exact x_iret dX6_partOf_78  ((by first | (rw [if_pos (by omega)] at hP; rw [Int.one_mul]; exact hP) | (rw [if_neg (by omega)] at hP; rw [Int.neg_mul, Int.one_mul]; exact hP)))
    · exact absurd h23 h37
  · refine x_iconst dX6_partOf_26 ?_
    refine x_goto (tgt := 31) dX6_partOf_27 (by decide) ?_
    refine x_istore dX6_partOf_31 ?_
    refine x_iload_n dX6_partOf_33 rfl ?_
    refine x_sipush dX6_partOf_34 (h := ?_)
    refine x_icmp_lt (tgt := 48) dX6_partOf_37 (by decide) (by omega) (fun h37 => ?_) (fun h37 => ?_)
    · exact absurd h37 h23
    · have hb := bow_in (h := x - 1800) (by omega) (by omega)
      refine x_iload_n dX6_partOf_40 rfl ?_
      refine x_sipush dX6_partOf_41 (h := ?_)
      refine x_isub dX6_partOf_44 ?_
      refine x_goto (tgt := 49) dX6_partOf_45 (by decide) ?_
      refine x_istore_n dX6_partOf_49 ?_
      refine x_iload_n dX6_partOf_50 rfl ?_
      refine x_i2l dX6_partOf_51 (by omega) ?_
      refine x_sipush dX6_partOf_52 (h := ?_)
      refine x_iload_n dX6_partOf_55 rfl ?_
      refine x_isub dX6_partOf_56 ?_
      refine x_i2l dX6_partOf_57 (by omega) ?_
      refine x_lmul dX6_partOf_58 ?_
      refine x_lstore dX6_partOf_59 ?_
      refine x_iload dX6_partOf_61 rfl ?_
      refine x_ldc2_w kX6_214 dX6_partOf_63 ?_
      refine x_lload dX6_partOf_66 rfl ?_
      refine x_lmul dX6_partOf_68 ?_
      refine x_ldc2_w kX6_216 dX6_partOf_69 ?_
      refine x_lload dX6_partOf_72 rfl ?_
      refine x_lsub dX6_partOf_74 ?_
      refine x_ldiv dX6_partOf_75 (by omega) (by omega) ?_
      refine x_l2i dX6_partOf_76 ?_
      refine x_imul dX6_partOf_77 ?_
      exact x_iret dX6_partOf_78  ((by first | (rw [if_pos (by omega)] at hP; rw [Int.one_mul]; exact hP) | (rw [if_neg (by omega)] at hP; rw [Int.neg_mul, Int.one_mul]; exact hP)))

set_option maxRecDepth 20000 in
theorem s_heightIn {E : xE} {f : Nat → Nat} {D : Nat → Nat × Nat} {n : Nat} {m : xM} {P : xPo} {PX : xPx} {v : Nat → Int} {t : Int} (hv : vOk0 v) (hN : mN v m) (ht0 : -100000 ≤ t ∧ t ≤ 100000) (hP : P (some (vi (ht v t))) (gS f D n) m) : xC E (yX6_heightIn, cX6_heightIn, 5, some .int) 2 0 0 [vr E 96, vi t] (gS f D n) m P PX := by
  refine x_enter (by decide) rfl rfl (Nat.le_of_ble_eq_true rfl) ?_
  have hv3 := hv.2.2.2.1.1
  have hv0 := hv.1
  have hv2 := hv.2.2.1
  have loop : ∀ (j w : Nat), (w : Int) ≤ v 3 → v 3 < (w : Int) + j → xX E (("heightIn", some .int, []), (2, 0, 0), P, PX) RX6 cX6_heightIn 5 0 0 16 [(0, vr E 96), (1, vi t), (2, vi (v 0 + v 2 + wsum v t w)), (3, vi (w : Int))] [] (gS f D n) m := by
    intro j
    induction j with
    | zero => intro w h1 h2; omega
    | succ j ih =>
      intro w h1 h2
      refine x_iload_n dX6_heightIn_16 rfl ?_
      refine x_aload_n dX6_heightIn_17 rfl ?_
      refine x_getR (r := 98) fX6_17 dX6_heightIn_18 rfl rfl ?_
      refine x_iconst dX6_heightIn_21 ?_
      refine x_iald (j := 3) dX6_heightIn_22 rfl (by omega) (show _ < 709 by omega) (by omega) ?_
      refine x_top (hN 3 (by omega)) ?_
      refine x_icmp_ge (tgt := 77) dX6_heightIn_23 (by decide) (by omega) (fun h23 => ?_) (fun h23 => ?_)
      · have hw : w = (v 3).toNat := by omega
        refine x_iload_n dX6_heightIn_77 rfl ?_
        exact x_iret dX6_heightIn_78  ((by unfold ht at hP; rw [← hw] at hP; exact hP))
      · have hw : (w : Int) < v 3 := by omega
        obtain ⟨ha, hp, hl⟩ := hv.2.2.2.1.2 w hw
        have hq := wterm_b (t := t) hv.2.2.2.1 hw
        have hs := wsum_b (t := t) hv.2.2.2.1 w (by omega)
        refine x_bipush dX6_heightIn_26 (h := ?_)
        refine x_iconst dX6_heightIn_28 ?_
        refine x_iload_n dX6_heightIn_29 rfl ?_
        refine x_imul dX6_heightIn_30 ?_
        refine x_iadd dX6_heightIn_31 ?_
        refine x_istore dX6_heightIn_32 ?_
        refine x_iload_n dX6_heightIn_34 rfl ?_
        refine x_aload_n dX6_heightIn_35 rfl ?_
        refine x_getR (r := 98) fX6_17 dX6_heightIn_36 rfl rfl ?_
        refine x_iload dX6_heightIn_39 rfl ?_
        refine x_iald (j := 6 + 3 * w + 0) dX6_heightIn_41 rfl (by omega) (show _ < 709 by omega) (by omega) ?_
        refine x_top (hN.w (by omega) (by omega)) ?_
        refine x_iload_n dX6_heightIn_42 rfl ?_
        refine x_aload_n dX6_heightIn_43 rfl ?_
        refine x_getR (r := 98) fX6_17 dX6_heightIn_44 rfl rfl ?_
        refine x_iload dX6_heightIn_47 rfl ?_
        refine x_iconst dX6_heightIn_49 ?_
        refine x_iadd dX6_heightIn_50 ?_
        refine x_iald (j := 6 + 3 * w + 1) dX6_heightIn_51 rfl (by omega) (show _ < 709 by omega) (by omega) ?_
        refine x_top (hN.w (by omega) (by omega)) ?_
        refine x_aload_n dX6_heightIn_52 rfl ?_
        refine x_getR (r := 98) fX6_17 dX6_heightIn_53 rfl rfl ?_
        refine x_iload dX6_heightIn_56 rfl ?_
        refine x_iconst dX6_heightIn_58 ?_
        refine x_iadd dX6_heightIn_59 ?_
        refine x_iald (j := 6 + 3 * w + 2) dX6_heightIn_60 rfl (by omega) (show _ < 709 by omega) (by omega) ?_
        refine x_top (hN.w (by omega) (by omega)) ?_
        refine x_S3 mX6_218 dX6_heightIn_61 (s_mpartOf hp (by omega) hl ?_)
        refine x_imul dX6_heightIn_64 ?_
        refine x_sipush dX6_heightIn_65 (h := ?_)
        refine x_idiv dX6_heightIn_68 (by omega) (by omega) ?_
        refine x_iadd dX6_heightIn_69 ?_
        refine x_istore_n dX6_heightIn_70 ?_
        refine x_iinc dX6_heightIn_71 rfl ?_
        refine x_goto (tgt := 16) dX6_heightIn_74 (by decide) ?_
        exact x_loc (lv' := [(0, vr E 96), (1, vi t), (2, vi (v 0 + v 2 + wsum v t (w + 1))), (3, vi ((w + 1 : Nat) : Int))]) ⟨rfl, rfl, xl_i rfl (by show _ = v 0 + v 2 + (wsum v t w + _); rw [← Int.add_assoc]), xl_i rfl (by omega), trivial⟩ (ih (w + 1) (by omega) (by omega))
  refine x_aload_n dX6_heightIn_0 rfl ?_
  refine x_getR (r := 98) fX6_17 dX6_heightIn_1 rfl rfl ?_
  refine x_iconst dX6_heightIn_4 ?_
  refine x_iald (j := 0) dX6_heightIn_5 rfl (by omega) (show _ < 709 by omega) (by omega) ?_
  refine x_top (hN 0 (by omega)) ?_
  refine x_aload_n dX6_heightIn_6 rfl ?_
  refine x_getR (r := 98) fX6_17 dX6_heightIn_7 rfl rfl ?_
  refine x_iconst dX6_heightIn_10 ?_
  refine x_iald (j := 2) dX6_heightIn_11 rfl (by omega) (show _ < 709 by omega) (by omega) ?_
  refine x_top (hN 2 (by omega)) ?_
  refine x_iadd dX6_heightIn_12 ?_
  refine x_istore_n dX6_heightIn_13 ?_
  refine x_iconst dX6_heightIn_14 ?_
  refine x_istore_n dX6_heightIn_15 ?_
  exact x_loc (lv' := [(0, vr E 96), (1, vi t), (2, vi (v 0 + v 2 + wsum v t 0)), (3, vi ((0 : Nat) : Int))]) ⟨rfl, rfl, xl_i rfl (by show _ = v 0 + v 2 + 0; omega), rfl, trivial⟩ (loop (v 3).toNat.succ 0 (by omega) (by omega))

set_option maxRecDepth 20000 in
theorem s_mwaterAt {E : xE} {f : Nat → Nat} {D : Nat → Nat × Nat} {n : Nat} {m : xM} {P : xPo} {PX : xPx} {v : Nat → Int} {t : Int} {b : Nat} (hv : vOk0 v) (hN : mN v m) (hb : (b : Int) < v 4) (ht0 : 0 ≤ t ∧ t ≤ 40000) (hP : P (some (vi (wa v b t))) (gS f D n) m) : xC E (yX6_waterAt, cX6_waterAt, 3, some .int) 3 0 0 [vr E 96, vi (b : Int), vi t] (gS f D n) m P PX := by
  refine x_enter (by decide) rfl rfl (Nat.le_of_ble_eq_true rfl) ?_
  have hv4 := hv.2.2.2.2.1.1
  obtain ⟨-, hdp, -, hdl, hfc, -⟩ := hv.2.2.2.2.1.2 b hb
  have hwb := wa_b (t := t) hv hb
  refine x_aload_n dX6_waterAt_0 rfl ?_
  refine x_iload_n dX6_waterAt_1 rfl ?_
  refine x_iconst dX6_waterAt_2 ?_
  refine x_V2 mX6_222 dX6_waterAt_3 rfl (s_ofBar (24 + 6 * b + 1) (by omega) (by omega) ?_)
  refine x_top (hN.b (by omega) (by omega)) ?_
  refine x_aload_n dX6_waterAt_6 rfl ?_
  refine x_iload_n dX6_waterAt_7 rfl ?_
  refine x_aload_n dX6_waterAt_8 rfl ?_
  refine x_iload_n dX6_waterAt_9 rfl ?_
  refine x_iconst dX6_waterAt_10 ?_
  refine x_V2 mX6_222 dX6_waterAt_11 rfl (s_ofBar (24 + 6 * b + 3) (by omega) (by omega) ?_)
  refine x_top (hN.b (by omega) (by omega)) ?_
  refine x_isub dX6_waterAt_14 ?_
  refine x_V1 mX6_225 dX6_waterAt_15 rfl (s_heightIn hv hN (by omega) ?_)
  refine x_aload_n dX6_waterAt_18 rfl ?_
  refine x_iload_n dX6_waterAt_19 rfl ?_
  refine x_iconst dX6_waterAt_20 ?_
  refine x_V2 mX6_222 dX6_waterAt_21 rfl (s_ofBar (24 + 6 * b + 4) (by omega) (by omega) ?_)
  refine x_top (hN.b (by omega) (by omega)) ?_
  refine x_imul dX6_waterAt_24 ?_
  refine x_bipush dX6_waterAt_25 (h := ?_)
  refine x_idiv dX6_waterAt_27 (by omega) (by omega) ?_
  refine x_iadd dX6_waterAt_28 ?_
  exact x_iret dX6_waterAt_29  (hP)

end MT
