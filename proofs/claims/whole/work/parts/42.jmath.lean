section JM
theorem i32_r (a : Int32) : -2147483648 ≤ a.toInt ∧ a.toInt ≤ 2147483647 := by
  have h1 := Int32.minValue_le_toInt a
  have h2 := Int32.toInt_le a
  rw [mn32] at h1
  rw [mx32] at h2
  exact ⟨h1, h2⟩
theorem xor_sg {x y : Int} (hx : -2147483648 ≤ x ∧ x ≤ 2147483647) (hy : 0 ≤ y ∧ y ≤ 2147483647) : 0 ≤ (Int32.ofInt x ^^^ Int32.ofInt y).toInt ↔ 0 ≤ x := by
  have hm : ∀ z : Int, -2147483648 ≤ z ∧ z ≤ 2147483647 → ((Int32.ofInt z).toBitVec.msb = true ↔ z < 0) := by
    intro z hz
    have e := ri_to hz
    rw [BitVec.msb_eq_toInt]
    have e2 : (Int32.ofInt z).toBitVec.toInt = z := e
    rw [e2]
    simp
  have h1 := hm x hx
  have h2 := hm y ⟨by omega, hy.2⟩
  have e3 : (Int32.ofInt x ^^^ Int32.ofInt y).toBitVec.msb = ((Int32.ofInt x).toBitVec.msb ^^ (Int32.ofInt y).toBitVec.msb) := by
    show ((Int32.ofInt x).toBitVec ^^^ (Int32.ofInt y).toBitVec).msb = _
    exact BitVec.msb_xor
  have e4 : (Int32.ofInt x ^^^ Int32.ofInt y).toBitVec.msb = true ↔ (Int32.ofInt x ^^^ Int32.ofInt y).toInt < 0 := by
    rw [BitVec.msb_eq_toInt]
    simp only [decide_eq_true_eq]
    exact Iff.rfl
  have h2' : (Int32.ofInt y).toBitVec.msb = false := by
    cases hq : (Int32.ofInt y).toBitVec.msb with
    | false => rfl
    | true => have := h2.mp hq; omega
  rw [h2', Bool.xor_false] at e3
  rw [e3] at e4
  have : (Int32.ofInt x ^^^ Int32.ofInt y).toInt < 0 ↔ x < 0 := e4.symm.trans h1
  omega
theorem fm_pos {x y : Int} (hx : 0 ≤ x) : x.tmod y = x % y := Int.tmod_eq_emod_of_nonneg hx
theorem fm_neg {x y : Int} (hx : x < 0) (hy : 0 < y) : (x.tmod y = 0 → x % y = 0) ∧ (x.tmod y ≠ 0 → x.tmod y + y = x % y) ∧ -y < x.tmod y ∧ x.tmod y ≤ 0 := by
  have e : x.tmod y = -((-x) % y) := by
    rw [← Int.tmod_eq_emod_of_nonneg (show 0 ≤ -x by omega), Int.neg_tmod, Int.neg_neg]
  have a1 := Int.emod_nonneg (-x) (show y ≠ 0 by omega)
  have a2 := Int.emod_lt_of_pos (-x) hy
  have b1 := Int.emod_nonneg x (show y ≠ 0 by omega)
  have b2 := Int.emod_lt_of_pos x hy
  have d1 := Int.emod_add_mul_ediv (-x) y
  have d2 := Int.emod_add_mul_ediv x y
  have key : y * ((-x) / y + x / y) = -((-x) % y + x % y) := by rw [Int.mul_add]; omega
  have q1 : (-x) / y + x / y ≤ 0 := by
    rcases Int.lt_or_le 0 ((-x) / y + x / y) with z | z
    · have : 0 < y * ((-x) / y + x / y) := Int.mul_pos hy z
      omega
    · exact z
  have q2 : -1 ≤ (-x) / y + x / y := by
    rcases Int.lt_or_le ((-x) / y + x / y) (-1) with z | z
    · have : y * ((-x) / y + x / y) ≤ y * (-2) := Int.mul_le_mul_of_nonneg_left (by omega) (by omega)
      omega
    · exact z
  rcases (by omega : (-x) / y + x / y = 0 ∨ (-x) / y + x / y = -1) with z | z
  · rw [z] at key; omega
  · rw [z] at key
    refine ⟨fun h => ?_, fun h => ?_, by omega, by omega⟩ <;> omega
set_option maxRecDepth 20000 in
theorem s_max {E : xE} {g : xG} {m : xM} {P : xPo} {PX : xPx} {x y : Int} (hr : -2147483648 ≤ x ∧ x ≤ 2147483647 ∧ -2147483648 ≤ y ∧ y ≤ 2147483647) (hP : P (some (vi (max x y))) g m) : xC E (yJ9_max_7cf53, cJ9_max_7cf53, 2, some .int) 0 0 0 [vi x, vi y] g m P PX := by
  refine x_enterF (by decide +kernel) rfl rfl (Nat.le_of_ble_eq_true rfl) ?_
  refine x_iload_n dJ9_max_7cf53_0 rfl ?_
  refine x_iload_n dJ9_max_7cf53_1 rfl ?_
  refine x_icmp_lt (tgt := 9) dJ9_max_7cf53_2 (by decide) (by omega) (fun h2 => ?_) (fun h2 => ?_)
  · refine x_iload_n dJ9_max_7cf53_9 rfl ?_
    exact x_iret dJ9_max_7cf53_10  ((by first | (rw [show max x y = x by omega] at hP; exact hP) | (rw [show max x y = y by omega] at hP; exact hP)))
  · refine x_iload_n dJ9_max_7cf53_5 rfl ?_
    refine x_goto (tgt := 10) dJ9_max_7cf53_6 (by decide) ?_
    exact x_iret dJ9_max_7cf53_10  ((by first | (rw [show max x y = x by omega] at hP; exact hP) | (rw [show max x y = y by omega] at hP; exact hP)))

set_option maxRecDepth 20000 in
theorem s_maxL {E : xE} {g : xG} {m : xM} {P : xPo} {PX : xPx} {x y : Int} (hr : -9223372036854775808 ≤ x ∧ x ≤ 9223372036854775807 ∧ -9223372036854775808 ≤ y ∧ y ≤ 9223372036854775807) (hP : P (some (vl (max x y))) g m) : xC E (yJ9_max_f86c9, cJ9_max_f86c9, 4, some .long) 0 0 0 [vl x, vl y] g m P PX := by
  refine x_enterF (by decide +kernel) rfl rfl (Nat.le_of_ble_eq_true rfl) ?_
  refine x_lload_n dJ9_max_f86c9_0 rfl ?_
  refine x_lload_n dJ9_max_f86c9_1 rfl ?_
  refine x_llt (tgt := 10) dJ9_max_f86c9_2 dJ9_max_f86c9_3 (by decide) (by omega) (fun h2 => ?_) (fun h2 => ?_)
  · refine x_lload_n dJ9_max_f86c9_10 rfl ?_
    exact x_lret dJ9_max_f86c9_11 ((by first | (rw [show max x y = x by omega] at hP; exact hP) | (rw [show max x y = y by omega] at hP; exact hP)))
  · refine x_lload_n dJ9_max_f86c9_6 rfl ?_
    refine x_goto (tgt := 11) dJ9_max_f86c9_7 (by decide) ?_
    exact x_lret dJ9_max_f86c9_11 ((by first | (rw [show max x y = x by omega] at hP; exact hP) | (rw [show max x y = y by omega] at hP; exact hP)))

set_option maxRecDepth 20000 in
theorem s_min {E : xE} {g : xG} {m : xM} {P : xPo} {PX : xPx} {x y : Int} (hr : -2147483648 ≤ x ∧ x ≤ 2147483647 ∧ -2147483648 ≤ y ∧ y ≤ 2147483647) (hP : P (some (vi (min x y))) g m) : xC E (yJ9_min_7cf53, cJ9_min_7cf53, 2, some .int) 0 0 0 [vi x, vi y] g m P PX := by
  refine x_enterF (by decide +kernel) rfl rfl (Nat.le_of_ble_eq_true rfl) ?_
  refine x_iload_n dJ9_min_7cf53_0 rfl ?_
  refine x_iload_n dJ9_min_7cf53_1 rfl ?_
  refine x_icmp_gt (tgt := 9) dJ9_min_7cf53_2 (by decide) (by omega) (fun h2 => ?_) (fun h2 => ?_)
  · refine x_iload_n dJ9_min_7cf53_9 rfl ?_
    exact x_iret dJ9_min_7cf53_10  ((by first | (rw [show min x y = x by omega] at hP; exact hP) | (rw [show min x y = y by omega] at hP; exact hP)))
  · refine x_iload_n dJ9_min_7cf53_5 rfl ?_
    refine x_goto (tgt := 10) dJ9_min_7cf53_6 (by decide) ?_
    exact x_iret dJ9_min_7cf53_10  ((by first | (rw [show min x y = x by omega] at hP; exact hP) | (rw [show min x y = y by omega] at hP; exact hP)))

set_option maxRecDepth 20000 in
theorem s_minL {E : xE} {g : xG} {m : xM} {P : xPo} {PX : xPx} {x y : Int} (hr : -9223372036854775808 ≤ x ∧ x ≤ 9223372036854775807 ∧ -9223372036854775808 ≤ y ∧ y ≤ 9223372036854775807) (hP : P (some (vl (min x y))) g m) : xC E (yJ9_min_f86c9, cJ9_min_f86c9, 4, some .long) 0 0 0 [vl x, vl y] g m P PX := by
  refine x_enterF (by decide +kernel) rfl rfl (Nat.le_of_ble_eq_true rfl) ?_
  refine x_lload_n dJ9_min_f86c9_0 rfl ?_
  refine x_lload_n dJ9_min_f86c9_1 rfl ?_
  refine x_lgt (tgt := 10) dJ9_min_f86c9_2 dJ9_min_f86c9_3 (by decide) (by omega) (fun h2 => ?_) (fun h2 => ?_)
  · refine x_lload_n dJ9_min_f86c9_10 rfl ?_
    exact x_lret dJ9_min_f86c9_11 ((by first | (rw [show min x y = x by omega] at hP; exact hP) | (rw [show min x y = y by omega] at hP; exact hP)))
  · refine x_lload_n dJ9_min_f86c9_6 rfl ?_
    refine x_goto (tgt := 11) dJ9_min_f86c9_7 (by decide) ?_
    exact x_lret dJ9_min_f86c9_11 ((by first | (rw [show min x y = x by omega] at hP; exact hP) | (rw [show min x y = y by omega] at hP; exact hP)))

set_option maxRecDepth 20000 in
theorem s_floorMod {E : xE} {g : xG} {m : xM} {P : xPo} {PX : xPx} {x y : Int} (hr : -2147483648 ≤ x ∧ x ≤ 2147483647 ∧ -2147483648 ≤ y ∧ y ≤ 2147483647) (hy : 0 < y) (hP : P (some (vi (x % y))) g m) : xC E (yJ9_floorMod_7cf53, cJ9_floorMod_7cf53, 3, some .int) 0 0 0 [vi x, vi y] g m P PX := by
  refine x_enterF (by decide +kernel) rfl rfl (Nat.le_of_ble_eq_true rfl) ?_
  refine x_iload_n dJ9_floorMod_7cf53_0 rfl ?_
  refine x_iload_n dJ9_floorMod_7cf53_1 rfl ?_
  refine x_irem dJ9_floorMod_7cf53_2 (by omega) (by omega) ?_
  refine x_istore_n dJ9_floorMod_7cf53_3 ?_
  refine x_iload_n dJ9_floorMod_7cf53_4 rfl ?_
  refine x_iload_n dJ9_floorMod_7cf53_5 rfl ?_
  refine x_ixor (z := (Int32.ofInt x ^^^ Int32.ofInt y).toInt) dJ9_floorMod_7cf53_6 ((Int32.ofInt_toInt _).symm) ?_
  refine x_if_ge (tgt := 18) dJ9_floorMod_7cf53_7 (by decide) (i32_r _) (fun h7 => ?_) (fun h7 => ?_)
  · have hx0 : 0 ≤ x := (xor_sg (by omega) (by omega)).mp h7
    refine x_iload_n dJ9_floorMod_7cf53_18 rfl ?_
    exact x_iret dJ9_floorMod_7cf53_19  ((by first | (rw [← fm_pos hx0] at hP; exact hP) | (rw [hfm.1 h11] at hP; rw [h11]; exact hP)))
  · have hx0 : ¬ 0 ≤ x := fun q => h7 ((xor_sg (by omega) (by omega)).mpr q)
    have hfm := fm_neg (show x < 0 by omega) hy
    refine x_iload_n dJ9_floorMod_7cf53_10 rfl ?_
    refine x_if_eq (tgt := 18) dJ9_floorMod_7cf53_11 (by decide) (by omega) (fun h11 => ?_) (fun h11 => ?_)
    · refine x_iload_n dJ9_floorMod_7cf53_18 rfl ?_
      exact x_iret dJ9_floorMod_7cf53_19  ((by first | (rw [← fm_pos hx0] at hP; exact hP) | (rw [hfm.1 h11] at hP; rw [h11]; exact hP)))
    · refine x_iload_n dJ9_floorMod_7cf53_14 rfl ?_
      refine x_iload_n dJ9_floorMod_7cf53_15 rfl ?_
      refine x_iadd dJ9_floorMod_7cf53_16 ?_
      exact x_iret dJ9_floorMod_7cf53_17  ((by rw [← hfm.2.1 h11] at hP; exact hP))

end JM
