section FD
/-- a byte of a number -/
def sA (x : Int) (k : Int) : Int32 := Int32.ofInt x >>> (Int32.ofInt k &&& 31)
def sL (x : Int) (k : Int) : Int32 := ((Int32.ofInt x).toUInt32 >>> ((Int32.ofInt k).toUInt32 &&& Int32.toUInt32 31)).toInt32
def bt (x : Int) (k : Int) : Int := (sA x k).toInt8.toInt
theorem i8_r (y : Int8) : -128 ≤ y.toInt ∧ y.toInt ≤ 127 := by
  have h1 := Int8.minValue_le_toInt y
  have h2 := Int8.toInt_le y
  have e1 : Int8.minValue.toInt = -128 := by decide
  have e2 : Int8.maxValue.toInt = 127 := by decide
  omega
theorem bt_b (x k : Int) : -128 ≤ bt x k ∧ bt x k ≤ 127 := i8_r _
theorem i8_32 (y : Int8) : y.toInt32 = Int32.ofInt y.toInt := by
  apply Int32.toInt_inj.mp
  have h := i8_r y
  rw [Int8.toInt_toInt32, ri_to (by omega)]
theorem bt_sg {X A L : BitVec 32} {k : Nat} (hk : k ≤ 24) (eA : A = X.sshiftRight k) (eL : L = X >>> k) : BitVec.signExtend 8 L = BitVec.signExtend 8 A := by
  apply BitVec.eq_of_getLsbD_eq
  intro i hi
  rw [BitVec.getLsbD_signExtend, BitVec.getLsbD_signExtend, if_pos (by omega), if_pos (by omega), eA, eL, BitVec.getLsbD_sshiftRight, BitVec.getLsbD_ushiftRight, if_pos (by omega)]
  have : decide (32 ≤ i) = false := by simp; omega
  rw [this]
  simp
theorem bt_u (x k : Int) (hk : k = 24 ∨ k = 16 ∨ k = 8 ∨ k = 0) : (sL x k).toInt8 = (sA x k).toInt8 := by
  apply Int8.toBitVec_inj.mp
  show BitVec.signExtend 8 (sL x k).toBitVec = BitVec.signExtend 8 (sA x k).toBitVec
  rcases hk with rfl | rfl | rfl | rfl
  · exact bt_sg (X := (Int32.ofInt x).toBitVec) (k := 24) (by omega) rfl rfl
  · exact bt_sg (X := (Int32.ofInt x).toBitVec) (k := 16) (by omega) rfl rfl
  · exact bt_sg (X := (Int32.ofInt x).toBitVec) (k := 8) (by omega) rfl rfl
  · exact bt_sg (X := (Int32.ofInt x).toBitVec) (k := 0) (by omega) rfl rfl
/-- four bytes of x laid from place p on -/
def put4 (q : Nat → Int) (p : Nat) (x : Int) : Nat → Int := fun i => if i = p + 3 then bt x 0 else if i = p + 2 then bt x 8 else if i = p + 1 then bt x 16 else if i = p then bt x 24 else q i
set_option maxRecDepth 20000 in
theorem s_puts {E : xE} {f : Nat → Nat} {D : Nat → Nat × Nat} {n : Nat} {m : xM} {P : xPo} {PX : xPx} {x : Int} {p : Nat} (hp9 : p + 4 ≤ 600) (hp : m 96 8 = (p : Int)) (hP : ∀ m', ag [96, 101] m m' → (∀ j, j ≠ 8 → m' 96 j = m 96 j) → m' 96 8 = ((p + 4 : Nat) : Int) → m' 101 = put4 (m 101) p x → P none (gS f D n) m') : xC E (yX6_puts, cX6_puts, 3, none) 0 0 0 [vr E 96, vi x] (gS f D n) m P PX := by
  refine x_enter (by decide) rfl rfl (Nat.le_of_ble_eq_true rfl) ?_
  refine x_bipush dX6_puts_0 (h := ?_)
  refine x_istore_n dX6_puts_2 ?_
  refine x_iload_n dX6_puts_3 rfl ?_
  refine x_if_lt (tgt := 36) dX6_puts_4 (by decide) (by omega) (fun h4 => absurd h4 (by omega)) (fun h4 => ?_)
  refine x_aload_n dX6_puts_7 rfl ?_
  refine x_getR (r := 101) fX6_26 dX6_puts_8 rfl rfl ?_
  refine x_aload_n dX6_puts_11 rfl ?_
  refine x_getI fX6_65 dX6_puts_12 rfl ?_
  refine x_top (show m 96 8 = ((p + 0 : Nat) : Int) by exact hp) ?_
  refine x_iload_n dX6_puts_15 rfl ?_
  refine x_iload_n dX6_puts_16 rfl ?_
  refine x_ishr (z := _) dX6_puts_17 ((Int32.ofInt_toInt _).symm) ?_
  refine x_i2b (z := bt x 24) dX6_puts_18 (by rw [Int32.ofInt_toInt]; exact i8_32 (sA x 24).toInt8) ?_
  refine x_bast (j := p + 0) dX6_puts_19 rfl (by decide) (by omega) (show _ < 600 by omega) (by omega) (bt_b x 24) ?_
  refine x_aload_n dX6_puts_20 rfl ?_
  refine x_dup dX6_puts_21 vr_cat ?_
  refine x_getI fX6_65 dX6_puts_22 rfl ?_
  refine x_top (show xu m 101 (p + 0) (bt x 24) 96 8 = ((p + 0 : Nat) : Int) by rw [xu_ne (by decide)]; exact hp) ?_
  refine x_iconst dX6_puts_25 ?_
  refine x_iadd dX6_puts_26 ?_
  refine x_putI fX6_65 dX6_puts_27 rfl (by decide) rfl rfl ?_
  obtain ⟨m1, hm1⟩ : ∃ y, y = xu (xu m 101 (p + 0) (bt x 24)) 96 8 (((p + 0 : Nat) : Int) + 1) := ⟨_, rfl⟩
  rw [← hm1]
  have hp1 : m1 96 8 = ((p + 1 : Nat) : Int) := by rw [hm1, xu_if, if_pos rfl]; omega
  refine x_iinc dX6_puts_30 rfl ?_
  refine x_goto (tgt := 3) dX6_puts_33 (by decide) ?_
  refine x_loc (lv' := [(0, vr E 96), (1, vi x), (2, vi (16))]) ⟨rfl, rfl, rfl, trivial⟩ ?_
  refine x_iload_n dX6_puts_3 rfl ?_
  refine x_if_lt (tgt := 36) dX6_puts_4 (by decide) (by omega) (fun h4 => absurd h4 (by omega)) (fun h4 => ?_)
  refine x_aload_n dX6_puts_7 rfl ?_
  refine x_getR (r := 101) fX6_26 dX6_puts_8 rfl rfl ?_
  refine x_aload_n dX6_puts_11 rfl ?_
  refine x_getI fX6_65 dX6_puts_12 rfl ?_
  refine x_top (show m1 96 8 = ((p + 1 : Nat) : Int) by exact hp1) ?_
  refine x_iload_n dX6_puts_15 rfl ?_
  refine x_iload_n dX6_puts_16 rfl ?_
  refine x_ishr (z := _) dX6_puts_17 ((Int32.ofInt_toInt _).symm) ?_
  refine x_i2b (z := bt x 16) dX6_puts_18 (by rw [Int32.ofInt_toInt]; exact i8_32 (sA x 16).toInt8) ?_
  refine x_bast (j := p + 1) dX6_puts_19 rfl (by decide) (by omega) (show _ < 600 by omega) (by omega) (bt_b x 16) ?_
  refine x_aload_n dX6_puts_20 rfl ?_
  refine x_dup dX6_puts_21 vr_cat ?_
  refine x_getI fX6_65 dX6_puts_22 rfl ?_
  refine x_top (show xu m1 101 (p + 1) (bt x 16) 96 8 = ((p + 1 : Nat) : Int) by rw [xu_ne (by decide)]; exact hp1) ?_
  refine x_iconst dX6_puts_25 ?_
  refine x_iadd dX6_puts_26 ?_
  refine x_putI fX6_65 dX6_puts_27 rfl (by decide) rfl rfl ?_
  obtain ⟨m2, hm2⟩ : ∃ y, y = xu (xu m1 101 (p + 1) (bt x 16)) 96 8 (((p + 1 : Nat) : Int) + 1) := ⟨_, rfl⟩
  rw [← hm2]
  have hp2 : m2 96 8 = ((p + 2 : Nat) : Int) := by rw [hm2, xu_if, if_pos rfl]; omega
  refine x_iinc dX6_puts_30 rfl ?_
  refine x_goto (tgt := 3) dX6_puts_33 (by decide) ?_
  refine x_loc (lv' := [(0, vr E 96), (1, vi x), (2, vi (8))]) ⟨rfl, rfl, rfl, trivial⟩ ?_
  refine x_iload_n dX6_puts_3 rfl ?_
  refine x_if_lt (tgt := 36) dX6_puts_4 (by decide) (by omega) (fun h4 => absurd h4 (by omega)) (fun h4 => ?_)
  refine x_aload_n dX6_puts_7 rfl ?_
  refine x_getR (r := 101) fX6_26 dX6_puts_8 rfl rfl ?_
  refine x_aload_n dX6_puts_11 rfl ?_
  refine x_getI fX6_65 dX6_puts_12 rfl ?_
  refine x_top (show m2 96 8 = ((p + 2 : Nat) : Int) by exact hp2) ?_
  refine x_iload_n dX6_puts_15 rfl ?_
  refine x_iload_n dX6_puts_16 rfl ?_
  refine x_ishr (z := _) dX6_puts_17 ((Int32.ofInt_toInt _).symm) ?_
  refine x_i2b (z := bt x 8) dX6_puts_18 (by rw [Int32.ofInt_toInt]; exact i8_32 (sA x 8).toInt8) ?_
  refine x_bast (j := p + 2) dX6_puts_19 rfl (by decide) (by omega) (show _ < 600 by omega) (by omega) (bt_b x 8) ?_
  refine x_aload_n dX6_puts_20 rfl ?_
  refine x_dup dX6_puts_21 vr_cat ?_
  refine x_getI fX6_65 dX6_puts_22 rfl ?_
  refine x_top (show xu m2 101 (p + 2) (bt x 8) 96 8 = ((p + 2 : Nat) : Int) by rw [xu_ne (by decide)]; exact hp2) ?_
  refine x_iconst dX6_puts_25 ?_
  refine x_iadd dX6_puts_26 ?_
  refine x_putI fX6_65 dX6_puts_27 rfl (by decide) rfl rfl ?_
  obtain ⟨m3, hm3⟩ : ∃ y, y = xu (xu m2 101 (p + 2) (bt x 8)) 96 8 (((p + 2 : Nat) : Int) + 1) := ⟨_, rfl⟩
  rw [← hm3]
  have hp3 : m3 96 8 = ((p + 3 : Nat) : Int) := by rw [hm3, xu_if, if_pos rfl]; omega
  refine x_iinc dX6_puts_30 rfl ?_
  refine x_goto (tgt := 3) dX6_puts_33 (by decide) ?_
  refine x_loc (lv' := [(0, vr E 96), (1, vi x), (2, vi (0))]) ⟨rfl, rfl, rfl, trivial⟩ ?_
  refine x_iload_n dX6_puts_3 rfl ?_
  refine x_if_lt (tgt := 36) dX6_puts_4 (by decide) (by omega) (fun h4 => absurd h4 (by omega)) (fun h4 => ?_)
  refine x_aload_n dX6_puts_7 rfl ?_
  refine x_getR (r := 101) fX6_26 dX6_puts_8 rfl rfl ?_
  refine x_aload_n dX6_puts_11 rfl ?_
  refine x_getI fX6_65 dX6_puts_12 rfl ?_
  refine x_top (show m3 96 8 = ((p + 3 : Nat) : Int) by exact hp3) ?_
  refine x_iload_n dX6_puts_15 rfl ?_
  refine x_iload_n dX6_puts_16 rfl ?_
  refine x_ishr (z := _) dX6_puts_17 ((Int32.ofInt_toInt _).symm) ?_
  refine x_i2b (z := bt x 0) dX6_puts_18 (by rw [Int32.ofInt_toInt]; exact i8_32 (sA x 0).toInt8) ?_
  refine x_bast (j := p + 3) dX6_puts_19 rfl (by decide) (by omega) (show _ < 600 by omega) (by omega) (bt_b x 0) ?_
  refine x_aload_n dX6_puts_20 rfl ?_
  refine x_dup dX6_puts_21 vr_cat ?_
  refine x_getI fX6_65 dX6_puts_22 rfl ?_
  refine x_top (show xu m3 101 (p + 3) (bt x 0) 96 8 = ((p + 3 : Nat) : Int) by rw [xu_ne (by decide)]; exact hp3) ?_
  refine x_iconst dX6_puts_25 ?_
  refine x_iadd dX6_puts_26 ?_
  refine x_putI fX6_65 dX6_puts_27 rfl (by decide) rfl rfl ?_
  obtain ⟨m4, hm4⟩ : ∃ y, y = xu (xu m3 101 (p + 3) (bt x 0)) 96 8 (((p + 3 : Nat) : Int) + 1) := ⟨_, rfl⟩
  rw [← hm4]
  have hp4 : m4 96 8 = ((p + 4 : Nat) : Int) := by rw [hm4, xu_if, if_pos rfl]; omega
  refine x_iinc dX6_puts_30 rfl ?_
  refine x_goto (tgt := 3) dX6_puts_33 (by decide) ?_
  refine x_loc (lv' := [(0, vr E 96), (1, vi x), (2, vi (-8))]) ⟨rfl, rfl, rfl, trivial⟩ ?_
  refine x_iload_n dX6_puts_3 rfl ?_
  refine x_if_lt (tgt := 36) dX6_puts_4 (by decide) (by omega) (fun h4 => ?_) (fun h4 => absurd h4 (by omega))
  exact x_vret dX6_puts_36 (hP m4 (fun c hc => by
    rw [hm4, xu_ne (fun z => hc (by rw [z]; decide)), xu_ne (fun z => hc (by rw [z]; decide)), hm3, xu_ne (fun z => hc (by rw [z]; decide)), xu_ne (fun z => hc (by rw [z]; decide)), hm2, xu_ne (fun z => hc (by rw [z]; decide)), xu_ne (fun z => hc (by rw [z]; decide)), hm1, xu_ne (fun z => hc (by rw [z]; decide)), xu_ne (fun z => hc (by rw [z]; decide))]) (fun j hj => by
    rw [hm4, xu_if, if_neg hj, xu_ne (by decide), hm3, xu_if, if_neg hj, xu_ne (by decide), hm2, xu_if, if_neg hj, xu_ne (by decide), hm1, xu_if, if_neg hj, xu_ne (by decide)]) hp4 (by
    funext i
    unfold put4
    rw [hm4, xu_ne (by decide), xu_if, hm3, xu_ne (by decide), xu_if, hm2, xu_ne (by decide), xu_if, hm1, xu_ne (by decide), xu_if]
    rfl))

set_option maxRecDepth 20000 in
theorem s_putBytes {E : xE} {f : Nat → Nat} {D : Nat → Nat × Nat} {n : Nat} {m : xM} {P : xPo} {PX : xPx} {x : Int} {p : Nat} (hp9 : p + 4 ≤ 600) (hp : m 40 6 = (p : Int)) (hP : ∀ m', ag [40, 79] m m' → (∀ j, j ≠ 6 → m' 40 j = m 40 j) → m' 40 6 = ((p + 4 : Nat) : Int) → m' 79 = put4 (m 79) p x → P none (gS f D n) m') : xC E (yX5_putBytes, cX5_putBytes, 3, none) 0 0 0 [vr E 40, vi x] (gS f D n) m P PX := by
  refine x_enter (by decide) rfl rfl (Nat.le_of_ble_eq_true rfl) ?_
  refine x_bipush dX5_putBytes_0 (h := ?_)
  refine x_istore_n dX5_putBytes_2 ?_
  refine x_iload_n dX5_putBytes_3 rfl ?_
  refine x_if_lt (tgt := 36) dX5_putBytes_4 (by decide) (by omega) (fun h4 => absurd h4 (by omega)) (fun h4 => ?_)
  refine x_aload_n dX5_putBytes_7 rfl ?_
  refine x_getR (r := 79) fX5_23 dX5_putBytes_8 rfl rfl ?_
  refine x_aload_n dX5_putBytes_11 rfl ?_
  refine x_getI fX5_58 dX5_putBytes_12 rfl ?_
  refine x_top (show m 40 6 = ((p + 0 : Nat) : Int) by exact hp) ?_
  refine x_iload_n dX5_putBytes_15 rfl ?_
  refine x_iload_n dX5_putBytes_16 rfl ?_
  refine x_iushr (z := _) dX5_putBytes_17 ((Int32.ofInt_toInt _).symm) ?_
  refine x_i2b (z := bt x 24) dX5_putBytes_18 (by rw [Int32.ofInt_toInt]; exact (by rw [show ((Int32.ofInt x).toUInt32 >>> ((Int32.ofInt 24).toUInt32 &&& Int32.toUInt32 31)).toInt32.toInt8 = _ from bt_u x _ (by omega)]; exact i8_32 _)) ?_
  refine x_bast (j := p + 0) dX5_putBytes_19 rfl (by decide) (by omega) (show _ < 600 by omega) (by omega) (bt_b x 24) ?_
  refine x_aload_n dX5_putBytes_20 rfl ?_
  refine x_dup dX5_putBytes_21 vr_cat ?_
  refine x_getI fX5_58 dX5_putBytes_22 rfl ?_
  refine x_top (show xu m 79 (p + 0) (bt x 24) 40 6 = ((p + 0 : Nat) : Int) by rw [xu_ne (by decide)]; exact hp) ?_
  refine x_iconst dX5_putBytes_25 ?_
  refine x_iadd dX5_putBytes_26 ?_
  refine x_putI fX5_58 dX5_putBytes_27 rfl (by decide) rfl rfl ?_
  obtain ⟨m1, hm1⟩ : ∃ y, y = xu (xu m 79 (p + 0) (bt x 24)) 40 6 (((p + 0 : Nat) : Int) + 1) := ⟨_, rfl⟩
  rw [← hm1]
  have hp1 : m1 40 6 = ((p + 1 : Nat) : Int) := by rw [hm1, xu_if, if_pos rfl]; omega
  refine x_iinc dX5_putBytes_30 rfl ?_
  refine x_goto (tgt := 3) dX5_putBytes_33 (by decide) ?_
  refine x_loc (lv' := [(0, vr E 40), (1, vi x), (2, vi (16))]) ⟨rfl, rfl, rfl, trivial⟩ ?_
  refine x_iload_n dX5_putBytes_3 rfl ?_
  refine x_if_lt (tgt := 36) dX5_putBytes_4 (by decide) (by omega) (fun h4 => absurd h4 (by omega)) (fun h4 => ?_)
  refine x_aload_n dX5_putBytes_7 rfl ?_
  refine x_getR (r := 79) fX5_23 dX5_putBytes_8 rfl rfl ?_
  refine x_aload_n dX5_putBytes_11 rfl ?_
  refine x_getI fX5_58 dX5_putBytes_12 rfl ?_
  refine x_top (show m1 40 6 = ((p + 1 : Nat) : Int) by exact hp1) ?_
  refine x_iload_n dX5_putBytes_15 rfl ?_
  refine x_iload_n dX5_putBytes_16 rfl ?_
  refine x_iushr (z := _) dX5_putBytes_17 ((Int32.ofInt_toInt _).symm) ?_
  refine x_i2b (z := bt x 16) dX5_putBytes_18 (by rw [Int32.ofInt_toInt]; exact (by rw [show ((Int32.ofInt x).toUInt32 >>> ((Int32.ofInt 16).toUInt32 &&& Int32.toUInt32 31)).toInt32.toInt8 = _ from bt_u x _ (by omega)]; exact i8_32 _)) ?_
  refine x_bast (j := p + 1) dX5_putBytes_19 rfl (by decide) (by omega) (show _ < 600 by omega) (by omega) (bt_b x 16) ?_
  refine x_aload_n dX5_putBytes_20 rfl ?_
  refine x_dup dX5_putBytes_21 vr_cat ?_
  refine x_getI fX5_58 dX5_putBytes_22 rfl ?_
  refine x_top (show xu m1 79 (p + 1) (bt x 16) 40 6 = ((p + 1 : Nat) : Int) by rw [xu_ne (by decide)]; exact hp1) ?_
  refine x_iconst dX5_putBytes_25 ?_
  refine x_iadd dX5_putBytes_26 ?_
  refine x_putI fX5_58 dX5_putBytes_27 rfl (by decide) rfl rfl ?_
  obtain ⟨m2, hm2⟩ : ∃ y, y = xu (xu m1 79 (p + 1) (bt x 16)) 40 6 (((p + 1 : Nat) : Int) + 1) := ⟨_, rfl⟩
  rw [← hm2]
  have hp2 : m2 40 6 = ((p + 2 : Nat) : Int) := by rw [hm2, xu_if, if_pos rfl]; omega
  refine x_iinc dX5_putBytes_30 rfl ?_
  refine x_goto (tgt := 3) dX5_putBytes_33 (by decide) ?_
  refine x_loc (lv' := [(0, vr E 40), (1, vi x), (2, vi (8))]) ⟨rfl, rfl, rfl, trivial⟩ ?_
  refine x_iload_n dX5_putBytes_3 rfl ?_
  refine x_if_lt (tgt := 36) dX5_putBytes_4 (by decide) (by omega) (fun h4 => absurd h4 (by omega)) (fun h4 => ?_)
  refine x_aload_n dX5_putBytes_7 rfl ?_
  refine x_getR (r := 79) fX5_23 dX5_putBytes_8 rfl rfl ?_
  refine x_aload_n dX5_putBytes_11 rfl ?_
  refine x_getI fX5_58 dX5_putBytes_12 rfl ?_
  refine x_top (show m2 40 6 = ((p + 2 : Nat) : Int) by exact hp2) ?_
  refine x_iload_n dX5_putBytes_15 rfl ?_
  refine x_iload_n dX5_putBytes_16 rfl ?_
  refine x_iushr (z := _) dX5_putBytes_17 ((Int32.ofInt_toInt _).symm) ?_
  refine x_i2b (z := bt x 8) dX5_putBytes_18 (by rw [Int32.ofInt_toInt]; exact (by rw [show ((Int32.ofInt x).toUInt32 >>> ((Int32.ofInt 8).toUInt32 &&& Int32.toUInt32 31)).toInt32.toInt8 = _ from bt_u x _ (by omega)]; exact i8_32 _)) ?_
  refine x_bast (j := p + 2) dX5_putBytes_19 rfl (by decide) (by omega) (show _ < 600 by omega) (by omega) (bt_b x 8) ?_
  refine x_aload_n dX5_putBytes_20 rfl ?_
  refine x_dup dX5_putBytes_21 vr_cat ?_
  refine x_getI fX5_58 dX5_putBytes_22 rfl ?_
  refine x_top (show xu m2 79 (p + 2) (bt x 8) 40 6 = ((p + 2 : Nat) : Int) by rw [xu_ne (by decide)]; exact hp2) ?_
  refine x_iconst dX5_putBytes_25 ?_
  refine x_iadd dX5_putBytes_26 ?_
  refine x_putI fX5_58 dX5_putBytes_27 rfl (by decide) rfl rfl ?_
  obtain ⟨m3, hm3⟩ : ∃ y, y = xu (xu m2 79 (p + 2) (bt x 8)) 40 6 (((p + 2 : Nat) : Int) + 1) := ⟨_, rfl⟩
  rw [← hm3]
  have hp3 : m3 40 6 = ((p + 3 : Nat) : Int) := by rw [hm3, xu_if, if_pos rfl]; omega
  refine x_iinc dX5_putBytes_30 rfl ?_
  refine x_goto (tgt := 3) dX5_putBytes_33 (by decide) ?_
  refine x_loc (lv' := [(0, vr E 40), (1, vi x), (2, vi (0))]) ⟨rfl, rfl, rfl, trivial⟩ ?_
  refine x_iload_n dX5_putBytes_3 rfl ?_
  refine x_if_lt (tgt := 36) dX5_putBytes_4 (by decide) (by omega) (fun h4 => absurd h4 (by omega)) (fun h4 => ?_)
  refine x_aload_n dX5_putBytes_7 rfl ?_
  refine x_getR (r := 79) fX5_23 dX5_putBytes_8 rfl rfl ?_
  refine x_aload_n dX5_putBytes_11 rfl ?_
  refine x_getI fX5_58 dX5_putBytes_12 rfl ?_
  refine x_top (show m3 40 6 = ((p + 3 : Nat) : Int) by exact hp3) ?_
  refine x_iload_n dX5_putBytes_15 rfl ?_
  refine x_iload_n dX5_putBytes_16 rfl ?_
  refine x_iushr (z := _) dX5_putBytes_17 ((Int32.ofInt_toInt _).symm) ?_
  refine x_i2b (z := bt x 0) dX5_putBytes_18 (by rw [Int32.ofInt_toInt]; exact (by rw [show ((Int32.ofInt x).toUInt32 >>> ((Int32.ofInt 0).toUInt32 &&& Int32.toUInt32 31)).toInt32.toInt8 = _ from bt_u x _ (by omega)]; exact i8_32 _)) ?_
  refine x_bast (j := p + 3) dX5_putBytes_19 rfl (by decide) (by omega) (show _ < 600 by omega) (by omega) (bt_b x 0) ?_
  refine x_aload_n dX5_putBytes_20 rfl ?_
  refine x_dup dX5_putBytes_21 vr_cat ?_
  refine x_getI fX5_58 dX5_putBytes_22 rfl ?_
  refine x_top (show xu m3 79 (p + 3) (bt x 0) 40 6 = ((p + 3 : Nat) : Int) by rw [xu_ne (by decide)]; exact hp3) ?_
  refine x_iconst dX5_putBytes_25 ?_
  refine x_iadd dX5_putBytes_26 ?_
  refine x_putI fX5_58 dX5_putBytes_27 rfl (by decide) rfl rfl ?_
  obtain ⟨m4, hm4⟩ : ∃ y, y = xu (xu m3 79 (p + 3) (bt x 0)) 40 6 (((p + 3 : Nat) : Int) + 1) := ⟨_, rfl⟩
  rw [← hm4]
  have hp4 : m4 40 6 = ((p + 4 : Nat) : Int) := by rw [hm4, xu_if, if_pos rfl]; omega
  refine x_iinc dX5_putBytes_30 rfl ?_
  refine x_goto (tgt := 3) dX5_putBytes_33 (by decide) ?_
  refine x_loc (lv' := [(0, vr E 40), (1, vi x), (2, vi (-8))]) ⟨rfl, rfl, rfl, trivial⟩ ?_
  refine x_iload_n dX5_putBytes_3 rfl ?_
  refine x_if_lt (tgt := 36) dX5_putBytes_4 (by decide) (by omega) (fun h4 => ?_) (fun h4 => absurd h4 (by omega))
  exact x_vret dX5_putBytes_36 (hP m4 (fun c hc => by
    rw [hm4, xu_ne (fun z => hc (by rw [z]; decide)), xu_ne (fun z => hc (by rw [z]; decide)), hm3, xu_ne (fun z => hc (by rw [z]; decide)), xu_ne (fun z => hc (by rw [z]; decide)), hm2, xu_ne (fun z => hc (by rw [z]; decide)), xu_ne (fun z => hc (by rw [z]; decide)), hm1, xu_ne (fun z => hc (by rw [z]; decide)), xu_ne (fun z => hc (by rw [z]; decide))]) (fun j hj => by
    rw [hm4, xu_if, if_neg hj, xu_ne (by decide), hm3, xu_if, if_neg hj, xu_ne (by decide), hm2, xu_if, if_neg hj, xu_ne (by decide), hm1, xu_if, if_neg hj, xu_ne (by decide)]) hp4 (by
    funext i
    unfold put4
    rw [hm4, xu_ne (by decide), xu_if, hm3, xu_ne (by decide), xu_if, hm2, xu_ne (by decide), xu_if, hm1, xu_ne (by decide), xu_if]
    rfl))

end FD
