section MS
/-- a set of ships, as bits -/
noncomputable def cset (S : Nat → Prop) : Nat → Nat
  | 0 => 0
  | u + 1 => cset S u + (zi (S u)).toNat * 2 ^ u
theorem cset_b (S : Nat → Prop) : ∀ u, cset S u < 2 ^ u := by
  intro u
  induction u with
  | zero => exact Nat.one_pos
  | succ u ih =>
    show cset S u + (zi (S u)).toNat * 2 ^ u < 2 ^ (u + 1)
    rw [Nat.pow_succ]
    rcases zi_01 (S u) with h | h <;> rw [h]
    · show cset S u + 0 * 2 ^ u < _; omega
    · show cset S u + 1 * 2 ^ u < _; omega
theorem cset_f {S : Nat → Prop} {u : Nat} (h : ¬ S u) : cset S (u + 1) = cset S u := by
  show cset S u + (zi (S u)).toNat * 2 ^ u = _
  rw [zi_f h]; show cset S u + 0 * 2 ^ u = _; omega
theorem cset_t {S : Nat → Prop} {u : Nat} (h : S u) : cset S (u + 1) = cset S u + 2 ^ u := by
  show cset S u + (zi (S u)).toNat * 2 ^ u = _
  rw [zi_t h]; show cset S u + 1 * 2 ^ u = _; omega
theorem b_or : ∀ u : Nat, u < 6 → ∀ x : Nat, x < 2 ^ u → Int32.ofInt (x : Int) ||| Int32.ofInt ((2 ^ u : Nat) : Int) = Int32.ofInt ((x + 2 ^ u : Nat) : Int) := by decide +kernel
theorem p2_6 : ∀ u : Nat, u ≤ 6 → 2 ^ u ≤ 64 := by decide +kernel
theorem cset_6 (S : Nat → Prop) {u : Nat} (hu : u ≤ 6) : cset S u < 64 := Nat.lt_of_lt_of_le (cset_b S u) (p2_6 u hu)
def cls (v : Nat → Int) (s : Nat) (st sp : Int) (o : Nat) : Prop := o ≠ s ∧ bk v o ∧ near v s st sp o
set_option maxRecDepth 20000 in
theorem s_mcloseTo {E : xE} {f : Nat → Nat} {D : Nat → Nat × Nat} {n : Nat} {m : xM} {P : xPo} {PX : xPx} {v : Nat → Int} {s : Nat} {st sp : Int} (hv : vOk v) (hN : mN v m) (hs : (s : Int) < v 5) (hsp : 4 ≤ sp ∧ sp ≤ 25) (hst : 0 ≤ st ∧ st ≤ 20000) (hP : P (some (vi ((cset (cls v s st sp) (v 5).toNat : Nat) : Int))) (gS f D n) m) : xC E (yX6_closeTo, cX6_closeTo, 6, some .int) 4 0 0 [vr E 96, vi (s : Int), vi st, vi sp] (gS f D n) m P PX := by
  refine x_enter (by decide) rfl rfl (Nat.le_of_ble_eq_true rfl) ?_
  have hv5 := hv.1.2.2.2.2.2.1
  have loop : ∀ (j u : Nat), v 5 < (u : Int) + j → (u : Int) ≤ v 5 → xX E (("closeTo", some .int, []), (4, 0, 0), P, PX) RX6 cX6_closeTo 6 0 0 6 [(0, vr E 96), (1, vi (s : Int)), (2, vi st), (3, vi sp), (4, vi ((cset (cls v s st sp) u : Nat) : Int)), (5, vi (u : Int))] [] (gS f D n) m := by
    intro j
    induction j with
    | zero => intro u h1 h2; omega
    | succ j ih =>
      intro u h1 h2
      refine x_iload dX6_closeTo_6 rfl ?_
      refine x_aload_n dX6_closeTo_8 rfl ?_
      refine x_getR (r := 98) fX6_17 dX6_closeTo_9 rfl rfl ?_
      refine x_iconst dX6_closeTo_12 ?_
      refine x_iald (j := 5) dX6_closeTo_13 rfl rfl (show 5 < 709 by omega) (by omega) ?_
      refine x_top (hN 5 (by omega)) ?_
      refine x_icmp_ge (tgt := 75) dX6_closeTo_14 (by decide) (by omega) (fun h14 => ?_) (fun h14 => ?_)
      · refine x_iload dX6_closeTo_75 rfl ?_
        exact x_iret dX6_closeTo_77  (by rw [show u = (v 5).toNat by omega]; exact hP)
      · have hu : (u : Int) < v 5 := by omega
        refine x_iload dX6_closeTo_17 rfl ?_
        refine x_iload_n dX6_closeTo_19 rfl ?_
        refine x_icmp_eq (tgt := 69) dX6_closeTo_20 (by decide) (by omega) (fun h20 => ?_) (fun h20 => ?_)
        · refine x_iinc dX6_closeTo_69 rfl ?_
          refine x_goto (tgt := 6) dX6_closeTo_72 (by decide) ?_
          exact x_loc (lv' := [(0, vr E 96), (1, vi (s : Int)), (2, vi st), (3, vi sp), (4, vi ((cset (cls v s st sp) (u + 1) : Nat) : Int)), (5, vi ((u + 1 : Nat) : Int))]) ⟨rfl, rfl, rfl, rfl, xl_i rfl (by rw [cset_f (fun z => z.1 (by omega))]), xl_i rfl (by omega), trivial⟩ (ih (u + 1) (by omega) (by omega))
        · refine x_aload_n dX6_closeTo_23 rfl ?_
          refine x_iload dX6_closeTo_24 rfl ?_
          refine x_V1 mX6_309 dX6_closeTo_26 rfl (s_misBooked hv hN hu ?_)
          refine x_if_eq (tgt := 69) dX6_closeTo_29 (by decide) (zi_r _) (fun h29 => ?_) (fun h29 => ?_)
          · have hbk := zi_0.mp h29
            refine x_iinc dX6_closeTo_69 rfl ?_
            refine x_goto (tgt := 6) dX6_closeTo_72 (by decide) ?_
            exact x_loc (lv' := [(0, vr E 96), (1, vi (s : Int)), (2, vi st), (3, vi sp), (4, vi ((cset (cls v s st sp) (u + 1) : Nat) : Int)), (5, vi ((u + 1 : Nat) : Int))]) ⟨rfl, rfl, rfl, rfl, xl_i rfl (by rw [cset_f (fun z => hbk z.2.1)]), xl_i rfl (by omega), trivial⟩ (ih (u + 1) (by omega) (by omega))
          · have hbk := zi_1.mp h29
            refine x_aload_n dX6_closeTo_32 rfl ?_
            refine x_iload_n dX6_closeTo_33 rfl ?_
            refine x_iload_n dX6_closeTo_34 rfl ?_
            refine x_iload_n dX6_closeTo_35 rfl ?_
            refine x_iload dX6_closeTo_36 rfl ?_
            refine x_aload_n dX6_closeTo_38 rfl ?_
            refine x_iload dX6_closeTo_39 rfl ?_
            refine x_bipush dX6_closeTo_41 (h := ?_)
            refine x_V2 mX6_241 dX6_closeTo_43 rfl (s_ofShip (60 + 8 * u + 6) (by omega) (by omega) ?_)
            refine x_top (hN.s (s := u) (by omega) (by omega)) ?_
            refine x_aload_n dX6_closeTo_46 rfl ?_
            refine x_iload dX6_closeTo_47 rfl ?_
            refine x_bipush dX6_closeTo_49 (h := ?_)
            refine x_V2 mX6_241 dX6_closeTo_51 rfl (s_ofShip (60 + 8 * u + 7) (by omega) (by omega) ?_)
            refine x_top (hN.s (s := u) (by omega) (by omega)) ?_
            refine x_V6 mX6_312 dX6_closeTo_54 rfl (s_areClose hv hN hs hu hbk hsp hst ?_)
            refine x_if_eq (tgt := 69) dX6_closeTo_57 (by decide) (zi_r _) (fun h57 => ?_) (fun h57 => ?_)
            · have hnr := zi_0.mp h57
              refine x_iinc dX6_closeTo_69 rfl ?_
              refine x_goto (tgt := 6) dX6_closeTo_72 (by decide) ?_
              exact x_loc (lv' := [(0, vr E 96), (1, vi (s : Int)), (2, vi st), (3, vi sp), (4, vi ((cset (cls v s st sp) (u + 1) : Nat) : Int)), (5, vi ((u + 1 : Nat) : Int))]) ⟨rfl, rfl, rfl, rfl, xl_i rfl (by rw [cset_f (fun z => hnr z.2.2)]), xl_i rfl (by omega), trivial⟩ (ih (u + 1) (by omega) (by omega))
            · have hnr := zi_1.mp h57
              refine x_iload dX6_closeTo_60 rfl ?_
              refine x_iconst dX6_closeTo_62 ?_
              refine x_iload dX6_closeTo_63 rfl ?_
              refine x_ishl (z := ((2 ^ u : Nat) : Int)) dX6_closeTo_65 (b_shl1 u (by omega)) ?_
              refine x_ior (z := ((cset (cls v s st sp) u + 2 ^ u : Nat) : Int)) dX6_closeTo_66 (b_or u (by omega) _ (cset_b _ u)) ?_
              refine x_istore dX6_closeTo_67 ?_
              refine x_iinc dX6_closeTo_69 rfl ?_
              refine x_goto (tgt := 6) dX6_closeTo_72 (by decide) ?_
              exact x_loc (lv' := [(0, vr E 96), (1, vi (s : Int)), (2, vi st), (3, vi sp), (4, vi ((cset (cls v s st sp) (u + 1) : Nat) : Int)), (5, vi ((u + 1 : Nat) : Int))]) ⟨rfl, rfl, rfl, rfl, xl_i rfl (by rw [cset_t ⟨fun z => h20 (by omega), hbk, hnr⟩]), xl_i rfl (by omega), trivial⟩ (ih (u + 1) (by omega) (by omega))
  refine x_iconst dX6_closeTo_0 ?_
  refine x_istore dX6_closeTo_1 ?_
  refine x_iconst dX6_closeTo_3 ?_
  refine x_istore dX6_closeTo_4 ?_
  exact x_loc (lv' := [(0, vr E 96), (1, vi (s : Int)), (2, vi st), (3, vi sp), (4, vi ((cset (cls v s st sp) 0 : Nat) : Int)), (5, vi ((0 : Nat) : Int))]) ⟨rfl, rfl, rfl, rfl, rfl, rfl, trivial⟩ (loop 7 0 (by omega) (by omega))

set_option maxRecDepth 20000 in
theorem s_lies {E : xE} {g : xG} {m : xM} {P : xPo} {PX : xPx} {x a b : Int} (hr : -9223372036854775808 ≤ x ∧ x ≤ 9223372036854775807 ∧ -9223372036854775808 ≤ a ∧ a ≤ 9223372036854775807 ∧ -9223372036854775808 ≤ b ∧ b ≤ 9223372036854775807) (hP : P (some (vi (zi (a ≤ x ∧ x ≤ b)))) g m) : xC E (yX6_lies, cX6_lies, 6, some .boolean) 0 0 0 [vl x, vl a, vl b] g m P PX := by
  refine x_enter (by decide) rfl rfl (Nat.le_of_ble_eq_true rfl) ?_
  refine x_lload_n dX6_lies_0 rfl ?_
  refine x_lload_n dX6_lies_1 rfl ?_
  refine x_llt (tgt := 17) dX6_lies_2 dX6_lies_3 (by decide) (by omega) (fun h2 => ?_) (fun h2 => ?_)
  · refine x_iconst dX6_lies_17 ?_
    exact x_zret dX6_lies_18 (Or.inl rfl) (by rw [zi_f (by omega)] at hP; exact hP)
  · refine x_lload_n dX6_lies_6 rfl ?_
    refine x_lload dX6_lies_7 rfl ?_
    refine x_lgt (tgt := 17) dX6_lies_9 dX6_lies_10 (by decide) (by omega) (fun h9 => ?_) (fun h9 => ?_)
    · refine x_iconst dX6_lies_17 ?_
      exact x_zret dX6_lies_18 (Or.inl rfl) (by rw [zi_f (by omega)] at hP; exact hP)
    · refine x_iconst dX6_lies_13 ?_
      refine x_goto (tgt := 18) dX6_lies_14 (by decide) ?_
      exact x_zret dX6_lies_18 (Or.inr rfl) (by rw [zi_t (by omega)] at hP; exact hP)

set_option maxRecDepth 20000 in
theorem s_isShip {E : xE} {f : Nat → Nat} {D : Nat → Nat × Nat} {n : Nat} {m : xM} {P : xPo} {PX : xPx} {v : Nat → Int} {x : Int} (hv : vOk v) (hN : mN v m) (hx : -2147483648 ≤ x ∧ x ≤ 2147483647) (hP : P (some (vi (zi (0 ≤ x ∧ x < v 5)))) (gS f D n) m) : xC E (yX6_isShip, cX6_isShip, 2, some .boolean) 1 0 0 [vr E 96, vi x] (gS f D n) m P PX := by
  refine x_enter (by decide) rfl rfl (Nat.le_of_ble_eq_true rfl) ?_
  have hv5 := hv.1.2.2.2.2.2.1
  have hv4 := hv.1.2.2.2.2.1.1
  refine x_iload_n dX6_isShip_0 rfl ?_
  refine x_i2l dX6_isShip_1 (by omega) ?_
  refine x_lconst0 dX6_isShip_2 ?_
  refine x_aload_n dX6_isShip_3 rfl ?_
  refine x_getR (r := 98) fX6_17 dX6_isShip_4 rfl rfl ?_
  refine x_iconst dX6_isShip_7 ?_
  refine x_iald (j := 5) dX6_isShip_8 rfl rfl (show 5 < 709 by omega) (by omega) ?_
  refine x_top (hN 5 (by omega)) ?_
  refine x_iconst dX6_isShip_9 ?_
  refine x_isub dX6_isShip_10 ?_
  refine x_i2l dX6_isShip_11 (by omega) ?_
  refine x_S3 mX6_122 dX6_isShip_12 (s_lies (by omega) ?_)
  exact x_zret dX6_isShip_15 (zi_01 _) (by rw [show zi (0 ≤ x ∧ x ≤ v 5 - 1) = zi (0 ≤ x ∧ x < v 5) from zi_c (by omega)]; exact hP)

set_option maxRecDepth 20000 in
theorem s_isBar {E : xE} {f : Nat → Nat} {D : Nat → Nat × Nat} {n : Nat} {m : xM} {P : xPo} {PX : xPx} {v : Nat → Int} {x : Int} (hv : vOk v) (hN : mN v m) (hx : -2147483648 ≤ x ∧ x ≤ 2147483647) (hP : P (some (vi (zi (0 ≤ x ∧ x < v 4)))) (gS f D n) m) : xC E (yX6_isBar, cX6_isBar, 2, some .boolean) 1 0 0 [vr E 96, vi x] (gS f D n) m P PX := by
  refine x_enter (by decide) rfl rfl (Nat.le_of_ble_eq_true rfl) ?_
  have hv5 := hv.1.2.2.2.2.2.1
  have hv4 := hv.1.2.2.2.2.1.1
  refine x_iload_n dX6_isBar_0 rfl ?_
  refine x_i2l dX6_isBar_1 (by omega) ?_
  refine x_lconst0 dX6_isBar_2 ?_
  refine x_aload_n dX6_isBar_3 rfl ?_
  refine x_getR (r := 98) fX6_17 dX6_isBar_4 rfl rfl ?_
  refine x_iconst dX6_isBar_7 ?_
  refine x_iald (j := 4) dX6_isBar_8 rfl rfl (show 4 < 709 by omega) (by omega) ?_
  refine x_top (hN 4 (by omega)) ?_
  refine x_iconst dX6_isBar_9 ?_
  refine x_isub dX6_isBar_10 ?_
  refine x_i2l dX6_isBar_11 (by omega) ?_
  refine x_S3 mX6_122 dX6_isBar_12 (s_lies (by omega) ?_)
  exact x_zret dX6_isBar_15 (zi_01 _) (by rw [show zi (0 ≤ x ∧ x ≤ v 4 - 1) = zi (0 ≤ x ∧ x < v 4) from zi_c (by omega)]; exact hP)

set_option maxRecDepth 20000 in
theorem s_isMinute {E : xE} {g : xG} {m : xM} {P : xPo} {PX : xPx} {x : Int} (hx : -2147483648 ≤ x ∧ x ≤ 2147483647) (hP : P (some (vi (zi (0 ≤ x ∧ x ≤ 10000)))) g m) : xC E (yX6_isMinute, cX6_isMinute, 1, some .boolean) 1 0 0 [vi x] g m P PX := by
  refine x_enter (by decide) rfl rfl (Nat.le_of_ble_eq_true rfl) ?_
  refine x_iload_n dX6_isMinute_0 rfl ?_
  refine x_i2l dX6_isMinute_1 (by omega) ?_
  refine x_lconst0 dX6_isMinute_2 ?_
  refine x_ldc2_w kX6_284 dX6_isMinute_3 ?_
  refine x_S3 mX6_122 dX6_isMinute_6 (s_lies (by omega) ?_)
  exact x_zret dX6_isMinute_9 (zi_01 _) (hP)

set_option maxRecDepth 20000 in
theorem s_isSpeed {E : xE} {g : xG} {m : xM} {P : xPo} {PX : xPx} {x : Int} (hx : -2147483648 ≤ x ∧ x ≤ 2147483647) (hP : P (some (vi (zi (4 ≤ x ∧ x ≤ 25)))) g m) : xC E (yX6_isSpeed, cX6_isSpeed, 1, some .boolean) 1 0 0 [vi x] g m P PX := by
  refine x_enter (by decide) rfl rfl (Nat.le_of_ble_eq_true rfl) ?_
  refine x_iload_n dX6_isSpeed_0 rfl ?_
  refine x_i2l dX6_isSpeed_1 (by omega) ?_
  refine x_ldc2_w kX6_286 dX6_isSpeed_2 ?_
  refine x_ldc2_w kX6_288 dX6_isSpeed_5 ?_
  refine x_S3 mX6_122 dX6_isSpeed_8 (s_lies (by omega) ?_)
  exact x_zret dX6_isSpeed_11 (zi_01 _) (hP)

/-- what isFine leaves: nothing changed, or the refusal told -/
def fiR (p : Prop) (code : Int) (kind : Nat) (m m' : xM) (r : Int) : Prop := (p ∧ r = 1 ∧ m' = m) ∨ (¬ p ∧ r = 0 ∧ m' = xu (xu m 96 0 code) 97 kind (m 97 kind + 1))
set_option maxRecDepth 20000 in
theorem s_isFine {E : xE} {f : Nat → Nat} {D : Nat → Nat × Nat} {n : Nat} {m : xM} {P : xPo} {PX : xPx} {p : Prop} {c : Int} {k : Nat} (h0 : m 96 0 = 0) (hk : k < 3) (hc : 1 ≤ c ∧ c ≤ 10) (hP : ∀ m' r, fiR p c k m m' r → P (some (vi r)) (gS f D n) m') : xC E (yX6_isFine, cX6_isFine, 4, some .boolean) 0 0 0 [vr E 96, vi (zi p), vi c, vi (k : Int)] (gS f D n) m P PX := by
  refine x_enter (by decide) rfl rfl (Nat.le_of_ble_eq_true rfl) ?_
  refine x_iload_n dX6_isFine_0 rfl ?_
  refine x_if_ne (tgt := 26) dX6_isFine_1 (by decide) (zi_r _) (fun h1 => ?_) (fun h1 => ?_)
  · have hp := zi_1.mp h1
    refine x_aload_n dX6_isFine_26 rfl ?_
    refine x_getI fX6_1 dX6_isFine_27 rfl ?_
    refine x_top (h0) ?_
    refine x_if_ne (tgt := 37) dX6_isFine_30 (by decide) (by omega) (fun h30 => absurd h30 (by omega)) (fun h30 => ?_)
    refine x_iconst dX6_isFine_33 ?_
    refine x_goto (tgt := 38) dX6_isFine_34 (by decide) ?_
    exact x_zret dX6_isFine_38 (Or.inr rfl) (hP m 1 (Or.inl ⟨hp, rfl, rfl⟩))
  · have hp := zi_0.mp h1
    refine x_aload_n dX6_isFine_4 rfl ?_
    refine x_getI fX6_1 dX6_isFine_5 rfl ?_
    refine x_top (h0) ?_
    refine x_if_ne (tgt := 26) dX6_isFine_8 (by decide) (by omega) (fun h8 => absurd h8 (by omega)) (fun h8 => ?_)
    refine x_aload_n dX6_isFine_11 rfl ?_
    refine x_iload_n dX6_isFine_12 rfl ?_
    refine x_putI fX6_1 dX6_isFine_13 rfl (by decide) rfl rfl ?_
    refine x_aload_n dX6_isFine_16 rfl ?_
    refine x_getR (r := 97) fX6_7 dX6_isFine_17 rfl rfl ?_
    refine x_iload_n dX6_isFine_20 rfl ?_
    refine x_dup2 dX6_isFine_21 rfl vr_cat ?_
    refine x_iald (j := k) dX6_isFine_22 rfl (by omega) (show _ < 3 by omega) (by omega) ?_
    refine x_iconst dX6_isFine_23 ?_
    refine x_iadd dX6_isFine_24 ?_
    refine x_iast (j := k) dX6_isFine_25 rfl (by decide) (by omega) (show _ < 3 by omega) (by omega) ?_
    refine x_aload_n dX6_isFine_26 rfl ?_
    refine x_getI fX6_1 dX6_isFine_27 rfl ?_
    refine x_top (show xu (xu m 96 0 c) 97 k (xu m 96 0 c 97 k + 1) 96 0 = c by rw [xu_ne (by decide), xu_if, if_pos rfl]) ?_
    refine x_if_ne (tgt := 37) dX6_isFine_30 (by decide) (by omega) (fun h30 => ?_) (fun h30 => absurd h30 (by omega))
    refine x_iconst dX6_isFine_37 ?_
    exact x_zret dX6_isFine_38 (Or.inl rfl) (hP _ 0 (Or.inr ⟨hp, rfl, by rw [xu_ne (m := m) (a := 97) (c := 96) (by decide)]⟩))

end MS
