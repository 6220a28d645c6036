section MG
/-- a line of ships as it lies in the model; its goods; a line can go from a start on -/
def lnM (m : xM) (l : List Nat) : Prop := m 96 25 = (l.length : Int) ∧ ∀ j, j < l.length → m 109 j = (l.getD j 0 : Int)
def mgR (m : xM) (G : Nat → Nat → Prop) (a c : Nat) : Prop := ∀ u, u < 6 → tb a u = 1 → ∀ t, t < c → m 108 (2640 * u + t) = zi (G u t)
def lnA (G : Nat → Nat → Prop) (gp : Nat) (l : List Nat) (t : Nat) : Prop := ∀ q, q < l.length → G (l.getD q 0) (t + q * gp)
def inS (a : Nat) (l : List Nat) : Prop := l.length = pcn a ∧ ∀ q, q < l.length → l.getD q 0 < 6 ∧ tb a (l.getD q 0) = 1
theorem lnG_A {G : Nat → Nat → Prop} {gp : Nat} : ∀ (l : List Nat) (t : Nat), lnG G gp t l ↔ lnA G gp l t := by
  intro l
  induction l with
  | nil => intro t; exact ⟨fun _ q hq => absurd hq (Nat.not_lt_zero q), fun _ => trivial⟩
  | cons u l ih =>
    intro t
    show G u t ∧ lnG G gp (t + gp) l ↔ _
    rw [ih (t + gp)]
    constructor
    · rintro ⟨h1, h2⟩ q hq
      cases q with
      | zero => show G u (t + 0 * gp); rw [Nat.zero_mul]; exact h1
      | succ q =>
        have := h2 q (Nat.lt_of_succ_lt_succ hq)
        show G (l.getD q 0) (t + (q + 1) * gp)
        rw [Nat.add_mul, Nat.one_mul, show t + (q * gp + gp) = t + gp + q * gp by omega]
        exact this
    · intro h
      refine ⟨?_, fun q hq => ?_⟩
      · have := h 0 (Nat.succ_pos _)
        rw [Nat.zero_mul] at this
        exact this
      · have := h (q + 1) (Nat.succ_lt_succ hq)
        rw [Nat.add_mul, Nat.one_mul, show t + (q * gp + gp) = t + gp + q * gp by omega] at this
        exact this
theorem ln_in {a c gp t j : Nat} {l : List Nat} (hcnt : 1440 + (((pcn a : Nat) : Int) - 1) * (gp : Int) = (c : Int)) (hl : inS a l) (hj : j < l.length) (ht : t < 1440) : t + j * gp < c := by
  have h2 := Nat.mul_le_mul_right gp (show j + 1 ≤ pcn a by have := hl.1; omega)
  rw [Nat.add_mul, Nat.one_mul] at h2
  rw [Int.sub_mul, Int.one_mul] at hcnt
  have h3 : (((pcn a) * gp : Nat) : Int) = ((pcn a : Nat) : Int) * (gp : Int) := Int.natCast_mul _ _
  omega
theorem b_shl7 : ∀ s : Nat, s ≤ 6 → Int32.ofInt 1 <<< (Int32.ofInt (s : Int) &&& 31) = Int32.ofInt ((2 ^ s : Nat) : Int) := by decide +kernel
theorem set_in : ∀ k : Nat, k ≤ 6 → ∀ a : Nat, a < 2 ^ k → ∀ u : Nat, u < 6 → tb a u = 1 → u < k := by decide +kernel
set_option maxRecDepth 20000 in
theorem s_isSet {E : xE} {f : Nat → Nat} {D : Nat → Nat × Nat} {n : Nat} {m : xM} {P : xPo} {PX : xPx} {v : Nat → Int} {x : Int} (hv : vOk v) (hN : mN v m) (hx : -2147483648 ≤ x ∧ x ≤ 2147483647) (hP : P (some (vi (zi (1 ≤ x ∧ x < ((2 ^ (v 5).toNat : Nat) : Int))))) (gS f D n) m) : xC E (yX6_isSet, cX6_isSet, 2, some .boolean) 1 0 0 [vr E 96, vi x] (gS f D n) m P PX := by
  refine x_enter (by decide) rfl rfl (Nat.le_of_ble_eq_true rfl) ?_
  have hv5 := hv.1.2.2.2.2.2.1
  have hv4 := hv.1.2.2.2.2.1.1
  have hv3 := hv.1.2.2.2.1.1
  have hp := p2_6 (v 5).toNat (by omega)
  have hp1 : 0 < 2 ^ (v 5).toNat := Nat.pow_pos (by omega)
  refine x_iload_n dX6_isSet_0 rfl ?_
  refine x_i2l dX6_isSet_1 (by omega) ?_
  refine x_lconst1 dX6_isSet_2 ?_
  refine x_iconst dX6_isSet_3 ?_
  refine x_aload_n dX6_isSet_4 rfl ?_
  refine x_getR (r := 98) fX6_17 dX6_isSet_5 rfl rfl ?_
  refine x_iconst dX6_isSet_8 ?_
  refine x_iald (j := 5) dX6_isSet_9 rfl rfl (show 5 < 709 by omega) (by omega) ?_
  refine x_top (show m 98 5 = (((v 5).toNat : Nat) : Int) by rw [hN 5 (by omega)]; omega) ?_
  refine x_ishl (z := ((2 ^ (v 5).toNat : Nat) : Int)) dX6_isSet_10 (b_shl7 _ (by omega)) ?_
  refine x_iconst dX6_isSet_11 ?_
  refine x_isub dX6_isSet_12 ?_
  refine x_i2l dX6_isSet_13 (by omega) ?_
  refine x_S3 mX6_122 dX6_isSet_14 (s_lies (by omega) ?_)
  exact x_zret dX6_isSet_17 (zi_01 _) (by rw [show zi (1 ≤ x ∧ x ≤ ((2 ^ (v 5).toNat : Nat) : Int) - 1) = zi (1 ≤ x ∧ x < ((2 ^ (v 5).toNat : Nat) : Int)) from zi_c (by omega)]; exact hP)

set_option maxRecDepth 20000 in
theorem fs_in {E : xE} {f : Nat → Nat} {D : Nat → Nat × Nat} {n : Nat} {m : xM} {P : xPo} {PX : xPx} {a c gp t : Nat} {l : List Nat} {Gd : Nat → Nat → Prop} (hg : m 98 1 = (gp : Int)) (hg2 : gp ≤ 240) (hcnt : 1440 + (((pcn a : Nat) : Int) - 1) * (gp : Int) = (c : Int)) (hc : c ≤ 2640) (ha64 : a < 64) (hM : lnM m l) (hl : inS a l) (hG : mgR m Gd a c) (ht : t < 1440) (hK : xX E (("firstStart", some .int, []), (0, 0, 0), P, PX) RX6 cX6_firstStart 4 0 0 58 [(0, vr E 96), (1, vi (t : Int)), (2, vi (zi (lnA Gd gp l t)))] [] (gS f D n) m) :
    ∀ (jj j : Nat), l.length < j + jj → j ≤ l.length → xX E (("firstStart", some .int, []), (0, 0, 0), P, PX) RX6 cX6_firstStart 4 0 0 13 [(0, vr E 96), (1, vi (t : Int)), (2, vi (zi (∀ q, q < j → Gd (l.getD q 0) (t + q * gp)))), (3, vi (j : Int))] [] (gS f D n) m := by
  have hl6 : l.length ≤ 6 := by have := rk_le a ha64 0 (by omega); have h2 := hl.1; by_cases h0 : a = 0; subst h0; have : pcn 0 = 0 := rfl; omega; have := pcn_b a ha64 (by omega); omega
  intro jj
  induction jj with
  | zero => intro j h1 h2; omega
  | succ jj ih =>
    intro j h1 h2
    refine x_iload_n dX6_firstStart_13 rfl ?_
    refine x_aload_n dX6_firstStart_14 rfl ?_
    refine x_getI fX6_360 dX6_firstStart_15 rfl ?_
    refine x_top (hM.1) ?_
    refine x_icmp_ge (tgt := 58) dX6_firstStart_18 (by decide) (by omega) (fun h18 => ?_) (fun h18 => ?_)
    · exact x_loc (lv' := [(0, vr E 96), (1, vi (t : Int)), (2, vi (zi (lnA Gd gp l t)))]) ⟨rfl, rfl, xl_i rfl (zi_c ⟨fun z q hq => z q (by omega), fun z q hq => z q (by omega)⟩), trivial⟩ hK
    · have hj : j < l.length := by omega
      have hls := hl.2 j hj
      have hin := ln_in hcnt hl hj ht
      refine x_iload_n dX6_firstStart_21 rfl ?_
      refine x_if_eq (tgt := 58) dX6_firstStart_22 (by decide) (zi_r _) (fun h22 => ?_) (fun h22 => ?_)
      · have hx := zi_0.mp h22
        exact x_loc (lv' := [(0, vr E 96), (1, vi (t : Int)), (2, vi (zi (lnA Gd gp l t)))]) ⟨rfl, rfl, xl_i rfl ((zi_f hx).trans (zi_f (fun z => hx (fun q hq => z q (by omega)))).symm), trivial⟩ hK
      · have hx := zi_1.mp h22
        refine x_aload_n dX6_firstStart_25 rfl ?_
        refine x_getR (r := 108) fX6_53 dX6_firstStart_26 rfl rfl ?_
        refine x_sipush dX6_firstStart_29 (h := ?_)
        refine x_aload_n dX6_firstStart_32 rfl ?_
        refine x_getR (r := 109) fX6_56 dX6_firstStart_33 rfl rfl ?_
        refine x_iload_n dX6_firstStart_36 rfl ?_
        refine x_iald (j := j) dX6_firstStart_37 rfl (by omega) (show _ < 6 by omega) (by omega) ?_
        refine x_top (hM.2 j hj) ?_
        refine x_imul dX6_firstStart_38 ?_
        refine x_iload_n dX6_firstStart_39 rfl ?_
        refine x_iadd dX6_firstStart_40 ?_
        refine x_iload_n dX6_firstStart_41 rfl ?_
        refine x_aload_n dX6_firstStart_42 rfl ?_
        refine x_getR (r := 98) fX6_17 dX6_firstStart_43 rfl rfl ?_
        refine x_iconst dX6_firstStart_46 ?_
        refine x_iald (j := 1) dX6_firstStart_47 rfl rfl (show 1 < 709 by omega) (by omega) ?_
        refine x_top (hg) ?_
        refine x_imul dX6_firstStart_48 ?_
        refine x_top (show (j : Int) * (gp : Int) = ((j * gp : Nat) : Int) by omega) ?_
        refine x_iadd dX6_firstStart_49 ?_
        refine x_zald (j := 2640 * l.getD j 0 + (t + j * gp)) dX6_firstStart_50 rfl (by omega) (show _ < 15840 by omega) (by omega) ?_
        refine x_top (hG (l.getD j 0) hls.1 hls.2 (t + j * gp) hin) ?_
        refine x_istore_n dX6_firstStart_51 ?_
        refine x_iinc dX6_firstStart_52 rfl ?_
        refine x_goto (tgt := 13) dX6_firstStart_55 (by decide) ?_
        exact x_loc (lv' := [(0, vr E 96), (1, vi (t : Int)), (2, vi (zi (∀ q, q < j + 1 → Gd (l.getD q 0) (t + q * gp)))), (3, vi ((j + 1 : Nat) : Int))]) ⟨rfl, rfl, xl_i rfl (zi_c ⟨fun z => lt_s hx z, fun z => z j (by omega)⟩), xl_i rfl (by omega), trivial⟩ (ih (j + 1) (by omega) (by omega))

set_option maxRecDepth 20000 in
theorem s_firstStart {E : xE} {f : Nat → Nat} {D : Nat → Nat × Nat} {n : Nat} {m : xM} {P : xPo} {PX : xPx} {a c gp : Nat} {l : List Nat} {Gd : Nat → Nat → Prop} (hg : m 98 1 = (gp : Int)) (hg2 : gp ≤ 240) (hcnt : 1440 + (((pcn a : Nat) : Int) - 1) * (gp : Int) = (c : Int)) (hc : c ≤ 2640) (ha64 : a < 64) (hM : lnM m l) (hl : inS a l) (hG : mgR m Gd a c) (hP : ∀ r, dayR (lnA Gd gp l) r → P (some (vi r)) (gS f D n) m) : xC E (yX6_firstStart, cX6_firstStart, 4, some .int) 0 0 0 [vr E 96] (gS f D n) m P PX := by
  refine x_enter (by decide) rfl rfl (Nat.le_of_ble_eq_true rfl) ?_
  have loop : ∀ (j t : Nat), 1440 < t + j → t ≤ 1440 → (∀ q, q < t → ¬ lnA Gd gp l q) → xX E (("firstStart", some .int, []), (0, 0, 0), P, PX) RX6 cX6_firstStart 4 0 0 2 [(0, vr E 96), (1, vi (t : Int))] [] (gS f D n) m := by
    intro j
    induction j with
    | zero => intro t h1 h2; omega
    | succ j ih =>
      intro t h1 h2 hn
      refine x_iload_n dX6_firstStart_2 rfl ?_
      refine x_sipush dX6_firstStart_3 (h := ?_)
      refine x_icmp_ge (tgt := 70) dX6_firstStart_6 (by decide) (by omega) (fun h6 => ?_) (fun h6 => ?_)
      · refine x_iconst dX6_firstStart_70 ?_
        exact x_iret dX6_firstStart_71  (hP (-1) (Or.inr ⟨fun q hq => hn q (by omega), rfl⟩))
      · refine x_iconst dX6_firstStart_9 ?_
        refine x_istore_n dX6_firstStart_10 ?_
        refine x_iconst dX6_firstStart_11 ?_
        refine x_istore_n dX6_firstStart_12 ?_
        refine x_loc (lv' := [(0, vr E 96), (1, vi (t : Int)), (2, vi (zi (∀ q, q < 0 → Gd (l.getD q 0) (t + q * gp)))), (3, vi ((0 : Nat) : Int))]) ⟨rfl, rfl, xl_i rfl (zi_t (fun q hq => absurd hq (Nat.not_lt_zero q))).symm, rfl, trivial⟩ (fs_in hg hg2 hcnt hc ha64 hM hl hG (by omega) ?_ (l.length + 1) 0 (by omega) (by omega))
        refine x_iload_n dX6_firstStart_58 rfl ?_
        refine x_if_eq (tgt := 64) dX6_firstStart_59 (by decide) (zi_r _) (fun h59 => ?_) (fun h59 => ?_)
        · have hx := zi_0.mp h59
          refine x_iinc dX6_firstStart_64 rfl ?_
          refine x_goto (tgt := 2) dX6_firstStart_67 (by decide) ?_
          exact x_loc (lv' := [(0, vr E 96), (1, vi ((t + 1 : Nat) : Int))]) ⟨rfl, xl_i rfl (by omega), trivial⟩ (ih (t + 1) (by omega) (by omega) (fun q hq => by rcases (by omega : q < t ∨ q = t) with y | y; exact hn q y; exact y ▸ hx))
        · have hx := zi_1.mp h59
          refine x_iload_n dX6_firstStart_62 rfl ?_
          exact x_iret dX6_firstStart_63  (hP t (Or.inl ⟨t, by omega, hx, hn, rfl⟩))
  refine x_iconst dX6_firstStart_0 ?_
  refine x_istore_n dX6_firstStart_1 ?_
  exact x_loc (lv' := [(0, vr E 96), (1, vi ((0 : Nat) : Int))]) ⟨rfl, rfl, trivial⟩ (loop 1441 0 (by omega) (by omega) (fun q hq => absurd hq (Nat.not_lt_zero q)))

end MG
