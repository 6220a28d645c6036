section CN
/-- the exceptions by their counts; the memory behind one -/
def xcls : Nat → String
  | 0 => xNSE
  | 1 => xIAE
  | _ => xISE
def crf (m : xM) (q : Nat) : xM := xu m 40 (9 + q) (m 40 (9 + q) + 1)
theorem b_shl6 : ∀ s : Nat, s ≤ 6 → Int32.ofInt 1 <<< (Int32.ofInt (s : Int) &&& 31) = Int32.ofInt ((2 ^ s : Nat) : Int) := by decide +kernel
set_option maxRecDepth 20000 in
theorem s_needWithin {E : xE} {f : Nat → Nat} {D : Nat → Nat × Nat} {n : Nat} {m : xM} {P : xPo} {PX : xPx} {x a b : Int} (hx : -2147483648 ≤ x ∧ x ≤ 2147483647) (ha : -2147483648 ≤ a ∧ a ≤ 2147483647) (hb : -2147483648 ≤ b ∧ b ≤ 2147483647) (hX : ¬ (a ≤ x ∧ x ≤ b) → ∀ j, PX (xcls 1) (gS f D (n + j)) (crf m 1)) (hP : a ≤ x ∧ x ≤ b → P none (gS f D n) m) : xC E (yX5_needWithin, cX5_needWithin, 4, none) 7 1 6 [vr E 40, vi x, vi a, vi b] (gS f D n) m P PX := by
  refine x_enter (by decide) rfl rfl (Nat.le_of_ble_eq_true rfl) ?_
  refine x_iload_n dX5_needWithin_0 rfl ?_
  refine x_iload_n dX5_needWithin_1 rfl ?_
  refine x_icmp_lt (tgt := 10) dX5_needWithin_2 (by decide) (by omega) (fun h2 => ?_) (fun h2 => ?_)
  · refine x_aload_n dX5_needWithin_10 rfl ?_
    exact x_V0 mX5_252 dX5_needWithin_11 rfl (s_refuseNumber (hX (by omega)))
  · refine x_iload_n dX5_needWithin_5 rfl ?_
    refine x_iload_n dX5_needWithin_6 rfl ?_
    refine x_icmp_le (tgt := 14) dX5_needWithin_7 (by decide) (by omega) (fun h7 => ?_) (fun h7 => ?_)
    · exact x_vret dX5_needWithin_14 (hP (by omega))
    · refine x_aload_n dX5_needWithin_10 rfl ?_
      exact x_V0 mX5_252 dX5_needWithin_11 rfl (s_refuseNumber (hX (by omega)))

set_option maxRecDepth 20000 in
theorem s_needShip {E : xE} {f : Nat → Nat} {D : Nat → Nat × Nat} {n : Nat} {m : xM} {P : xPo} {PX : xPx} {v : Nat → Int} {x : Int} (hx : -2147483648 ≤ x ∧ x ≤ 2147483647) (hv : 0 ≤ v 5 ∧ v 5 ≤ 6) (hC : cC v m) (hX : ¬ (0 ≤ x ∧ x < v 5) → ∀ j, PX (xcls 0) (gS f D (n + j)) (crf m 0)) (hP : 0 ≤ x ∧ x < v 5 → P none (gS f D n) m) : xC E (yX5_needShip, cX5_needShip, 2, none) 7 1 6 [vr E 40, vi x] (gS f D n) m P PX := by
  refine x_enter (by decide) rfl rfl (Nat.le_of_ble_eq_true rfl) ?_
  refine x_iload_n dX5_needShip_0 rfl ?_
  refine x_if_lt (tgt := 15) dX5_needShip_1 (by decide) (by omega) (fun h1 => ?_) (fun h1 => ?_)
  · refine x_aload_n dX5_needShip_15 rfl ?_
    exact x_V0 mX5_159 dX5_needShip_16 rfl (s_refuseMissing (hX (by omega)))
  · refine x_iload_n dX5_needShip_4 rfl ?_
    refine x_aload_n dX5_needShip_5 rfl ?_
    refine x_getR (r := 41) fX5_10 dX5_needShip_6 rfl rfl ?_
    refine x_getI fX5_92 dX5_needShip_9 rfl ?_
    refine x_top (hC.2.2.2.1) ?_
    refine x_icmp_lt (tgt := 19) dX5_needShip_12 (by decide) (by omega) (fun h12 => ?_) (fun h12 => ?_)
    · exact x_vret dX5_needShip_19 (hP (by omega))
    · refine x_aload_n dX5_needShip_15 rfl ?_
      exact x_V0 mX5_159 dX5_needShip_16 rfl (s_refuseMissing (hX (by omega)))

set_option maxRecDepth 20000 in
theorem s_needBar {E : xE} {f : Nat → Nat} {D : Nat → Nat × Nat} {n : Nat} {m : xM} {P : xPo} {PX : xPx} {v : Nat → Int} {x : Int} (hx : -2147483648 ≤ x ∧ x ≤ 2147483647) (hv : 0 ≤ v 4 ∧ v 4 ≤ 6) (hC : cC v m) (hX : ¬ (0 ≤ x ∧ x < v 4) → ∀ j, PX (xcls 0) (gS f D (n + j)) (crf m 0)) (hP : 0 ≤ x ∧ x < v 4 → P none (gS f D n) m) : xC E (yX5_needBar, cX5_needBar, 2, none) 7 1 6 [vr E 40, vi x] (gS f D n) m P PX := by
  refine x_enter (by decide) rfl rfl (Nat.le_of_ble_eq_true rfl) ?_
  refine x_iload_n dX5_needBar_0 rfl ?_
  refine x_if_lt (tgt := 15) dX5_needBar_1 (by decide) (by omega) (fun h1 => ?_) (fun h1 => ?_)
  · refine x_aload_n dX5_needBar_15 rfl ?_
    exact x_V0 mX5_159 dX5_needBar_16 rfl (s_refuseMissing (hX (by omega)))
  · refine x_iload_n dX5_needBar_4 rfl ?_
    refine x_aload_n dX5_needBar_5 rfl ?_
    refine x_getR (r := 41) fX5_10 dX5_needBar_6 rfl rfl ?_
    refine x_getI fX5_89 dX5_needBar_9 rfl ?_
    refine x_top (hC.2.2.1.1) ?_
    refine x_icmp_lt (tgt := 19) dX5_needBar_12 (by decide) (by omega) (fun h12 => ?_) (fun h12 => ?_)
    · exact x_vret dX5_needBar_19 (hP (by omega))
    · refine x_aload_n dX5_needBar_15 rfl ?_
      exact x_V0 mX5_159 dX5_needBar_16 rfl (s_refuseMissing (hX (by omega)))

set_option maxRecDepth 20000 in
theorem s_needMinute {E : xE} {f : Nat → Nat} {D : Nat → Nat × Nat} {n : Nat} {m : xM} {P : xPo} {PX : xPx} {x : Int} (hx : -2147483648 ≤ x ∧ x ≤ 2147483647) (hX : ¬ (0 ≤ x ∧ x ≤ 10000) → ∀ j, PX (xcls 1) (gS f D (n + j)) (crf m 1)) (hP : 0 ≤ x ∧ x ≤ 10000 → P none (gS f D n) m) : xC E (yX5_needMinute, cX5_needMinute, 2, none) 8 1 6 [vr E 40, vi x] (gS f D n) m P PX := by
  refine x_enter (by decide) rfl rfl (Nat.le_of_ble_eq_true rfl) ?_
  refine x_aload_n dX5_needMinute_0 rfl ?_
  refine x_iload_n dX5_needMinute_1 rfl ?_
  refine x_iconst dX5_needMinute_2 ?_
  refine x_sipush dX5_needMinute_3 (h := ?_)
  refine x_V3 mX5_65 dX5_needMinute_6 rfl (s_needWithin hx (by omega) (by omega) hX (fun hp => ?_))
  exact x_vret dX5_needMinute_9 (hP hp)

set_option maxRecDepth 20000 in
theorem s_needSpeed {E : xE} {f : Nat → Nat} {D : Nat → Nat × Nat} {n : Nat} {m : xM} {P : xPo} {PX : xPx} {x : Int} (hx : -2147483648 ≤ x ∧ x ≤ 2147483647) (hX : ¬ (4 ≤ x ∧ x ≤ 25) → ∀ j, PX (xcls 1) (gS f D (n + j)) (crf m 1)) (hP : 4 ≤ x ∧ x ≤ 25 → P none (gS f D n) m) : xC E (yX5_needSpeed, cX5_needSpeed, 2, none) 8 1 6 [vr E 40, vi x] (gS f D n) m P PX := by
  refine x_enter (by decide) rfl rfl (Nat.le_of_ble_eq_true rfl) ?_
  refine x_aload_n dX5_needSpeed_0 rfl ?_
  refine x_iload_n dX5_needSpeed_1 rfl ?_
  refine x_iconst dX5_needSpeed_2 ?_
  refine x_bipush dX5_needSpeed_3 (h := ?_)
  refine x_V3 mX5_65 dX5_needSpeed_5 rfl (s_needWithin hx (by omega) (by omega) hX (fun hp => ?_))
  exact x_vret dX5_needSpeed_8 (hP hp)

set_option maxRecDepth 20000 in
theorem s_needShipAtBar {E : xE} {f : Nat → Nat} {D : Nat → Nat × Nat} {n : Nat} {m : xM} {P : xPo} {PX : xPx} {v : Nat → Int} {x y z w : Int} (hx : -2147483648 ≤ x ∧ x ≤ 2147483647) (hy : -2147483648 ≤ y ∧ y ≤ 2147483647) (hz : -2147483648 ≤ z ∧ z ≤ 2147483647) (hw : -2147483648 ≤ w ∧ w ≤ 2147483647) (hv : vOk0 v) (hC : cC v m) (hX : ∀ k q, rf2 ((0 ≤ x ∧ x < v 5) ∧ (0 ≤ y ∧ y < v 4)) ((0 ≤ z ∧ z ≤ 10000) ∧ (4 ≤ w ∧ w ≤ 25)) 0 1 k q → ∀ j, PX (xcls q) (gS f D (n + j)) (crf m q)) (hP : (0 ≤ x ∧ x < v 5) ∧ (0 ≤ y ∧ y < v 4) → (0 ≤ z ∧ z ≤ 10000) ∧ (4 ≤ w ∧ w ≤ 25) → P none (gS f D n) m) : xC E (yX5_needShipAtBar, cX5_needShipAtBar, 5, none) 9 4 24 [vr E 40, vi x, vi y, vi z, vi w] (gS f D n) m P PX := by
  refine x_enter (by decide) rfl rfl (Nat.le_of_ble_eq_true rfl) ?_
  refine x_aload_n dX5_needShipAtBar_0 rfl ?_
  refine x_iload_n dX5_needShipAtBar_1 rfl ?_
  refine x_V1 mX5_106 dX5_needShipAtBar_2 rfl (s_needShip hx hv.2.2.2.2.2.1 hC (fun hn => hX 1 0 (Or.inl ⟨fun zz => hn zz.1, rfl, rfl⟩)) (fun h1 => ?_))
  refine x_aload_n dX5_needShipAtBar_5 rfl ?_
  refine x_iload_n dX5_needShipAtBar_6 rfl ?_
  refine x_V1 mX5_95 dX5_needShipAtBar_7 rfl (s_needBar hy hv.2.2.2.2.1.1 hC (fun hn => hX 1 0 (Or.inl ⟨fun zz => hn zz.2, rfl, rfl⟩)) (fun h2 => ?_))
  refine x_aload_n dX5_needShipAtBar_10 rfl ?_
  refine x_iload_n dX5_needShipAtBar_11 rfl ?_
  refine x_V1 mX5_165 dX5_needShipAtBar_12 rfl (s_needMinute hz (fun hn => hX 2 1 (Or.inr ⟨⟨h1, h2⟩, fun zz => hn zz.1, rfl, rfl⟩)) (fun h3 => ?_))
  refine x_aload_n dX5_needShipAtBar_15 rfl ?_
  refine x_iload dX5_needShipAtBar_16 rfl ?_
  refine x_V1 mX5_205 dX5_needShipAtBar_18 rfl (s_needSpeed hw (fun hn => hX 2 1 (Or.inr ⟨⟨h1, h2⟩, fun zz => hn zz.2, rfl, rfl⟩)) (fun h4 => ?_))
  exact x_vret dX5_needShipAtBar_21 (hP ⟨h1, h2⟩ ⟨h3, h4⟩)

set_option maxRecDepth 20000 in
theorem s_needPassage {E : xE} {f : Nat → Nat} {D : Nat → Nat × Nat} {n : Nat} {m : xM} {P : xPo} {PX : xPx} {v : Nat → Int} {x y z : Int} (hx : -2147483648 ≤ x ∧ x ≤ 2147483647) (hy : -2147483648 ≤ y ∧ y ≤ 2147483647) (hz : -2147483648 ≤ z ∧ z ≤ 2147483647) (hv : vOk0 v) (hC : cC v m) (hX : ∀ k q, rf2 (0 ≤ x ∧ x < v 5) ((0 ≤ y ∧ y ≤ 10000) ∧ (4 ≤ z ∧ z ≤ 25)) 0 1 k q → ∀ j, PX (xcls q) (gS f D (n + j)) (crf m q)) (hP : 0 ≤ x ∧ x < v 5 → (0 ≤ y ∧ y ≤ 10000) ∧ (4 ≤ z ∧ z ≤ 25) → P none (gS f D n) m) : xC E (yX5_needPassage, cX5_needPassage, 4, none) 9 3 18 [vr E 40, vi x, vi y, vi z] (gS f D n) m P PX := by
  refine x_enter (by decide) rfl rfl (Nat.le_of_ble_eq_true rfl) ?_
  refine x_aload_n dX5_needPassage_0 rfl ?_
  refine x_iload_n dX5_needPassage_1 rfl ?_
  refine x_V1 mX5_106 dX5_needPassage_2 rfl (s_needShip hx hv.2.2.2.2.2.1 hC (fun hn => hX 1 0 (Or.inl ⟨hn, rfl, rfl⟩)) (fun h1 => ?_))
  refine x_aload_n dX5_needPassage_5 rfl ?_
  refine x_iload_n dX5_needPassage_6 rfl ?_
  refine x_V1 mX5_165 dX5_needPassage_7 rfl (s_needMinute hy (fun hn => hX 2 1 (Or.inr ⟨h1, fun zz => hn zz.1, rfl, rfl⟩)) (fun h3 => ?_))
  refine x_aload_n dX5_needPassage_10 rfl ?_
  refine x_iload_n dX5_needPassage_11 rfl ?_
  refine x_V1 mX5_205 dX5_needPassage_12 rfl (s_needSpeed hz (fun hn => hX 2 1 (Or.inr ⟨h1, fun zz => hn zz.2, rfl, rfl⟩)) (fun h4 => ?_))
  exact x_vret dX5_needPassage_15 (hP h1 ⟨h3, h4⟩)

set_option maxRecDepth 20000 in
theorem s_needConvoy {E : xE} {f : Nat → Nat} {D : Nat → Nat × Nat} {n : Nat} {m : xM} {P : xPo} {PX : xPx} {v : Nat → Int} {x y z : Int} (hx : -2147483648 ≤ x ∧ x ≤ 2147483647) (hy : -2147483648 ≤ y ∧ y ≤ 2147483647) (hz : -2147483648 ≤ z ∧ z ≤ 2147483647) (hv : vOk0 v) (hC : cC v m) (hX : ¬ ((1 ≤ x ∧ x < ((2 ^ (v 5).toNat : Nat) : Int)) ∧ (4 ≤ y ∧ y ≤ 25) ∧ (0 ≤ z ∧ z ≤ 10000)) → ∀ j, PX (xcls 1) (gS f D (n + j)) (crf m 1)) (hP : (1 ≤ x ∧ x < ((2 ^ (v 5).toNat : Nat) : Int)) ∧ (4 ≤ y ∧ y ≤ 25) ∧ (0 ≤ z ∧ z ≤ 10000) → P none (gS f D n) m) : xC E (yX5_needConvoy, cX5_needConvoy, 4, none) 9 3 18 [vr E 40, vi x, vi y, vi z] (gS f D n) m P PX := by
  refine x_enter (by decide) rfl rfl (Nat.le_of_ble_eq_true rfl) ?_
  have hv5 := hv.2.2.2.2.2.1
  have h64 := p2_6 (v 5).toNat (by omega)
  have h65 : (0 : Int) ≤ ((2 ^ (v 5).toNat : Nat) : Int) := Int.natCast_nonneg _
  refine x_aload_n dX5_needConvoy_0 rfl ?_
  refine x_iload_n dX5_needConvoy_1 rfl ?_
  refine x_iconst dX5_needConvoy_2 ?_
  refine x_iconst dX5_needConvoy_3 ?_
  refine x_aload_n dX5_needConvoy_4 rfl ?_
  refine x_getR (r := 41) fX5_10 dX5_needConvoy_5 rfl rfl ?_
  refine x_getI fX5_92 dX5_needConvoy_8 rfl ?_
  refine x_top (show m 41 5 = (((v 5).toNat : Nat) : Int) by rw [hC.2.2.2.1]; omega) ?_
  refine x_ishl (z := ((2 ^ (v 5).toNat : Nat) : Int)) dX5_needConvoy_11 (b_shl6 (v 5).toNat (by omega)) ?_
  refine x_iconst dX5_needConvoy_12 ?_
  refine x_isub dX5_needConvoy_13 ?_
  refine x_V3 mX5_65 dX5_needConvoy_14 rfl (s_needWithin hx (by omega) (by omega) (fun hn => hX (fun zz => hn ⟨zz.1.1, by have := zz.1.2; omega⟩)) (fun h1 => ?_))
  refine x_aload_n dX5_needConvoy_17 rfl ?_
  refine x_iload_n dX5_needConvoy_18 rfl ?_
  refine x_V1 mX5_205 dX5_needConvoy_19 rfl (s_needSpeed hy (fun hn => hX (fun zz => hn zz.2.1)) (fun h2 => ?_))
  refine x_aload_n dX5_needConvoy_22 rfl ?_
  refine x_iload_n dX5_needConvoy_23 rfl ?_
  refine x_V1 mX5_165 dX5_needConvoy_24 rfl (s_needMinute hz (fun hn => hX (fun zz => hn zz.2.2)) (fun h3 => ?_))
  exact x_vret dX5_needConvoy_27 (hP ⟨⟨h1.1, by have := h1.2; omega⟩, h2, h3⟩)

set_option maxRecDepth 20000 in
theorem s_needEdge {E : xE} {f : Nat → Nat} {D : Nat → Nat × Nat} {n : Nat} {m : xM} {P : xPo} {PX : xPx} {k w : Int} (hk : -2147483648 ≤ k ∧ k ≤ 2147483647) (hw : -2147483648 ≤ w ∧ w ≤ 2147483647) (hX : ¬ edg k w → ∀ j, PX (xcls 1) (gS f D (n + j)) (crf m 1)) (hP : edg k w → P none (gS f D n) m) : xC E (yX5_needEdge, cX5_needEdge, 3, none) 8 1 6 [vr E 40, vi k, vi w] (gS f D n) m P PX := by
  refine x_enter (by decide) rfl rfl (Nat.le_of_ble_eq_true rfl) ?_
  refine x_aload_n dX5_needEdge_0 rfl ?_
  refine x_iload_n dX5_needEdge_1 rfl ?_
  refine x_iconst dX5_needEdge_2 ?_
  refine x_iload_n dX5_needEdge_3 rfl ?_
  refine x_iconst dX5_needEdge_4 ?_
  refine x_icmp_ne (tgt := 12) dX5_needEdge_5 (by decide) (by omega) (fun h5 => ?_) (fun h5 => ?_)
  · refine x_iconst dX5_needEdge_12 ?_
    refine x_V3 mX5_65 dX5_needEdge_13 rfl (s_needWithin hw (by omega) (by omega) (fun hn => hX (fun zz => hn (by unfold edg at zz; rw [if_neg (by omega)] at zz; exact zz))) (fun h1 => ?_))
    exact x_vret dX5_needEdge_16 (hP (by unfold edg; rw [if_neg (by omega)]; exact h1))
  · refine x_iconst dX5_needEdge_8 ?_
    refine x_goto (tgt := 13) dX5_needEdge_9 (by decide) ?_
    refine x_V3 mX5_65 dX5_needEdge_13 rfl (s_needWithin hw (by omega) (by omega) (fun hn => hX (fun zz => hn (by unfold edg at zz; rw [if_pos (by omega)] at zz; exact zz))) (fun h1 => ?_))
    exact x_vret dX5_needEdge_16 (hP (by unfold edg; rw [if_pos (by omega)]; exact h1))

end CN
