section CZ
theorem s_keepI2 {E : xE} {f : Nat → Nat} {D : Nat → Nat × Nat} {n : Nat} {m : xM} {P : xPo} {PX : xPx} {v : Nat → Int} {h : List (Nat → Int)} (hI : cI v h f D n m) (hP : ∀ m' f', cI v (psh h v) f' D n m' → kp [] m m' → (∀ c, 79 ≤ c → m' c = m c) → f' 82 = f 82 → P none (gS f' D n) m') : xC E (yX1_keep, cX1_keep, 2, none) 2 0 0 [vr E 45, vr E 41] (gS f D n) m P PX := by
  have hI0 := hI
  obtain ⟨i1, i2, i3, i5, i6, p, q1, q2, q3, q4, q5⟩ := hI
  refine s_keep q1 q2 q3 q4 (cF_10 i1.2.2) (fun m1 hcp => ?_)
  refine hP _ _ (hI0.keep q1 q2 hcp) ⟨fun c x y => ?_, ?_, fun j _ => ?_⟩ (fun c hc => ?_) (fu_n (by omega))
  · rw [xu_ne (by omega), xu_ne (by omega), hcp.1 c (by simp; omega)]
  · rw [xu_ne (by omega), xu_ne (by omega), hcp.1 79 (by simp; omega)]
  · rw [xu_ne (by omega), xu_ne (by omega), hcp.1 40 (by simp; omega)]
  · rw [xu_ne (by omega), xu_ne (by omega), hcp.1 c (by simp; omega)]
theorem rdO.hC {r : Nat → Int} {f : Nat → Nat} {D : Nat → Nat × Nat} {m : xM} (h : rdO r f D m) : hC 82 r f D m := by
  obtain ⟨a, b, c, d, e, g⟩ := h
  exact ⟨⟨⟨a 0 (by omega), a 1 (by omega), a 2 (by omega)⟩, ⟨a 3 (by omega), b⟩, ⟨a 4 (by omega), c⟩, ⟨a 5 (by omega), d⟩⟩, e, g⟩
set_option maxRecDepth 20000 in
theorem s_ctext {E : xE} {f : Nat → Nat} {D : Nat → Nat × Nat} {n : Nat} {m : xM} {P : xPo} {PX : xPx} {v : Nat → Int} {h : List (Nat → Int)} {x : Int} {p : Nat} (hL : eL E) (hI : cI v h f D n m) (hx : -2147483648 ≤ x ∧ x ≤ 2147483647) (hp : m 40 6 = (p : Int)) (hp6 : p ≤ 600) (hq : ∀ k, k < 600 → -128 ≤ m 79 k ∧ m 79 k ≤ 127) (hT : m 40 7 < 100000) (hX : ¬ (0 ≤ x ∧ x ≤ (p : Int)) → ∀ j, PX (xcls 1) (gS f D (n + j)) (crf m 1)) (hPA : 0 ≤ x ∧ x ≤ (p : Int) → (ptx (m 79) x.toNat).1 ≠ 0 → ∀ m' f', cI v h f' D n m' → kp [6, 8] m m' → m' 40 6 = 0 → m' 40 8 = ((ptx (m 79) x.toNat).2.1 : Int) → P (some (vi (((ptx (m 79) x.toNat).1 : Int) - 10))) (gS f' D n) m') (hPB : 0 ≤ x ∧ x ≤ (p : Int) → (ptx (m 79) x.toNat).1 = 0 → ∀ f' D' n' m', n ≤ n' → cI (vtx v (ptx (m 79) x.toNat).2.2.2 ((m 40 7).toNat + 1)) (psh h v) f' D' n' m' → kp [6, 7, 8] m m' → m' 40 6 = 0 → m' 40 8 = -1 → m' 40 7 = m 40 7 + 1 → P (some (vi ((ptx (m 79) x.toNat).2.2.2 4 + (ptx (m 79) x.toNat).2.2.2 5))) (gS f' D' n') m') : xC E (yX5_text, cX5_text, 3, some .int) 23 8 640 [vr E 40, vi x] (gS f D n) m P PX := by
  refine x_enter (by decide) rfl rfl (Nat.le_of_ble_eq_true rfl) ?_
  have hn112 := hI.2.2.2.1
  refine x_aload_n dX5_text_0 rfl ?_
  refine x_iload_n dX5_text_1 rfl ?_
  refine x_iconst dX5_text_2 ?_
  refine x_aload_n dX5_text_3 rfl ?_
  refine x_getI fX5_58 dX5_text_4 rfl ?_
  refine x_top (hp) ?_
  refine x_V3 mX5_65 dX5_text_7 rfl (s_needWithin hx (by omega) (by omega) hX (fun h1 => ?_))
  obtain ⟨a, rfl⟩ := nat_of h1.1
  refine x_aload_n dX5_text_10 rfl ?_
  refine x_iconst dX5_text_11 ?_
  refine x_putI fX5_58 dX5_text_12 rfl (by decide) rfl rfl ?_
  refine x_aload_n dX5_text_15 rfl ?_
  refine x_getR (r := 80) fX5_32 dX5_text_16 rfl rfl ?_
  refine x_iload_n dX5_text_19 rfl ?_
  refine x_V1 mX5_69 dX5_text_20 rfl (s_read (q := m 79) hL hI.2.2.2.1 (by omega) (fun k hk => ⟨by rw [xu_ne (by omega)], hq k (by omega)⟩) (fun hfl0 m1 ha1 h9 => ?_) (fun hfl f1 D1 n1 m1 hn1 hf1 hD1 hm1 hr1 => ?_))
  · have hfl : (ptx (m 79) a).1 ≠ 0 := hfl0.1
    have hfb := hfl0.2
    have e40 : m1 40 = xu m 40 6 0 40 := ha1 40 (by decide)
    have hIA : cI v h (fu f 82 2) D n (xu m1 40 8 ((ptx (m 79) a).2.1 : Int)) := hI.fr ⟨Nat.le_refl _, by rw [fu_s]; have := hI.2.2.2.1; omega⟩ (fun c hc => fu_n hc) (fun _ _ => rfl) (fun c hc h2 h3 => by rw [xu_ne h3, ha1 c h2, xu_ne h3]) (by rw [xu_if, if_neg (by omega), e40, xu_if, if_neg (by omega)])
    refine x_istore_n dX5_text_23 ?_
    refine x_iload_n dX5_text_24 rfl ?_
    refine x_if_eq (tgt := 44) dX5_text_25 (by decide) (by omega) (fun h25 => absurd hfl (by omega)) (fun h25 => ?_)
    refine x_aload_n dX5_text_28 rfl ?_
    refine x_aload_n dX5_text_29 rfl ?_
    refine x_getR (r := 80) fX5_32 dX5_text_30 rfl rfl ?_
    refine x_getI fX5_73 dX5_text_33 rfl ?_
    refine x_top (h9) ?_
    refine x_putI fX5_54 dX5_text_36 rfl (by decide) rfl rfl ?_
    refine x_iload_n dX5_text_39 rfl ?_
    refine x_bipush dX5_text_40 (h := ?_)
    refine x_isub dX5_text_42 ?_
    refine x_iret dX5_text_43 (hPA h1 hfl _ (fu f 82 2) hIA ⟨fun c y z => ?_, ?_, fun j hj => ?_⟩ (by rw [xu_if, if_neg (by omega), e40]; simp [xu_if]) (by simp [xu_if]))
    · rw [xu_ne (by omega), ha1 c (by simp; omega), xu_ne (by omega)]
    · rw [xu_ne (by omega), ha1 79 (by simp), xu_ne (by omega)]
    · simp at hj
      rw [xu_if, if_neg (by omega), e40, xu_if, if_neg (by omega)]
  · have hPB2 := hPB h1 hfl
    simp only [Int.toNat_natCast] at hPB2
    generalize hr : (ptx (m 79) a).2.2.2 = r at *
    have hrK : vOk r := by rw [← hr]; exact (ptx_K (by omega) hfl).1
    have e40 : m1 40 = xu m 40 6 0 40 := hm1 40 (by omega) (by decide)
    have e7 : xu m1 40 8 (-1) 40 7 = m 40 7 := by rw [xu_if, if_neg (by omega), e40, xu_if, if_neg (by omega)]
    have hIB : cI v h f1 D1 n1 (xu m1 40 8 (-1)) := hI.fr hn1 hf1 hD1 (fun c hc h2 h3 => by rw [xu_ne h3, hm1 c hc h2, xu_ne h3]) e7
    have h82 : hC 82 r f1 D1 (xu m1 40 8 (-1)) := hr1.hC.mv rfl rfl (xu_ne (by omega)) (xu_ne (by omega)) (xu_ne (by omega)) (xu_ne (by omega)) (fun z => xu_ne (by omega))
    refine x_istore_n dX5_text_23 ?_
    refine x_iload_n dX5_text_24 rfl ?_
    refine x_if_eq (tgt := 44) dX5_text_25 (by decide) (by omega) (fun h25 => ?_) (fun h25 => absurd rfl h25)
    refine x_aload_n dX5_text_44 rfl ?_
    refine x_iconst dX5_text_45 ?_
    refine x_putI fX5_54 dX5_text_46 rfl (by decide) rfl rfl ?_
    refine x_aload_n dX5_text_49 rfl ?_
    refine x_getR (r := 45) fX5_19 dX5_text_50 rfl rfl ?_
    refine x_aload_n dX5_text_53 rfl ?_
    refine x_getR (r := 41) fX5_10 dX5_text_54 rfl rfl ?_
    refine x_V1 mX5_74 dX5_text_57 rfl (s_keepI2 hIB (fun m2 f2 hI2 hk2 ho2 hf2 => ?_))
    have h82b : hC 82 r f2 D1 m2 := h82.mv hf2 rfl (ho2 _ (by omega)) (ho2 _ (by omega)) (ho2 _ (by omega)) (ho2 _ (by omega)) (fun z => ho2 _ (by omega))
    have e27 : m2 40 7 = m 40 7 := by rw [hk2.2.2 7 (by decide), e7]
    have h10 : 0 ≤ m2 82 10 ∧ m2 82 10 ≤ 1 := by rcases h82b.2.2 with ⟨q, -⟩ | q <;> omega
    refine x_aload_n dX5_text_60 rfl ?_
    refine x_dup dX5_text_61 vr_cat ?_
    refine x_getI fX5_77 dX5_text_62 rfl ?_
    refine x_iconst dX5_text_65 ?_
    refine x_iadd dX5_text_66 ?_
    refine x_putI fX5_77 dX5_text_67 rfl (by decide) rfl rfl ?_
    rw [e27]
    refine x_aload_n dX5_text_70 rfl ?_
    refine x_getR (r := 41) fX5_10 dX5_text_71 rfl rfl ?_
    refine x_aload_n dX5_text_74 rfl ?_
    refine x_getR (r := 80) fX5_32 dX5_text_75 rfl rfl ?_
    refine x_getR (r := 82) fX5_80 dX5_text_78 rfl rfl ?_
    refine x_V1 mX5_83 dX5_text_81 rfl (s_copyFrom (c := 41) (d := 82) (by decide) (by decide) (by decide) (fun m3 hcp => ?_) (by rw [xu_ne (by omega)]; exact h10))
    have hI3 := hI2.tx hrK h82b (by omega) rfl (by rw [e27]; exact hcp)
    rw [e27] at hI3
    have e37 : m3 40 7 = m 40 7 + 1 := by rw [hcp.1 40 (by decide)]; simp [xu_if]
    have hC3 := hI3.1.2.1.1
    refine x_aload_n dX5_text_84 rfl ?_
    refine x_getR (r := 41) fX5_10 dX5_text_85 rfl rfl ?_
    refine x_aload_n dX5_text_88 rfl ?_
    refine x_getI fX5_77 dX5_text_89 rfl ?_
    refine x_top (e37) ?_
    refine x_putI fX5_86 dX5_text_92 rfl (by decide) rfl rfl ?_
    refine x_aload_n dX5_text_95 rfl ?_
    refine x_getR (r := 41) fX5_10 dX5_text_96 rfl rfl ?_
    refine x_getI fX5_89 dX5_text_99 rfl ?_
    refine x_top (show _ = r 4 from hC3.2.2.1.1.trans (vtx_l (by omega))) ?_
    refine x_aload_n dX5_text_102 rfl ?_
    refine x_getR (r := 41) fX5_10 dX5_text_103 rfl rfl ?_
    refine x_getI fX5_92 dX5_text_106 rfl ?_
    refine x_top (show _ = r 5 from hC3.2.2.2.1.trans (vtx_l (by omega))) ?_
    refine x_iadd dX5_text_109 ?_
    refine x_iret dX5_text_110 (hPB2 _ D1 n1 _ hn1.1 hI3 ⟨fun c y z => ?_, ?_, fun j hj => ?_⟩ ?_ ?_ ?_)
    · rw [xu_ne (by omega), hcp.1 c (by simp; omega), xu_ne (by omega), ho2 c (by omega), xu_ne (by omega), hm1 c (by omega) (by simp; omega), xu_ne (by omega)]
    · rw [xu_ne (by omega), hcp.1 79 (by simp), xu_ne (by omega), ho2 79 (by omega), xu_ne (by omega), hm1 79 (by omega) (by simp), xu_ne (by omega)]
    · simp at hj
      rw [xu_ne (by omega), hcp.1 40 (by simp), xu_if, if_neg (by omega), hk2.2.2 j (by simp), xu_if, if_neg (by omega), e40, xu_if, if_neg (by omega)]
    · rw [xu_ne (by omega), hcp.1 40 (by simp), xu_if, if_neg (by omega), hk2.2.2 6 (by simp), xu_if, if_neg (by omega), e40]; simp [xu_if]
    · rw [xu_ne (by omega), hcp.1 40 (by simp), xu_if, if_neg (by omega), hk2.2.2 8 (by simp)]; simp [xu_if]
    · rw [xu_ne (by omega)]; exact e37
end CZ
