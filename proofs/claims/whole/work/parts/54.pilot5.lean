section PM
def us (x y : Int32) : Int32 := (x.toUInt32 >>> (y.toUInt32 &&& Int32.toUInt32 31)).toInt32
def bc1 (x : Int32) : Int32 := x - (us x (Int32.ofInt 1) &&& Int32.ofInt 1431655765)
def bc2 (x : Int32) : Int32 := (x &&& Int32.ofInt 858993459) + (us x (Int32.ofInt 2) &&& Int32.ofInt 858993459)
def bc3 (x : Int32) : Int32 := (x + us x (Int32.ofInt 4)) &&& Int32.ofInt 252645135
def bc4 (x : Int32) : Int32 := x + us x (Int32.ofInt 8)
def bc5 (x : Int32) : Int32 := x + us x (Int32.ofInt 16)
theorem bc_ok : ∀ a : Nat, a < 64 → bc5 (bc4 (bc3 (bc2 (bc1 (Int32.ofInt (a : Int)))))) &&& Int32.ofInt 63 = Int32.ofInt ((pcn a : Nat) : Int) := by decide +kernel
theorem ac_p2 : ∀ s : Nat, s < 6 → ac (2 ^ s) s = 0 ∧ 2 ^ s ≠ 0 := by decide +kernel
theorem tb_nz : ∀ a : Nat, a < 64 → (a ≠ 0 ↔ ∃ t, t < 6 ∧ tb a t = 1) := by decide +kernel
set_option maxRecDepth 20000 in
theorem s_bitCount {E : xE} {g : xG} {m : xM} {P : xPo} {PX : xPx} {a : Nat} (ha : a < 64) (hP : P (some (vi ((pcn a : Nat) : Int))) g m) : xC E (yJ6_bitCount_0f7a4, cJ6_bitCount_0f7a4, 1, some .int) 0 0 0 [vi (a : Int)] g m P PX := by
  refine x_enterF (by decide +kernel) rfl rfl (Nat.le_of_ble_eq_true rfl) ?_
  refine x_iload_n dJ6_bitCount_0f7a4_0 rfl ?_
  refine x_iload_n dJ6_bitCount_0f7a4_1 rfl ?_
  refine x_iconst dJ6_bitCount_0f7a4_2 ?_
  refine x_iushr (z := _) dJ6_bitCount_0f7a4_3 ((Int32.ofInt_toInt _).symm) ?_
  refine x_ldc_w kJ6_265 dJ6_bitCount_0f7a4_4 ?_
  refine x_iand (z := _) dJ6_bitCount_0f7a4_7 ((Int32.ofInt_toInt _).symm) ?_
  refine x_isub dJ6_bitCount_0f7a4_8 ?_
  refine x_topv (w' := vi (bc1 (Int32.ofInt (a : Int))).toInt) (by unfold vi; congr 1; rw [Int32.ofInt_toInt]; simp only [Int32.ofInt_add, Int32.ofInt_sub, Int32.ofInt_toInt]; rfl) ?_
  refine x_istore_n dJ6_bitCount_0f7a4_9 ?_
  refine x_iload_n dJ6_bitCount_0f7a4_10 rfl ?_
  refine x_ldc_w kJ6_266 dJ6_bitCount_0f7a4_11 ?_
  refine x_iand (z := _) dJ6_bitCount_0f7a4_14 ((Int32.ofInt_toInt _).symm) ?_
  refine x_iload_n dJ6_bitCount_0f7a4_15 rfl ?_
  refine x_iconst dJ6_bitCount_0f7a4_16 ?_
  refine x_iushr (z := _) dJ6_bitCount_0f7a4_17 ((Int32.ofInt_toInt _).symm) ?_
  refine x_ldc_w kJ6_266 dJ6_bitCount_0f7a4_18 ?_
  refine x_iand (z := _) dJ6_bitCount_0f7a4_21 ((Int32.ofInt_toInt _).symm) ?_
  refine x_iadd dJ6_bitCount_0f7a4_22 ?_
  refine x_topv (w' := vi (bc2 (bc1 (Int32.ofInt (a : Int)))).toInt) (by unfold vi; congr 1; rw [Int32.ofInt_toInt]; simp only [Int32.ofInt_add, Int32.ofInt_sub, Int32.ofInt_toInt]; rfl) ?_
  refine x_istore_n dJ6_bitCount_0f7a4_23 ?_
  refine x_iload_n dJ6_bitCount_0f7a4_24 rfl ?_
  refine x_iload_n dJ6_bitCount_0f7a4_25 rfl ?_
  refine x_iconst dJ6_bitCount_0f7a4_26 ?_
  refine x_iushr (z := _) dJ6_bitCount_0f7a4_27 ((Int32.ofInt_toInt _).symm) ?_
  refine x_iadd dJ6_bitCount_0f7a4_28 ?_
  refine x_ldc_w kJ6_267 dJ6_bitCount_0f7a4_29 ?_
  refine x_iand (z := _) dJ6_bitCount_0f7a4_32 ((Int32.ofInt_toInt _).symm) ?_
  refine x_topv (w' := vi (bc3 (bc2 (bc1 (Int32.ofInt (a : Int))))).toInt) (by unfold vi; congr 1; rw [Int32.ofInt_toInt]; simp only [Int32.ofInt_add, Int32.ofInt_sub, Int32.ofInt_toInt]; rfl) ?_
  refine x_istore_n dJ6_bitCount_0f7a4_33 ?_
  refine x_iload_n dJ6_bitCount_0f7a4_34 rfl ?_
  refine x_iload_n dJ6_bitCount_0f7a4_35 rfl ?_
  refine x_bipush dJ6_bitCount_0f7a4_36 (h := ?_)
  refine x_iushr (z := _) dJ6_bitCount_0f7a4_38 ((Int32.ofInt_toInt _).symm) ?_
  refine x_iadd dJ6_bitCount_0f7a4_39 ?_
  refine x_topv (w' := vi (bc4 (bc3 (bc2 (bc1 (Int32.ofInt (a : Int)))))).toInt) (by unfold vi; congr 1; rw [Int32.ofInt_toInt]; simp only [Int32.ofInt_add, Int32.ofInt_sub, Int32.ofInt_toInt]; rfl) ?_
  refine x_istore_n dJ6_bitCount_0f7a4_40 ?_
  refine x_iload_n dJ6_bitCount_0f7a4_41 rfl ?_
  refine x_iload_n dJ6_bitCount_0f7a4_42 rfl ?_
  refine x_bipush dJ6_bitCount_0f7a4_43 (h := ?_)
  refine x_iushr (z := _) dJ6_bitCount_0f7a4_45 ((Int32.ofInt_toInt _).symm) ?_
  refine x_iadd dJ6_bitCount_0f7a4_46 ?_
  refine x_topv (w' := vi (bc5 (bc4 (bc3 (bc2 (bc1 (Int32.ofInt (a : Int))))))).toInt) (by unfold vi; congr 1; rw [Int32.ofInt_toInt]; simp only [Int32.ofInt_add, Int32.ofInt_sub, Int32.ofInt_toInt]; rfl) ?_
  refine x_istore_n dJ6_bitCount_0f7a4_47 ?_
  refine x_iload_n dJ6_bitCount_0f7a4_48 rfl ?_
  refine x_bipush dJ6_bitCount_0f7a4_49 (h := ?_)
  refine x_iand (z := ((pcn a : Nat) : Int)) dJ6_bitCount_0f7a4_51 (by rw [Int32.ofInt_toInt]; exact bc_ok a ha) ?_
  exact x_iret dJ6_bitCount_0f7a4_52  (hP)

set_option maxRecDepth 20000 in
theorem s_findPassable {E : xE} {f : Nat → Nat} {D : Nat → Nat × Nat} {n : Nat} {m : xM} {P : xPo} {PX : xPx} {v : Nat → Int} {s b : Nat} {sp t : Int} (hE : eOk E) (hV : cV v f D m) (hs : (s : Int) < v 5) (hb : (b : Int) < v 4) (hsp : 4 ≤ sp ∧ sp ≤ 25) (ht : 0 ≤ t ∧ t ≤ 10000) (hP : ∀ m', ag [86, 87, 89, 90, 91, 92] m m' → cT v m' → (∀ i : Nat, i < 1440 → 0 ≤ m' 92 i ∧ m' 92 i < 64 ∧ (m' 92 i ≠ 0 ↔ pas v s (sh v s 0) b (t + i) sp)) → P none (gS f D n) m') : xC E (yX2_findPassable, cX2_findPassable, 5, none) 6 0 0 [vr E 88, vi (s : Int), vi (b : Int), vi sp, vi t] (gS f D n) m P PX := by
  refine x_enter (by decide) rfl rfl (Nat.le_of_ble_eq_true rfl) ?_
  have hv5 := hV.1.1.2.2.2.2.2.1
  have hp2 := tb_p2 s (by omega)
  have hac := ac_p2 s (by omega)
  refine x_aload_n dX2_findPassable_0 rfl ?_
  refine x_getR (r := 92) fX2_22 dX2_findPassable_1 rfl rfl ?_
  refine x_iconst dX2_findPassable_4 ?_
  refine x_iload_n dX2_findPassable_5 rfl ?_
  refine x_ishl (z := ((2 ^ s : Nat) : Int)) dX2_findPassable_6 (b_shl1 s (by omega)) ?_
  refine x_S2 mX2_111 dX2_findPassable_7 (s_fillI (L := 2640) rfl rfl (by decide) (by decide) ?_)
  have ha1 : ag [92] m (xfill m 92 ((2 ^ s : Nat) : Int) 2640) := ag.fill ag.rf (by decide)
  refine x_aload_n dX2_findPassable_10 rfl ?_
  refine x_iload_n dX2_findPassable_11 rfl ?_
  refine x_iload_n dX2_findPassable_12 rfl ?_
  refine x_iload_n dX2_findPassable_13 rfl ?_
  refine x_iload dX2_findPassable_14 rfl ?_
  refine x_sipush dX2_findPassable_16 (h := ?_)
  refine x_V5 mX2_117 dX2_findPassable_19 rfl (s_dropUnpassable (c := 1440) (Q := fun _ => 2 ^ s) hE (hV.ag ha1 (by decide) (by decide) (by decide) (by decide) (by decide) (by decide) (by decide)) hs hb hsp (by omega) (by omega) (fun i hi => ⟨xfill_in hi, hp2.1⟩) (fun m2 Q2 ha2 hT2 hq2 hd2 => ?_))
  exact x_vret dX2_findPassable_22 (hP m2 (ha1.tr ha2 (by decide) (by decide)) hT2 (fun i hi => by
    have h1 := hq2 i (by omega)
    have h2 := hd2 i hi
    refine ⟨by omega, by omega, ?_⟩
    rcases Classical.em (pas v s (sh v s 0) b (t + i) sp) with z | z
    · have := h2.1 z
      exact ⟨fun _ => z, fun _ => by rw [h1.1, this]; omega⟩
    · have := h2.2 z
      rw [hac.1] at this
      exact ⟨fun q => absurd (by rw [h1.1, this]; rfl) q, fun q => absurd q z⟩))

set_option maxRecDepth 20000 in
theorem s_findGood {E : xE} {f : Nat → Nat} {D : Nat → Nat × Nat} {n : Nat} {m : xM} {P : xPo} {PX : xPx} {v : Nat → Int} {a c : Nat} {sp t : Int} (hE : eOk E) (hV : cV v f D m) (ha64 : a < 64) (ha0 : 0 < a) (hset : ∀ u, u < 6 → tb a u = 1 → (u : Int) < v 5) (hcnt : 1440 + (((pcn a : Nat) : Int) - 1) * v 1 = (c : Int)) (hsp : 4 ≤ sp ∧ sp ≤ 25) (ht : 0 ≤ t ∧ t ≤ 10000)
    (hP : ∀ m' (Q : Nat → Nat), ag [86, 87, 89, 90, 91, 92] m m' → cT v m' → (∀ i, i < 2640 → m' 92 i = (Q i : Int) ∧ Q i < 64) → (∀ i : Nat, i < c → ∀ u, u < 6 → (tb (Q i) u = 1 ↔ tb a u = 1 ∧ good v u (sh v u 0) (t + i) sp)) → P none (gS f D n) m') : xC E (yX2_findGood, cX2_findGood, 7, none) 6 0 0 [vr E 88, vi (a : Int), vi sp, vi t] (gS f D n) m P PX := by
  refine x_enter (by decide) rfl rfl (Nat.le_of_ble_eq_true rfl) ?_
  have hv5 := hV.1.1.2.2.2.2.2.1
  have hv4 := hV.1.1.2.2.2.2.1.1
  have hv1 := hV.1.1.2.1
  have hpc := pcn_b a ha64 ha0
  have hc : c ≤ 2640 := by
    have := mul_nn (a := ((pcn a : Nat) : Int) - 1) (b := v 1) (A := 5) (B := 240) (by omega) (by omega) (by omega) (by omega)
    omega
  have loop : ∀ (j s : Nat) (m1 : xM) (Q1 : Nat → Nat), v 5 < (s : Int) + j → (s : Int) ≤ v 5 → ag [86, 87, 89, 90, 91, 92] m m1 → cT v m1 → (∀ i, i < 2640 → m1 92 i = (Q1 i : Int) ∧ Q1 i < 64) → (∀ i : Nat, i < c → ∀ u, u < 6 → (u < s → (tb (Q1 i) u = 1 ↔ tb a u = 1 ∧ good v u (sh v u 0) (t + i) sp)) ∧ (s ≤ u → tb (Q1 i) u = tb a u)) → xX E (("findGood", none, []), (6, 0, 0), P, PX) RX2 cX2_findGood 7 0 0 31 [(0, vr E 88), (1, vi (a : Int)), (2, vi sp), (3, vi t), (4, vi (c : Int)), (5, vi (s : Int))] [] (gS f D n) m1 := by
    intro j
    induction j with
    | zero => intro s m1 Q1 h1 h2; omega
    | succ j ih =>
      intro s m1 Q1 h1 h2 ha1 hT1 hq1 hd1
      refine x_iload dX2_findGood_31 rfl ?_
      refine x_aload_n dX2_findGood_33 rfl ?_
      refine x_getR (r := 41) fX2_35 dX2_findGood_34 rfl rfl ?_
      refine x_getI fX2_130 dX2_findGood_37 rfl ?_
      refine x_top (hT1.1.2.2.2.1) ?_
      refine x_icmp_ge (tgt := 107) dX2_findGood_40 (by decide) (by omega) (fun h40 => ?_) (fun h40 => ?_)
      · exact x_vret dX2_findGood_107 (hP m1 Q1 ha1 hT1 hq1 (fun i hi u hu => by
        have h7 := hd1 i hi u hu
        by_cases w : u < s
        · exact h7.1 w
        · rw [h7.2 (by omega)]
          refine ⟨fun z => absurd (hset u hu z) (by omega), fun z => z.1⟩))
      · have hs : (s : Int) < v 5 := by omega
        refine x_iload_n dX2_findGood_43 rfl ?_
        refine x_iload dX2_findGood_44 rfl ?_
        refine x_ishr (z := ((a / 2 ^ s : Nat) : Int)) dX2_findGood_46 (b_shr a ha64 s (by omega)) ?_
        refine x_iconst dX2_findGood_47 ?_
        refine x_iand (z := ((tb a s : Nat) : Int)) dX2_findGood_48 (b_one a ha64 s (by omega)) ?_
        refine x_if_ne (tgt := 55) dX2_findGood_49 (by decide) (by have := tb_01 a s; omega) (fun h49 => ?_) (fun h49 => ?_)
        · have hbit : tb a s = 1 := by have := tb_01 a s; omega
          have inner : ∀ (jj b : Nat) (m2 : xM) (Q2 : Nat → Nat), v 4 < (b : Int) + jj → (b : Int) ≤ v 4 → ag [86, 87, 89, 90, 91, 92] m m2 → cT v m2 → (∀ i, i < 2640 → m2 92 i = (Q2 i : Int) ∧ Q2 i < 64) → (∀ i : Nat, i < c → (tb (Q2 i) s = 1 ↔ ∀ b9 : Nat, b9 < b → pas v s (sh v s 0) b9 (t + i + cm v s sp b9) sp) ∧ ∀ u, u < 6 → u ≠ s → tb (Q2 i) u = tb (Q1 i) u) → xX E (("findGood", none, []), (6, 0, 0), P, PX) RX2 cX2_findGood 7 0 0 58 [(0, vr E 88), (1, vi (a : Int)), (2, vi sp), (3, vi t), (4, vi (c : Int)), (5, vi (s : Int)), (6, vi (b : Int))] [] (gS f D n) m2 := by
            intro jj
            induction jj with
            | zero => intro b m2 Q2 h1 h2; omega
            | succ jj ihI =>
              intro b m2 Q2 h1 h2 ha2 hT2 hq2 hd2
              refine x_iload dX2_findGood_58 rfl ?_
              refine x_aload_n dX2_findGood_60 rfl ?_
              refine x_getR (r := 41) fX2_35 dX2_findGood_61 rfl rfl ?_
              refine x_getI fX2_96 dX2_findGood_64 rfl ?_
              refine x_top (hT2.1.2.2.1.1) ?_
              refine x_icmp_ge (tgt := 101) dX2_findGood_67 (by decide) (by omega) (fun h67 => ?_) (fun h67 => ?_)
              · have hbe : (b : Int) = v 4 := by omega
                refine x_iinc dX2_findGood_101 rfl ?_
                refine x_goto (tgt := 31) dX2_findGood_104 (by decide) ?_
                refine x_loc (lv' := [(0, vr E 88), (1, vi (a : Int)), (2, vi sp), (3, vi t), (4, vi (c : Int)), (5, vi ((s + 1 : Nat) : Int))]) ⟨rfl, rfl, rfl, rfl, rfl, xl_i rfl (by omega), trivial⟩ (ih (s + 1) m2 Q2 (by omega) (by omega) ha2 hT2 hq2 (fun i hi u hu => ?_))
                have h6 := hd2 i hi
                have h7 := hd1 i hi
                by_cases w : u = s
                · subst w
                  refine ⟨fun _ => ?_, fun z => by omega⟩
                  rw [h6.1]
                  exact ⟨fun z => ⟨hbit, fun b9 hb9 => z b9 (by omega)⟩, fun z b9 hb9 => z.2 b9 (by omega)⟩
                · rw [h6.2 u hu w]
                  exact ⟨fun z => (h7 u hu).1 (by omega), fun z => (h7 u hu).2 (by omega)⟩
              · have hb : (b : Int) < v 4 := by omega
                have hcm := cm_b (s := s) hV.1.1.2.2.2.2.1 hsp hb
                refine x_aload_n dX2_findGood_70 rfl ?_
                refine x_iload dX2_findGood_71 rfl ?_
                refine x_iload dX2_findGood_73 rfl ?_
                refine x_iload_n dX2_findGood_75 rfl ?_
                refine x_iload_n dX2_findGood_76 rfl ?_
                refine x_aload_n dX2_findGood_77 rfl ?_
                refine x_getR (r := 41) fX2_35 dX2_findGood_78 rfl rfl ?_
                refine x_iload dX2_findGood_81 rfl ?_
                refine x_iload_n dX2_findGood_83 rfl ?_
                refine x_iload dX2_findGood_84 rfl ?_
                refine x_V3 mX2_100 dX2_findGood_86 rfl (s_comesAfter hV.1.1 hT2.1 hs hb hsp ?_)
                refine x_iadd dX2_findGood_89 ?_
                refine x_iload dX2_findGood_90 rfl ?_
                refine x_V5 mX2_117 dX2_findGood_92 rfl (s_dropUnpassable (Q := Q2) hE (hV.t ha2 hT2 (by decide) (by decide)) hs hb hsp (by omega) (by omega) hq2 (fun m3 Q3 ha3 hT3 hq3 hd3 => ?_))
                refine x_iinc dX2_findGood_95 rfl ?_
                refine x_goto (tgt := 58) dX2_findGood_98 (by decide) ?_
                refine x_loc (lv' := [(0, vr E 88), (1, vi (a : Int)), (2, vi sp), (3, vi t), (4, vi (c : Int)), (5, vi (s : Int)), (6, vi ((b + 1 : Nat) : Int))]) ⟨rfl, rfl, rfl, rfl, rfl, rfl, xl_i rfl (by omega), trivial⟩ (ihI (b + 1) m3 Q3 (by omega) (by omega) (ha2.tr1 ha3) hT3 hq3 (fun i hi => ?_))
                have h5 := hd3 i hi
                have h6 := hd2 i hi
                rw [show t + cm v s sp b + (i : Int) = t + i + cm v s sp b by omega] at h5
                rcases Classical.em (pas v s (sh v s 0) b (t + i + cm v s sp b) sp) with z | z
                · rw [h5.1 z]
                  refine ⟨⟨fun y b9 hb9 => ?_, fun y => h6.1.mpr (fun b9 hb9 => y b9 (by omega))⟩, h6.2⟩
                  rcases (by omega : b9 < b ∨ b9 = b) with w | w
                  · exact h6.1.mp y b9 w
                  · rw [w]; exact z
                · rw [h5.2 z]
                  have h7 := tb_ac (Q2 i) (hq2 i (by omega)).2 s (by omega)
                  refine ⟨⟨fun y => ?_, fun y => absurd (y b (by omega)) z⟩, fun u hu hne => ?_⟩
                  · rw [h7 s (by omega), if_pos rfl] at y; omega
                  · rw [h7 u hu, if_neg hne]; exact h6.2 u hu hne
          refine x_iconst dX2_findGood_55 ?_
          refine x_istore dX2_findGood_56 ?_
          exact x_loc (lv' := [(0, vr E 88), (1, vi (a : Int)), (2, vi sp), (3, vi t), (4, vi (c : Int)), (5, vi (s : Int)), (6, vi ((0 : Nat) : Int))]) ⟨rfl, rfl, rfl, rfl, rfl, rfl, rfl, trivial⟩ (inner 7 0 m1 Q1 (by omega) (by omega) ha1 hT1 hq1 (fun i hi => ⟨⟨fun _ b9 hb9 => absurd hb9 (Nat.not_lt_zero b9), fun _ => by rw [(hd1 i hi s (by omega)).2 (by omega)]; exact hbit⟩, fun u _ _ => rfl⟩))
        · have hbit : tb a s = 0 := by omega
          refine x_goto (tgt := 101) dX2_findGood_52 (by decide) ?_
          refine x_iinc dX2_findGood_101 rfl ?_
          refine x_goto (tgt := 31) dX2_findGood_104 (by decide) ?_
          refine x_loc (lv' := [(0, vr E 88), (1, vi (a : Int)), (2, vi sp), (3, vi t), (4, vi (c : Int)), (5, vi ((s + 1 : Nat) : Int))]) ⟨rfl, rfl, rfl, rfl, rfl, xl_i rfl (by omega), trivial⟩ (ih (s + 1) m1 Q1 (by omega) (by omega) ha1 hT1 hq1 (fun i hi u hu => ?_))
          have h7 := hd1 i hi
          by_cases w : u = s
          · subst w
            refine ⟨fun _ => ?_, fun z => by omega⟩
            rw [(h7 u hu).2 (by omega)]
            exact ⟨fun z => by omega, fun z => by omega⟩
          · exact ⟨fun z => (h7 u hu).1 (by omega), fun z => (h7 u hu).2 (by omega)⟩
  refine x_sipush dX2_findGood_0 (h := ?_)
  refine x_iload_n dX2_findGood_3 rfl ?_
  refine x_S1 mX2_121 dX2_findGood_4 (s_bitCount ha64 ?_)
  refine x_iconst dX2_findGood_7 ?_
  refine x_isub dX2_findGood_8 ?_
  refine x_aload_n dX2_findGood_9 rfl ?_
  refine x_getR (r := 41) fX2_35 dX2_findGood_10 rfl rfl ?_
  refine x_getI fX2_127 dX2_findGood_13 rfl ?_
  refine x_top (hV.2.1.1.1.2.1) ?_
  refine x_imul dX2_findGood_16 ?_
  refine x_iadd dX2_findGood_17 ?_
  refine x_top (hcnt) ?_
  refine x_istore dX2_findGood_18 ?_
  refine x_aload_n dX2_findGood_20 rfl ?_
  refine x_getR (r := 92) fX2_22 dX2_findGood_21 rfl rfl ?_
  refine x_iload_n dX2_findGood_24 rfl ?_
  refine x_S2 mX2_111 dX2_findGood_25 (s_fillI (L := 2640) rfl rfl (by decide) (by decide) ?_)
  have ha0 : ag [92] m (xfill m 92 (a : Int) 2640) := ag.fill ag.rf (by decide)
  refine x_iconst dX2_findGood_28 ?_
  refine x_istore dX2_findGood_29 ?_
  exact x_loc (lv' := [(0, vr E 88), (1, vi (a : Int)), (2, vi sp), (3, vi t), (4, vi (c : Int)), (5, vi ((0 : Nat) : Int))]) ⟨rfl, rfl, rfl, rfl, rfl, rfl, trivial⟩ (loop 7 0 _ (fun _ => a) (by omega) (by omega) (ha0.wk (by decide)) (hV.2.1.ag ha0 (by decide) (by decide) (by decide) (by decide) (by decide) (by decide)) (fun i hi => ⟨xfill_in hi, ha64⟩) (fun i hi u hu => ⟨fun z => by omega, fun _ => rfl⟩))

end PM
