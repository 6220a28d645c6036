section MO
/-- the model's line as a function -/
def lnF (m : xM) (N : Nat) (g : Nat → Nat) : Prop := m 96 25 = (N : Int) ∧ ∀ j, j < N → m 109 j = (g j : Int)
theorem fp_b (g : Nat → Nat) : ∀ k, fp g k ≤ k
  | 0 => Nat.le_refl 0
  | k + 1 => by
    show (if _ then _ else _) ≤ _
    split
    · exact Nat.le_succ_of_le (fp_b g k)
    · exact Nat.le_refl _
theorem fq_b (g : Nat → Nat) (i : Nat) : ∀ k, i ≤ k → i ≤ fq g i k ∧ fq g i k ≤ k
  | 0, h => ⟨h, Nat.le_refl 0⟩
  | k + 1, h => by
    show i ≤ (if _ then _ else _) ∧ (if _ then _ else _) ≤ _
    split
    · exact ⟨h, Nat.le_refl _⟩
    · rename_i hc
      have : i ≠ k + 1 := fun e => hc (by rw [e]; exact Nat.le_refl _)
      have := fq_b g i k (by omega)
      omega
theorem lnF.sw {m : xM} {N i j : Nat} {g : Nat → Nat} (h : lnF m N g) (hi : i < N) (hj : j < N) : lnF (xu (xu m 109 i (m 109 j)) 109 j (m 109 i)) N (swp g i j) := by
  refine ⟨by rw [xu_ne (by omega), xu_ne (by omega)]; exact h.1, fun q hq => ?_⟩
  rw [xu_if, xu_if]
  unfold swp
  by_cases c : q = j
  · rw [if_pos c, if_pos c]; exact h.2 i hi
  · rw [if_neg c, if_neg c]
    by_cases c2 : q = i
    · rw [if_pos c2, if_pos c2]; exact h.2 j hj
    · rw [if_neg c2, if_neg c2]; exact h.2 q hq
theorem rvs_0 {k a b : Nat} {g : Nat → Nat} (h : ¬ a < b) : rvs k g a b = g := by
  cases k with
  | zero => rfl
  | succ k => rw [rvs, if_neg h]
set_option maxRecDepth 20000 in
theorem hn_3 {E : xE} {f : Nat → Nat} {D : Nat → Nat × Nat} {n : Nat} {m : xM} {P : xPo} {PX : xPx} {N : Nat} {gE : Nat → Nat} {z1 z2 : Int} (hN : N ≤ 6) (hK : ∀ m', ag [109] m m' → lnF m' N gE → P (some (vi 1)) (gS f D n) m') :
    ∀ (k a b : Nat) (m1 : xM) (g : Nat → Nat), b < a + 2 * k → (b < N ∧ a ≤ 7) → lnF m1 N g → ag [109] m m1 → rvs k g a b = gE → xX E (("hasNextLine", some .boolean, []), (1, 0, 0), P, PX) RX6 cX6_hasNextLine 5 0 0 86 [(0, vr E 96), (1, vi z1), (2, vi z2), (3, vi (a : Int)), (4, vi (b : Int))] [] (gS f D n) m1 := by
  intro k
  induction k with
  | zero =>
    intro a b m1 g h1 h2 hL ha hE
    have hab : ¬ a < b := by omega
    refine x_iload_n dX6_hasNextLine_86 rfl ?_
    refine x_iload dX6_hasNextLine_87 rfl ?_
    refine x_icmp_ge (tgt := 108) dX6_hasNextLine_89 (by decide) (by omega) (fun h89 => ?_) (fun h89 => absurd (show a < b by omega) hab)
    refine x_iconst dX6_hasNextLine_108 ?_
    exact x_zret dX6_hasNextLine_109 (Or.inr rfl) (hK m1 ha (by rw [rvs_0 hab] at hE; exact hE ▸ hL))
  | succ k ih =>
    intro a b m1 g h1 h2 hL ha hE
    refine x_iload_n dX6_hasNextLine_86 rfl ?_
    refine x_iload dX6_hasNextLine_87 rfl ?_
    refine x_icmp_ge (tgt := 108) dX6_hasNextLine_89 (by decide) (by omega) (fun h89 => ?_) (fun h89 => ?_)
    · refine x_iconst dX6_hasNextLine_108 ?_
      exact x_zret dX6_hasNextLine_109 (Or.inr rfl) (hK m1 ha (by rw [rvs_0 (show ¬ a < b by omega)] at hE; exact hE ▸ hL))
    · refine x_aload_n dX6_hasNextLine_92 rfl ?_
      refine x_iload_n dX6_hasNextLine_93 rfl ?_
      refine x_iload dX6_hasNextLine_94 rfl ?_
      refine x_V2 mX6_372 dX6_hasNextLine_96 rfl (s_exchanges (by omega) (by omega) ?_)
      refine x_iinc dX6_hasNextLine_99 rfl ?_
      refine x_iinc dX6_hasNextLine_102 rfl ?_
      refine x_goto (tgt := 86) dX6_hasNextLine_105 (by decide) ?_
      exact x_loc (lv' := [(0, vr E 96), (1, vi z1), (2, vi z2), (3, vi ((a + 1 : Nat) : Int)), (4, vi ((b - 1 : Nat) : Int))]) ⟨rfl, rfl, rfl, xl_i rfl (by omega), xl_i rfl (by omega), trivial⟩ (ih (a + 1) (b - 1) _ _ (by omega) (by omega) (hL.sw (by omega) (by omega)) ((ha.u (by decide)).u (by decide)) (by rw [rvs, if_pos (by omega)] at hE; exact hE))

set_option maxRecDepth 20000 in
theorem hn_2 {E : xE} {f : Nat → Nat} {D : Nat → Nat × Nat} {n : Nat} {m : xM} {P : xPo} {PX : xPx} {N i : Nat} {g : Nat → Nat} (hg6 : ∀ q, q < N → g q < 6) (hN : N ≤ 6) (hi : i < N) (hL : lnF m N g) (hK : ∀ m', ag [109] m m' → lnF m' N (rvs 6 (swp g i (fq g i (N - 1))) (i + 1) (N - 1)) → P (some (vi 1)) (gS f D n) m') :
    ∀ k, i ≤ k → k < N → fq g i k = fq g i (N - 1) → xX E (("hasNextLine", some .boolean, []), (1, 0, 0), P, PX) RX6 cX6_hasNextLine 5 0 0 47 [(0, vr E 96), (1, vi (i : Int)), (2, vi (k : Int))] [] (gS f D n) m := by
  intro k
  induction k with
  | zero =>
    intro h1 h2 hE
    have hi0 : i = 0 := by omega
    subst hi0
    have hgb := hg6 0 (by omega)
    refine x_aload_n dX6_hasNextLine_47 rfl ?_
    refine x_getR (r := 109) fX6_56 dX6_hasNextLine_48 rfl rfl ?_
    refine x_iload_n dX6_hasNextLine_51 rfl ?_
    refine x_iald (j := 0) dX6_hasNextLine_52 rfl (by omega) (show _ < 6 by omega) (by omega) ?_
    refine x_top (hL.2 0 (by omega)) ?_
    refine x_aload_n dX6_hasNextLine_53 rfl ?_
    refine x_getR (r := 109) fX6_56 dX6_hasNextLine_54 rfl rfl ?_
    refine x_iload_n dX6_hasNextLine_57 rfl ?_
    refine x_iald (j := 0) dX6_hasNextLine_58 rfl (by omega) (show _ < 6 by omega) (by omega) ?_
    refine x_top (hL.2 0 (by omega)) ?_
    refine x_icmp_ge (tgt := 68) dX6_hasNextLine_59 (by decide) (by omega) (fun h59 => ?_) (fun h59 => absurd (Int.le_refl _) h59)
    refine x_aload_n dX6_hasNextLine_68 rfl ?_
    refine x_iload_n dX6_hasNextLine_69 rfl ?_
    refine x_iload_n dX6_hasNextLine_70 rfl ?_
    refine x_V2 mX6_372 dX6_hasNextLine_71 rfl (s_exchanges (i := 0) (j := 0) (by omega) (by omega) ?_)
    refine x_iload_n dX6_hasNextLine_74 rfl ?_
    refine x_iconst dX6_hasNextLine_75 ?_
    refine x_iadd dX6_hasNextLine_76 ?_
    refine x_istore_n dX6_hasNextLine_77 ?_
    refine x_aload_n dX6_hasNextLine_78 rfl ?_
    refine x_getI fX6_360 dX6_hasNextLine_79 rfl ?_
    refine x_top (show xu (xu m 109 0 (m 109 0)) 109 0 (m 109 0) 96 25 = (N : Int) by rw [xu_ne (by omega), xu_ne (by omega)]; exact hL.1) ?_
    refine x_iconst dX6_hasNextLine_82 ?_
    refine x_isub dX6_hasNextLine_83 ?_
    refine x_istore dX6_hasNextLine_84 ?_
    exact x_loc (lv' := [(0, vr E 96), (1, vi ((0 : Nat) : Int)), (2, vi ((0 : Nat) : Int)), (3, vi ((0 + 1 : Nat) : Int)), (4, vi ((N - 1 : Nat) : Int))]) ⟨rfl, rfl, rfl, xl_i rfl (by omega), xl_i rfl (by omega), trivial⟩ (hn_3 hN hK 6 (0 + 1) (N - 1) _ _ (by omega) (by omega) (hL.sw (by omega) (by omega)) ((ag.rf.u (by decide)).u (by decide)) (by rw [← hE]; rfl))
  | succ k ih =>
    intro h1 h2 hE
    have hgb := hg6 i hi
    have hgk := hg6 (k + 1) h2
    refine x_aload_n dX6_hasNextLine_47 rfl ?_
    refine x_getR (r := 109) fX6_56 dX6_hasNextLine_48 rfl rfl ?_
    refine x_iload_n dX6_hasNextLine_51 rfl ?_
    refine x_iald (j := (k + 1)) dX6_hasNextLine_52 rfl (by omega) (show _ < 6 by omega) (by omega) ?_
    refine x_top (hL.2 (k + 1) h2) ?_
    refine x_aload_n dX6_hasNextLine_53 rfl ?_
    refine x_getR (r := 109) fX6_56 dX6_hasNextLine_54 rfl rfl ?_
    refine x_iload_n dX6_hasNextLine_57 rfl ?_
    refine x_iald (j := i) dX6_hasNextLine_58 rfl (by omega) (show _ < 6 by omega) (by omega) ?_
    refine x_top (hL.2 i hi) ?_
    refine x_icmp_ge (tgt := 68) dX6_hasNextLine_59 (by decide) (by omega) (fun h59 => ?_) (fun h59 => ?_)
    · refine x_aload_n dX6_hasNextLine_68 rfl ?_
      refine x_iload_n dX6_hasNextLine_69 rfl ?_
      refine x_iload_n dX6_hasNextLine_70 rfl ?_
      refine x_V2 mX6_372 dX6_hasNextLine_71 rfl (s_exchanges (i := i) (j := k + 1) (by omega) (by omega) ?_)
      refine x_iload_n dX6_hasNextLine_74 rfl ?_
      refine x_iconst dX6_hasNextLine_75 ?_
      refine x_iadd dX6_hasNextLine_76 ?_
      refine x_istore_n dX6_hasNextLine_77 ?_
      refine x_aload_n dX6_hasNextLine_78 rfl ?_
      refine x_getI fX6_360 dX6_hasNextLine_79 rfl ?_
      refine x_top (show xu (xu m 109 i (m 109 (k + 1))) 109 (k + 1) (m 109 i) 96 25 = (N : Int) by rw [xu_ne (by omega), xu_ne (by omega)]; exact hL.1) ?_
      refine x_iconst dX6_hasNextLine_82 ?_
      refine x_isub dX6_hasNextLine_83 ?_
      refine x_istore dX6_hasNextLine_84 ?_
      exact x_loc (lv' := [(0, vr E 96), (1, vi (i : Int)), (2, vi ((k + 1 : Nat) : Int)), (3, vi ((i + 1 : Nat) : Int)), (4, vi ((N - 1 : Nat) : Int))]) ⟨rfl, rfl, rfl, xl_i rfl (by omega), xl_i rfl (by omega), trivial⟩ (hn_3 hN hK 6 (i + 1) (N - 1) _ _ (by omega) (by omega) (hL.sw (by omega) h2) ((ag.rf.u (by decide)).u (by decide)) (by rw [← hE, fq, if_pos (by omega)]))
    · refine x_iinc dX6_hasNextLine_62 rfl ?_
      refine x_goto (tgt := 47) dX6_hasNextLine_65 (by decide) ?_
      exact x_loc (lv' := [(0, vr E 96), (1, vi (i : Int)), (2, vi (k : Int))]) ⟨rfl, rfl, xl_i rfl (by omega), trivial⟩ (ih (by rcases (by omega : i = k + 1 ∨ i ≤ k) with e | e; (subst e; omega); exact e) (by omega) (by rw [fq, if_neg (by omega)] at hE; exact hE))

set_option maxRecDepth 20000 in
theorem hn_1 {E : xE} {f : Nat → Nat} {D : Nat → Nat × Nat} {n : Nat} {m : xM} {P : xPo} {PX : xPx} {N : Nat} {g : Nat → Nat} (hg6 : ∀ q, q < N → g q < 6) (hN : N ≤ 6) (hN0 : 1 ≤ N) (hL : lnF m N g) (hP0 : fp g (N - 1) = 0 → P (some (vi 0)) (gS f D n) m) (hK : fp g (N - 1) ≠ 0 → ∀ m', ag [109] m m' → lnF m' N (rvs 6 (swp g (fp g (N - 1) - 1) (fq g (fp g (N - 1) - 1) (N - 1))) (fp g (N - 1)) (N - 1)) → P (some (vi 1)) (gS f D n) m') :
    ∀ k, k < N → fp g k = fp g (N - 1) → xX E (("hasNextLine", some .boolean, []), (1, 0, 0), P, PX) RX6 cX6_hasNextLine 5 0 0 7 [(0, vr E 96), (1, vi ((k : Int) - 1))] [] (gS f D n) m := by
  intro k
  induction k with
  | zero =>
    intro h1 hE
    refine x_iload_n dX6_hasNextLine_7 rfl ?_
    refine x_if_lt (tgt := 34) dX6_hasNextLine_8 (by decide) (by omega) (fun h8 => ?_) (fun h8 => absurd (show ((0 : Nat) : Int) - 1 < 0 by omega) h8)
    refine x_iload_n dX6_hasNextLine_34 rfl ?_
    refine x_if_ge (tgt := 40) dX6_hasNextLine_35 (by decide) (by omega) (fun h35 => absurd h35 (by omega)) (fun h35 => ?_)
    refine x_iconst dX6_hasNextLine_38 ?_
    exact x_zret dX6_hasNextLine_39 (Or.inl rfl) (hP0 hE.symm)
  | succ k ih =>
    intro h1 hE
    have hgk := hg6 k (by omega)
    have hgb := hg6 (k + 1) h1
    refine x_iload_n dX6_hasNextLine_7 rfl ?_
    refine x_if_lt (tgt := 34) dX6_hasNextLine_8 (by decide) (by omega) (fun h8 => absurd h8 (by omega)) (fun h8 => ?_)
    refine x_aload_n dX6_hasNextLine_11 rfl ?_
    refine x_getR (r := 109) fX6_56 dX6_hasNextLine_12 rfl rfl ?_
    refine x_iload_n dX6_hasNextLine_15 rfl ?_
    refine x_iald (j := k) dX6_hasNextLine_16 rfl (by omega) (show _ < 6 by omega) (by omega) ?_
    refine x_top (hL.2 k (by omega)) ?_
    refine x_aload_n dX6_hasNextLine_17 rfl ?_
    refine x_getR (r := 109) fX6_56 dX6_hasNextLine_18 rfl rfl ?_
    refine x_iload_n dX6_hasNextLine_21 rfl ?_
    refine x_iconst dX6_hasNextLine_22 ?_
    refine x_iadd dX6_hasNextLine_23 ?_
    refine x_iald (j := (k + 1)) dX6_hasNextLine_24 rfl (by omega) (show _ < 6 by omega) (by omega) ?_
    refine x_top (hL.2 (k + 1) h1) ?_
    refine x_icmp_le (tgt := 34) dX6_hasNextLine_25 (by decide) (by omega) (fun h25 => ?_) (fun h25 => ?_)
    · refine x_iload_n dX6_hasNextLine_34 rfl ?_
      refine x_if_ge (tgt := 40) dX6_hasNextLine_35 (by decide) (by omega) (fun h35 => ?_) (fun h35 => absurd (show (0 : Int) ≤ ((k + 1 : Nat) : Int) - 1 by omega) h35)
      have hfp : k + 1 = fp g (N - 1) := by rw [← hE, fp, if_neg (by omega)]
      refine x_aload_n dX6_hasNextLine_40 rfl ?_
      refine x_getI fX6_360 dX6_hasNextLine_41 rfl ?_
      refine x_top (hL.1) ?_
      refine x_iconst dX6_hasNextLine_44 ?_
      refine x_isub dX6_hasNextLine_45 ?_
      refine x_istore_n dX6_hasNextLine_46 ?_
      exact x_loc (lv' := [(0, vr E 96), (1, vi (k : Int)), (2, vi ((N - 1 : Nat) : Int))]) ⟨rfl, xl_i rfl (by omega), xl_i rfl (by omega), trivial⟩ (hn_2 (i := k) hg6 hN (by omega) hL (fun m' ha' hl' => hK (by rw [← hfp]; omega) m' ha' (by rw [← hfp]; exact hl')) (N - 1) (by omega) (by omega) rfl)
    · refine x_iinc dX6_hasNextLine_28 rfl ?_
      refine x_goto (tgt := 7) dX6_hasNextLine_31 (by decide) ?_
      exact x_loc (lv' := [(0, vr E 96), (1, vi ((k : Int) - 1))]) ⟨rfl, xl_i rfl (by omega), trivial⟩ (ih (by omega) (by rw [fp, if_pos (by omega)] at hE; exact hE))

theorem s_hasNextLine {E : xE} {f : Nat → Nat} {D : Nat → Nat × Nat} {n : Nat} {m : xM} {P : xPo} {PX : xPx} {a : Nat} {l : List Nat} (ha64 : a < 64) (ha0 : 0 < a) (hM : lnM m l) (hl : inS a l) (hP0 : nxl l = none → P (some (vi 0)) (gS f D n) m) (hP1 : ∀ l' m', nxl l = some l' → ag [109] m m' → lnM m' l' → P (some (vi 1)) (gS f D n) m') : xC E (yX6_hasNextLine, cX6_hasNextLine, 5, some .boolean) 1 0 0 [vr E 96] (gS f D n) m P PX := by
  refine x_enter (by decide) rfl rfl (Nat.le_of_ble_eq_true rfl) ?_
  have hpc := pcn_b a ha64 ha0
  have hlen := hl.1
  have hN : lnF m l.length (lg l) := hM
  refine x_aload_n dX6_hasNextLine_0 rfl ?_
  refine x_getI fX6_360 dX6_hasNextLine_1 rfl ?_
  refine x_top (hM.1) ?_
  refine x_iconst dX6_hasNextLine_4 ?_
  refine x_isub dX6_hasNextLine_5 ?_
  refine x_istore_n dX6_hasNextLine_6 ?_
  exact x_loc (lv' := [(0, vr E 96), (1, vi (((l.length - 1 : Nat) : Int) - 1))]) ⟨rfl, xl_i rfl (by omega), trivial⟩ (hn_1 (g := lg l) (fun q hq => (hl.2 q hq).1) (by omega) (by omega) hN (fun h => hP0 (by unfold nxl; rw [if_pos h])) (fun h m' ha' hl' => hP1 _ m' (by unfold nxl; rw [if_neg h]) ha' ⟨by rw [hl'.1]; simp, fun j hj => by
      simp at hj
      rw [hl'.2 j hj, List.getD_eq_getElem?_getD, List.getElem?_map, List.getElem?_range hj]
      rfl⟩) (l.length - 1) (by omega) rfl)

end MO
