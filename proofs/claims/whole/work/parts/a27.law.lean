section LW
section RW
variable {E : xE} {J : xJ} {own : String} {cc : ByteArray} {mL k n pc : Nat} {lv : List (Nat × Value)} {st : List Value} {g : xG} {m : xM}
theorem x_wide {k' n' : Nat} (h1 : k ≤ k') (h2 : n ≤ n') (h : xX E J own cc mL k' n' pc lv st g m) : xX E J own cc mL k n pc lv st g m := by
  intro p e s mi args below meth c H locs ls hC hW hL hl
  exact W.widen h1 h2 (h p e s mi args below meth c H locs ls hC hW hL hl)
theorem x_icmp_T {z off : Int} {tgt : Nat} (hd : decode cc pc = .ok (.if_icmp .eq off, 3)) (ht : (pc : Int) + off = (tgt : Int)) (h : xX E J own cc mL k n tgt lv st g m) : xX E J own cc mL k n pc lv (vi z :: vi z :: st) g m := by
  have e : vi z = vi (Int32.ofInt z).toInt := by unfold vi; rw [Int32.ofInt_toInt]
  have h1 := (Int32.ofInt z).le_toInt
  have h2 := (Int32.ofInt z).toInt_lt
  rw [e]
  exact x_icmp_eq hd ht (by omega) (fun _ => h) (fun q => absurd rfl q)
theorem x_leq_T {z off : Int} {tgt : Nat} (hd1 : decode cc pc = .ok (.lcmp, 1)) (hd : decode cc (pc + 1) = .ok (.ifCond .eq off, 3)) (ht : ((pc + 1 : Nat) : Int) + off = (tgt : Int)) (h : xX E J own cc mL k n tgt lv st g m) : xX E J own cc mL k n pc lv (vl z :: vl z :: st) g m := by
  have e : vl z = vl (Int64.ofInt z).toInt := by unfold vl; rw [Int64.ofInt_toInt]
  have h1 := (Int64.ofInt z).le_toInt
  have h2 := (Int64.ofInt z).toInt_lt
  rw [e]
  exact x_leq hd1 hd ht (by omega) (fun _ => h) (fun q => absurd rfl q)
theorem x_ci {z z' : Int} (e : z = z') (h : xX E J own cc mL k n pc lv (vi z' :: st) g m) : xX E J own cc mL k n pc lv (vi z :: st) g m := by rw [e]; exact h
end RW
section TT
variable {v : Nat → Int} {h : List (Nat → Int)} {f : Nat → Nat} {D : Nat → Nat × Nat} {n : Nat} {m m1 : xM} {L : List Nat}
theorem tI.t8 (hI : tI v h f D n m) (hk : kq L m m1) : m1 96 8 = m 40 6 := by
  obtain ⟨-, -, -, ⟨p, -, t5, t6⟩, -⟩ := hI
  rw [hk.1 96 (by omega) (by omega), t5, t6]
theorem tI.t5 (hI : tI v h f D n m) (hk : kq L m m1) : m1 96 5 = m 45 2 := by
  obtain ⟨⟨-, -, -, -, -, p, -, -, q3, -⟩, -, t3, -⟩ := hI
  rw [hk.1 96 (by omega) (by omega), q3, t3.1]
end TT
set_option maxRecDepth 20000 in
theorem af_told {E : xE} {f : Nat → Nat} {D : Nat → Nat × Nat} {n : Nat} {m : xM} {P : xPo} {PX : xPx} {v : Nat → Int} {h : List (Nat → Int)} {i kk nn : Nat} {c : Int} (hv : vOk v) (hN : mN v m) (hlen : i + 6 < (E.2.2.2.2.2 1).1) (hl31 : (E.2.2.2.2.2 1).1 < 2147483648) (hsc : ∀ j, -2147483648 ≤ (E.2.2.2.2.2 1).2 j ∧ (E.2.2.2.2.2 1).2 j ≤ 2147483647) (hc : 0 ≤ c ∧ c ≤ 3) (hkk : kk ≤ 600000) (hnn : nn ≤ 7000000) (hQ : ∀ m3 r3, moR (rf1 (0 ≤ ((E.2.2.2.2.2 1).2 (i + 1)) ∧ ((E.2.2.2.2.2 1).2 (i + 1)) ≤ 8) 1) (0 ≤ ((E.2.2.2.2.2 1).2 (i + 1)) ∧ ((E.2.2.2.2.2 1).2 (i + 1)) ≤ 8) (fun r => r = tdv v (m 96 8) (m 96 5) ((E.2.2.2.2.2 1).2 (i + 1))) [] m m3 r3 → (m3 96 0 = c ∧ (c = 0 → m3 111 0 = r32 r3)) ∧ xX E (("law", some .boolean, []), (25, 600000, 7000000), P, PX) RL cL_law 7 kk nn 2309 [(0, vr E 1), (1, vr E 40), (2, vr E 96), (3, vr E 111), (4, vi (i : Int))] [] (gS f D n) m3) : xX E (("law", some .boolean, []), (25, 600000, 7000000), P, PX) RL cL_law 7 kk nn 678 [(0, vr E 1), (1, vr E 40), (2, vr E 96), (3, vr E 111), (4, vi (i : Int))] [vi c] (gS f D n) m := by
  refine x_istore dL_law_678 ?_
  refine x_aload_n dL_law_680 rfl ?_
  refine x_aload_n dL_law_681 rfl ?_
  refine x_iload dL_law_682 rfl ?_
  refine x_iconst dL_law_684 ?_
  refine x_iadd dL_law_685 ?_
  refine x_siald (j := i + 1) dL_law_686 (by decide) (by decide) (by omega) (by omega) (by omega) ?_
  refine x_callV (as := [vi ((E.2.2.2.2.2 1).2 (i + 1))]) (rest := []) (mc' := 0) (ms' := 0) mL_144 dL_law_687 rfl rfl rfl (by decide) (by decide) hkk hnn (s_mtold hv hN (hsc _) (fun m3 r3 ho => ?_))
  obtain ⟨⟨e0, e1⟩, hX9⟩ := hQ m3 r3 ho
  refine x_istore dL_law_690 ?_
  refine x_aload_n dL_law_692 rfl ?_
  refine x_callV (as := []) (rest := []) (mc' := 0) (ms' := 0) mL_113 dL_law_693 rfl rfl rfl (by decide) (by decide) hkk hnn (s_mthrown ?_)
  refine x_ci e0 ?_
  refine x_iload dL_law_696 rfl ?_
  refine x_icmp_T (tgt := 703) dL_law_698 (by decide) ?_
  refine x_iload dL_law_703 rfl ?_
  refine x_if_ne (tgt := 720) dL_law_705 (by decide) (by omega) (fun _ => ?_) (fun hc0 => ?_)
  · refine x_goto (tgt := 2309) dL_law_720 (by decide) ?_
    exact x_loc (lv' := [(0, vr E 1), (1, vr E 40), (2, vr E 96), (3, vr E 111), (4, vi (i : Int))]) ⟨rfl, rfl, rfl, rfl, rfl, trivial⟩ hX9
  · refine x_aload_n dL_law_708 rfl ?_
    refine x_iconst dL_law_709 ?_
    refine x_lald (j := 0) dL_law_710 rfl rfl (by show 0 < 1; decide) (by decide) ?_
    refine x_topl (e1 hc0) ?_
    refine x_iload dL_law_711 rfl ?_
    refine x_i2lz dL_law_713 ?_
    refine x_leq_T (tgt := 720) dL_law_714 dL_law_715 (by decide) ?_
    refine x_goto (tgt := 2309) dL_law_720 (by decide) ?_
    exact x_loc (lv' := [(0, vr E 1), (1, vr E 40), (2, vr E 96), (3, vr E 111), (4, vi (i : Int))]) ⟨rfl, rfl, rfl, rfl, rfl, trivial⟩ hX9

theorem wl_told : Cond.methodLink RL 142 yL_told ∈ xTb := xTb_of 860 (by decide +kernel) (by decide +kernel)
theorem ws_told : Cond.static yL_told ∈ xTb := xTb_of 861 (by decide +kernel) (by decide +kernel)
theorem wc_told : Cond.codeWith yL_told cL_told 4 (some .int) [(0, 9, 12, 13)] ∈ xTb := xTb_of 862 (by decide +kernel) (by decide +kernel)
set_option maxRecDepth 20000 in
theorem lw_told {E : xE} {f : Nat → Nat} {D : Nat → Nat × Nat} {n : Nat} {m : xM} {P : xPo} {PX : xPx} {v : Nat → Int} {h : List (Nat → Int)} {i kk nn : Nat} (hE : eOk E) (hI : tI v h f D n m) (hlen : i + 6 < (E.2.2.2.2.2 1).1) (hl31 : (E.2.2.2.2.2 1).1 < 2147483648) (hsc : ∀ j, -2147483648 ≤ (E.2.2.2.2.2 1).2 j ∧ (E.2.2.2.2.2 1).2 j ≤ 2147483647) (hkk : kk + 8 ≤ 600000) (hnn : nn + 640 ≤ 7000000) (hK : ∀ v' h' f' D' n' m', tI v' h' f' D' n' m' → m' 40 7 ≤ m 40 7 + 1 → xX E (("law", some .boolean, []), (25, 600000, 7000000), P, PX) RL cL_law 7 (kk + 8) (nn + 640) 2309 [(0, vr E 1), (1, vr E 40), (2, vr E 96), (3, vr E 111), (4, vi (i : Int))] [] (gS f' D' n') m') : xX E (("law", some .boolean, []), (25, 600000, 7000000), P, PX) RL cL_law 7 kk nn 667 [(0, vr E 1), (1, vr E 40), (2, vr E 96), (3, vr E 111), (4, vi (i : Int))] [] (gS f D n) m := by
  have hu9 : uq (rf1 (0 ≤ ((E.2.2.2.2.2 1).2 (i + 1)) ∧ ((E.2.2.2.2.2 1).2 (i + 1)) ≤ 8) 1) (0 ≤ ((E.2.2.2.2.2 1).2 (i + 1)) ∧ ((E.2.2.2.2.2 1).2 (i + 1)) ≤ 8) (fun r => r = tdv v (m 40 6) (m 45 2) ((E.2.2.2.2.2 1).2 (i + 1))) := uq1 (by decide) (fun r r' _ a b => a.trans b.symm)
  refine x_aload_n dL_law_667 rfl ?_
  refine x_aload_n dL_law_668 rfl ?_
  refine x_iload dL_law_669 rfl ?_
  refine x_iconst dL_law_671 ?_
  refine x_iadd dL_law_672 ?_
  refine x_siald (j := i + 1) dL_law_673 (by decide) (by decide) (by omega) (by omega) (by omega) ?_
  refine x_aload_n dL_law_674 rfl ?_
  refine x_callSH (na := 3) (as := [vr E 40, vi ((E.2.2.2.2.2 1).2 (i + 1)), vr E 111]) (rest := []) (hy := [(0, 9, 12, 13)]) wl_told ws_told wc_told qSL (by decide) (by decide +kernel) (by decide) dL_law_675 rfl rfl (by decide) (by decide) (by omega) (by omega) (s_wtold (PX := PX) hE hI.1 (hsc _) (fun k9 q9 n' m' hr hc hk hu => ?_) (fun m' r hok hR hc hk h111 => ?_))
  · have hk3 := (hu9.2.2.2 _ _ hr).1
    refine af_told (h := h) hI.1.1.1 (hI.N hk) hlen hl31 hsc (by omega) (by omega) (by omega) (fun m3 r3 ho => ?_)
    · rw [hI.t8 hk, hI.t5 hk] at ho
      have h9 := tw_ref hu9 hr hI hc hk hu (ho.mr (by decide) (hI.N hk) (hI.H hk))
      exact ⟨⟨h9.2.1, fun z => by omega⟩, x_wide (Nat.le_refl _) (by omega) (hK _ _ _ _ _ _ h9.1 (by rw [h9.2.2, hk.2.2 7 (by simp; omega)]; omega))⟩
  · refine af_told (h := h) hI.1.1.1 (hI.N hk) hlen hl31 hsc (by omega) (by omega) (by omega) (fun m3 r3 ho => ?_)
    · rw [hI.t8 hk, hI.t5 hk] at ho
      have h9 := tw_ans hu9 hok hR hI hc hk (ho.mr (by decide) (hI.N hk) (hI.H hk))
      obtain ⟨⟨g1, g2, g3, g4⟩, rfl⟩ := h9
      exact ⟨⟨g2, fun _ => by rw [g3]; exact h111⟩, x_wide (Nat.le_refl _) (by omega) (hK _ _ _ _ _ _ g1 (by rw [g4, hk.2.2 7 (by simp)]; omega))⟩

set_option maxRecDepth 20000 in
theorem af_wave {E : xE} {f : Nat → Nat} {D : Nat → Nat × Nat} {n : Nat} {m : xM} {P : xPo} {PX : xPx} {v : Nat → Int} {h : List (Nat → Int)} {i kk nn : Nat} {c : Int} (hv : vOk v) (hN : mN v m) (hlen : i + 6 < (E.2.2.2.2.2 1).1) (hl31 : (E.2.2.2.2.2 1).1 < 2147483648) (hsc : ∀ j, -2147483648 ≤ (E.2.2.2.2.2 1).2 j ∧ (E.2.2.2.2.2 1).2 j ≤ 2147483647) (hc : 0 ≤ c ∧ c ≤ 3) (hkk : kk ≤ 600000) (hnn : nn ≤ 7000000) (hQ : ∀ m3 r3, moR (rf2 (0 ≤ ((E.2.2.2.2.2 1).2 (i + 1)) ∧ ((E.2.2.2.2.2 1).2 (i + 1)) < v 3) (0 ≤ ((E.2.2.2.2.2 1).2 (i + 2)) ∧ ((E.2.2.2.2.2 1).2 (i + 2)) ≤ 2) 0 1) ((0 ≤ ((E.2.2.2.2.2 1).2 (i + 1)) ∧ ((E.2.2.2.2.2 1).2 (i + 1)) < v 3) ∧ (0 ≤ ((E.2.2.2.2.2 1).2 (i + 2)) ∧ ((E.2.2.2.2.2 1).2 (i + 2)) ≤ 2)) (fun r => r = wv v ((E.2.2.2.2.2 1).2 (i + 1)).toNat ((E.2.2.2.2.2 1).2 (i + 2)).toNat) [] m m3 r3 → (m3 96 0 = c ∧ (c = 0 → m3 111 0 = r32 r3)) ∧ xX E (("law", some .boolean, []), (25, 600000, 7000000), P, PX) RL cL_law 7 kk nn 2309 [(0, vr E 1), (1, vr E 40), (2, vr E 96), (3, vr E 111), (4, vi (i : Int))] [] (gS f D n) m3) : xX E (("law", some .boolean, []), (25, 600000, 7000000), P, PX) RL cL_law 7 kk nn 740 [(0, vr E 1), (1, vr E 40), (2, vr E 96), (3, vr E 111), (4, vi (i : Int))] [vi c] (gS f D n) m := by
  refine x_istore dL_law_740 ?_
  refine x_aload_n dL_law_742 rfl ?_
  refine x_aload_n dL_law_743 rfl ?_
  refine x_iload dL_law_744 rfl ?_
  refine x_iconst dL_law_746 ?_
  refine x_iadd dL_law_747 ?_
  refine x_siald (j := i + 1) dL_law_748 (by decide) (by decide) (by omega) (by omega) (by omega) ?_
  refine x_aload_n dL_law_749 rfl ?_
  refine x_iload dL_law_750 rfl ?_
  refine x_iconst dL_law_752 ?_
  refine x_iadd dL_law_753 ?_
  refine x_siald (j := i + 2) dL_law_754 (by decide) (by decide) (by omega) (by omega) (by omega) ?_
  refine x_callV (as := [vi ((E.2.2.2.2.2 1).2 (i + 1)), vi ((E.2.2.2.2.2 1).2 (i + 2))]) (rest := []) (mc' := 0) (ms' := 0) mL_147 dL_law_755 rfl rfl rfl (by decide) (by decide) hkk hnn (s_mwave hv hN (hsc _) (hsc _) (fun m3 r3 ho => ?_))
  obtain ⟨⟨e0, e1⟩, hX9⟩ := hQ m3 r3 ho
  refine x_istore dL_law_758 ?_
  refine x_aload_n dL_law_760 rfl ?_
  refine x_callV (as := []) (rest := []) (mc' := 0) (ms' := 0) mL_113 dL_law_761 rfl rfl rfl (by decide) (by decide) hkk hnn (s_mthrown ?_)
  refine x_ci e0 ?_
  refine x_iload dL_law_764 rfl ?_
  refine x_icmp_T (tgt := 771) dL_law_766 (by decide) ?_
  refine x_iload dL_law_771 rfl ?_
  refine x_if_ne (tgt := 788) dL_law_773 (by decide) (by omega) (fun _ => ?_) (fun hc0 => ?_)
  · refine x_goto (tgt := 2309) dL_law_788 (by decide) ?_
    exact x_loc (lv' := [(0, vr E 1), (1, vr E 40), (2, vr E 96), (3, vr E 111), (4, vi (i : Int))]) ⟨rfl, rfl, rfl, rfl, rfl, trivial⟩ hX9
  · refine x_aload_n dL_law_776 rfl ?_
    refine x_iconst dL_law_777 ?_
    refine x_lald (j := 0) dL_law_778 rfl rfl (by show 0 < 1; decide) (by decide) ?_
    refine x_topl (e1 hc0) ?_
    refine x_iload dL_law_779 rfl ?_
    refine x_i2lz dL_law_781 ?_
    refine x_leq_T (tgt := 788) dL_law_782 dL_law_783 (by decide) ?_
    refine x_goto (tgt := 2309) dL_law_788 (by decide) ?_
    exact x_loc (lv' := [(0, vr E 1), (1, vr E 40), (2, vr E 96), (3, vr E 111), (4, vi (i : Int))]) ⟨rfl, rfl, rfl, rfl, rfl, trivial⟩ hX9

theorem wl_wave : Cond.methodLink RL 145 yL_wave ∈ xTb := xTb_of 871 (by decide +kernel) (by decide +kernel)
theorem ws_wave : Cond.static yL_wave ∈ xTb := xTb_of 872 (by decide +kernel) (by decide +kernel)
theorem wc_wave : Cond.codeWith yL_wave cL_wave 5 (some .int) [(0, 10, 13, 19), (0, 10, 17, 13)] ∈ xTb := xTb_of 873 (by decide +kernel) (by decide +kernel)
set_option maxRecDepth 20000 in
theorem lw_wave {E : xE} {f : Nat → Nat} {D : Nat → Nat × Nat} {n : Nat} {m : xM} {P : xPo} {PX : xPx} {v : Nat → Int} {h : List (Nat → Int)} {i kk nn : Nat} (hE : eOk E) (hI : tI v h f D n m) (hlen : i + 6 < (E.2.2.2.2.2 1).1) (hl31 : (E.2.2.2.2.2 1).1 < 2147483648) (hsc : ∀ j, -2147483648 ≤ (E.2.2.2.2.2 1).2 j ∧ (E.2.2.2.2.2 1).2 j ≤ 2147483647) (hkk : kk + 8 ≤ 600000) (hnn : nn + 640 ≤ 7000000) (hK : ∀ v' h' f' D' n' m', tI v' h' f' D' n' m' → m' 40 7 ≤ m 40 7 + 1 → xX E (("law", some .boolean, []), (25, 600000, 7000000), P, PX) RL cL_law 7 (kk + 8) (nn + 640) 2309 [(0, vr E 1), (1, vr E 40), (2, vr E 96), (3, vr E 111), (4, vi (i : Int))] [] (gS f' D' n') m') : xX E (("law", some .boolean, []), (25, 600000, 7000000), P, PX) RL cL_law 7 kk nn 723 [(0, vr E 1), (1, vr E 40), (2, vr E 96), (3, vr E 111), (4, vi (i : Int))] [] (gS f D n) m := by
  have hu9 : uq (rf2 (0 ≤ ((E.2.2.2.2.2 1).2 (i + 1)) ∧ ((E.2.2.2.2.2 1).2 (i + 1)) < v 3) (0 ≤ ((E.2.2.2.2.2 1).2 (i + 2)) ∧ ((E.2.2.2.2.2 1).2 (i + 2)) ≤ 2) 0 1) ((0 ≤ ((E.2.2.2.2.2 1).2 (i + 1)) ∧ ((E.2.2.2.2.2 1).2 (i + 1)) < v 3) ∧ (0 ≤ ((E.2.2.2.2.2 1).2 (i + 2)) ∧ ((E.2.2.2.2.2 1).2 (i + 2)) ≤ 2)) (fun r => r = wv v ((E.2.2.2.2.2 1).2 (i + 1)).toNat ((E.2.2.2.2.2 1).2 (i + 2)).toNat) := uq2 (by decide) (by decide) (fun r r' _ a b => a.trans b.symm)
  refine x_aload_n dL_law_723 rfl ?_
  refine x_aload_n dL_law_724 rfl ?_
  refine x_iload dL_law_725 rfl ?_
  refine x_iconst dL_law_727 ?_
  refine x_iadd dL_law_728 ?_
  refine x_siald (j := i + 1) dL_law_729 (by decide) (by decide) (by omega) (by omega) (by omega) ?_
  refine x_aload_n dL_law_730 rfl ?_
  refine x_iload dL_law_731 rfl ?_
  refine x_iconst dL_law_733 ?_
  refine x_iadd dL_law_734 ?_
  refine x_siald (j := i + 2) dL_law_735 (by decide) (by decide) (by omega) (by omega) (by omega) ?_
  refine x_aload_n dL_law_736 rfl ?_
  refine x_callSH (na := 4) (as := [vr E 40, vi ((E.2.2.2.2.2 1).2 (i + 1)), vi ((E.2.2.2.2.2 1).2 (i + 2)), vr E 111]) (rest := []) (hy := [(0, 10, 13, 19), (0, 10, 17, 13)]) wl_wave ws_wave wc_wave qSL (by decide) (by decide +kernel) (by decide) dL_law_737 rfl rfl (by decide) (by decide) (by omega) (by omega) (s_wwave (PX := PX) hE hI.1 (hsc _) (hsc _) (fun k9 q9 n' m' hr hc hk hu => ?_) (fun m' r hok hR hc hk h111 => ?_))
  · have hk3 := (hu9.2.2.2 _ _ hr).1
    refine af_wave (h := h) hI.1.1.1 (hI.N hk) hlen hl31 hsc (by omega) (by omega) (by omega) (fun m3 r3 ho => ?_)
    · have h9 := tw_ref hu9 hr hI hc hk hu (ho.mr (by decide) (hI.N hk) (hI.H hk))
      exact ⟨⟨h9.2.1, fun z => by omega⟩, x_wide (Nat.le_refl _) (by omega) (hK _ _ _ _ _ _ h9.1 (by rw [h9.2.2, hk.2.2 7 (by simp; omega)]; omega))⟩
  · refine af_wave (h := h) hI.1.1.1 (hI.N hk) hlen hl31 hsc (by omega) (by omega) (by omega) (fun m3 r3 ho => ?_)
    · have h9 := tw_ans hu9 hok hR hI hc hk (ho.mr (by decide) (hI.N hk) (hI.H hk))
      obtain ⟨⟨g1, g2, g3, g4⟩, rfl⟩ := h9
      exact ⟨⟨g2, fun _ => by rw [g3]; exact h111⟩, x_wide (Nat.le_refl _) (by omega) (hK _ _ _ _ _ _ g1 (by rw [g4, hk.2.2 7 (by simp)]; omega))⟩

set_option maxRecDepth 20000 in
theorem af_bar {E : xE} {f : Nat → Nat} {D : Nat → Nat × Nat} {n : Nat} {m : xM} {P : xPo} {PX : xPx} {v : Nat → Int} {h : List (Nat → Int)} {i kk nn : Nat} {c : Int} (hv : vOk v) (hN : mN v m) (hlen : i + 6 < (E.2.2.2.2.2 1).1) (hl31 : (E.2.2.2.2.2 1).1 < 2147483648) (hsc : ∀ j, -2147483648 ≤ (E.2.2.2.2.2 1).2 j ∧ (E.2.2.2.2.2 1).2 j ≤ 2147483647) (hc : 0 ≤ c ∧ c ≤ 3) (hkk : kk ≤ 600000) (hnn : nn ≤ 7000000) (hQ : ∀ m3 r3, moR (rf2 (0 ≤ ((E.2.2.2.2.2 1).2 (i + 1)) ∧ ((E.2.2.2.2.2 1).2 (i + 1)) < v 4) (0 ≤ ((E.2.2.2.2.2 1).2 (i + 2)) ∧ ((E.2.2.2.2.2 1).2 (i + 2)) ≤ 5) 0 1) ((0 ≤ ((E.2.2.2.2.2 1).2 (i + 1)) ∧ ((E.2.2.2.2.2 1).2 (i + 1)) < v 4) ∧ (0 ≤ ((E.2.2.2.2.2 1).2 (i + 2)) ∧ ((E.2.2.2.2.2 1).2 (i + 2)) ≤ 5)) (fun r => r = br v ((E.2.2.2.2.2 1).2 (i + 1)).toNat ((E.2.2.2.2.2 1).2 (i + 2)).toNat) [] m m3 r3 → (m3 96 0 = c ∧ (c = 0 → m3 111 0 = r32 r3)) ∧ xX E (("law", some .boolean, []), (25, 600000, 7000000), P, PX) RL cL_law 7 kk nn 2309 [(0, vr E 1), (1, vr E 40), (2, vr E 96), (3, vr E 111), (4, vi (i : Int))] [] (gS f D n) m3) : xX E (("law", some .boolean, []), (25, 600000, 7000000), P, PX) RL cL_law 7 kk nn 808 [(0, vr E 1), (1, vr E 40), (2, vr E 96), (3, vr E 111), (4, vi (i : Int))] [vi c] (gS f D n) m := by
  refine x_istore dL_law_808 ?_
  refine x_aload_n dL_law_810 rfl ?_
  refine x_aload_n dL_law_811 rfl ?_
  refine x_iload dL_law_812 rfl ?_
  refine x_iconst dL_law_814 ?_
  refine x_iadd dL_law_815 ?_
  refine x_siald (j := i + 1) dL_law_816 (by decide) (by decide) (by omega) (by omega) (by omega) ?_
  refine x_aload_n dL_law_817 rfl ?_
  refine x_iload dL_law_818 rfl ?_
  refine x_iconst dL_law_820 ?_
  refine x_iadd dL_law_821 ?_
  refine x_siald (j := i + 2) dL_law_822 (by decide) (by decide) (by omega) (by omega) (by omega) ?_
  refine x_callV (as := [vi ((E.2.2.2.2.2 1).2 (i + 1)), vi ((E.2.2.2.2.2 1).2 (i + 2))]) (rest := []) (mc' := 0) (ms' := 0) mL_150 dL_law_823 rfl rfl rfl (by decide) (by decide) hkk hnn (s_mbar hv hN (hsc _) (hsc _) (fun m3 r3 ho => ?_))
  obtain ⟨⟨e0, e1⟩, hX9⟩ := hQ m3 r3 ho
  refine x_istore dL_law_826 ?_
  refine x_aload_n dL_law_828 rfl ?_
  refine x_callV (as := []) (rest := []) (mc' := 0) (ms' := 0) mL_113 dL_law_829 rfl rfl rfl (by decide) (by decide) hkk hnn (s_mthrown ?_)
  refine x_ci e0 ?_
  refine x_iload dL_law_832 rfl ?_
  refine x_icmp_T (tgt := 839) dL_law_834 (by decide) ?_
  refine x_iload dL_law_839 rfl ?_
  refine x_if_ne (tgt := 856) dL_law_841 (by decide) (by omega) (fun _ => ?_) (fun hc0 => ?_)
  · refine x_goto (tgt := 2309) dL_law_856 (by decide) ?_
    exact x_loc (lv' := [(0, vr E 1), (1, vr E 40), (2, vr E 96), (3, vr E 111), (4, vi (i : Int))]) ⟨rfl, rfl, rfl, rfl, rfl, trivial⟩ hX9
  · refine x_aload_n dL_law_844 rfl ?_
    refine x_iconst dL_law_845 ?_
    refine x_lald (j := 0) dL_law_846 rfl rfl (by show 0 < 1; decide) (by decide) ?_
    refine x_topl (e1 hc0) ?_
    refine x_iload dL_law_847 rfl ?_
    refine x_i2lz dL_law_849 ?_
    refine x_leq_T (tgt := 856) dL_law_850 dL_law_851 (by decide) ?_
    refine x_goto (tgt := 2309) dL_law_856 (by decide) ?_
    exact x_loc (lv' := [(0, vr E 1), (1, vr E 40), (2, vr E 96), (3, vr E 111), (4, vi (i : Int))]) ⟨rfl, rfl, rfl, rfl, rfl, trivial⟩ hX9

theorem wl_bar : Cond.methodLink RL 148 yL_bar ∈ xTb := xTb_of 879 (by decide +kernel) (by decide +kernel)
theorem ws_bar : Cond.static yL_bar ∈ xTb := xTb_of 880 (by decide +kernel) (by decide +kernel)
theorem wc_bar : Cond.codeWith yL_bar cL_bar 5 (some .int) [(0, 10, 13, 19), (0, 10, 17, 13)] ∈ xTb := xTb_of 881 (by decide +kernel) (by decide +kernel)
set_option maxRecDepth 20000 in
theorem lw_bar {E : xE} {f : Nat → Nat} {D : Nat → Nat × Nat} {n : Nat} {m : xM} {P : xPo} {PX : xPx} {v : Nat → Int} {h : List (Nat → Int)} {i kk nn : Nat} (hE : eOk E) (hI : tI v h f D n m) (hlen : i + 6 < (E.2.2.2.2.2 1).1) (hl31 : (E.2.2.2.2.2 1).1 < 2147483648) (hsc : ∀ j, -2147483648 ≤ (E.2.2.2.2.2 1).2 j ∧ (E.2.2.2.2.2 1).2 j ≤ 2147483647) (hkk : kk + 8 ≤ 600000) (hnn : nn + 640 ≤ 7000000) (hK : ∀ v' h' f' D' n' m', tI v' h' f' D' n' m' → m' 40 7 ≤ m 40 7 + 1 → xX E (("law", some .boolean, []), (25, 600000, 7000000), P, PX) RL cL_law 7 (kk + 8) (nn + 640) 2309 [(0, vr E 1), (1, vr E 40), (2, vr E 96), (3, vr E 111), (4, vi (i : Int))] [] (gS f' D' n') m') : xX E (("law", some .boolean, []), (25, 600000, 7000000), P, PX) RL cL_law 7 kk nn 791 [(0, vr E 1), (1, vr E 40), (2, vr E 96), (3, vr E 111), (4, vi (i : Int))] [] (gS f D n) m := by
  have hu9 : uq (rf2 (0 ≤ ((E.2.2.2.2.2 1).2 (i + 1)) ∧ ((E.2.2.2.2.2 1).2 (i + 1)) < v 4) (0 ≤ ((E.2.2.2.2.2 1).2 (i + 2)) ∧ ((E.2.2.2.2.2 1).2 (i + 2)) ≤ 5) 0 1) ((0 ≤ ((E.2.2.2.2.2 1).2 (i + 1)) ∧ ((E.2.2.2.2.2 1).2 (i + 1)) < v 4) ∧ (0 ≤ ((E.2.2.2.2.2 1).2 (i + 2)) ∧ ((E.2.2.2.2.2 1).2 (i + 2)) ≤ 5)) (fun r => r = br v ((E.2.2.2.2.2 1).2 (i + 1)).toNat ((E.2.2.2.2.2 1).2 (i + 2)).toNat) := uq2 (by decide) (by decide) (fun r r' _ a b => a.trans b.symm)
  refine x_aload_n dL_law_791 rfl ?_
  refine x_aload_n dL_law_792 rfl ?_
  refine x_iload dL_law_793 rfl ?_
  refine x_iconst dL_law_795 ?_
  refine x_iadd dL_law_796 ?_
  refine x_siald (j := i + 1) dL_law_797 (by decide) (by decide) (by omega) (by omega) (by omega) ?_
  refine x_aload_n dL_law_798 rfl ?_
  refine x_iload dL_law_799 rfl ?_
  refine x_iconst dL_law_801 ?_
  refine x_iadd dL_law_802 ?_
  refine x_siald (j := i + 2) dL_law_803 (by decide) (by decide) (by omega) (by omega) (by omega) ?_
  refine x_aload_n dL_law_804 rfl ?_
  refine x_callSH (na := 4) (as := [vr E 40, vi ((E.2.2.2.2.2 1).2 (i + 1)), vi ((E.2.2.2.2.2 1).2 (i + 2)), vr E 111]) (rest := []) (hy := [(0, 10, 13, 19), (0, 10, 17, 13)]) wl_bar ws_bar wc_bar qSL (by decide) (by decide +kernel) (by decide) dL_law_805 rfl rfl (by decide) (by decide) (by omega) (by omega) (s_wbar (PX := PX) hE hI.1 (hsc _) (hsc _) (fun k9 q9 n' m' hr hc hk hu => ?_) (fun m' r hok hR hc hk h111 => ?_))
  · have hk3 := (hu9.2.2.2 _ _ hr).1
    refine af_bar (h := h) hI.1.1.1 (hI.N hk) hlen hl31 hsc (by omega) (by omega) (by omega) (fun m3 r3 ho => ?_)
    · have h9 := tw_ref hu9 hr hI hc hk hu (ho.mr (by decide) (hI.N hk) (hI.H hk))
      exact ⟨⟨h9.2.1, fun z => by omega⟩, x_wide (Nat.le_refl _) (by omega) (hK _ _ _ _ _ _ h9.1 (by rw [h9.2.2, hk.2.2 7 (by simp; omega)]; omega))⟩
  · refine af_bar (h := h) hI.1.1.1 (hI.N hk) hlen hl31 hsc (by omega) (by omega) (by omega) (fun m3 r3 ho => ?_)
    · have h9 := tw_ans hu9 hok hR hI hc hk (ho.mr (by decide) (hI.N hk) (hI.H hk))
      obtain ⟨⟨g1, g2, g3, g4⟩, rfl⟩ := h9
      exact ⟨⟨g2, fun _ => by rw [g3]; exact h111⟩, x_wide (Nat.le_refl _) (by omega) (hK _ _ _ _ _ _ g1 (by rw [g4, hk.2.2 7 (by simp)]; omega))⟩

set_option maxRecDepth 20000 in
theorem af_ship {E : xE} {f : Nat → Nat} {D : Nat → Nat × Nat} {n : Nat} {m : xM} {P : xPo} {PX : xPx} {v : Nat → Int} {h : List (Nat → Int)} {i kk nn : Nat} {c : Int} (hv : vOk v) (hN : mN v m) (hlen : i + 6 < (E.2.2.2.2.2 1).1) (hl31 : (E.2.2.2.2.2 1).1 < 2147483648) (hsc : ∀ j, -2147483648 ≤ (E.2.2.2.2.2 1).2 j ∧ (E.2.2.2.2.2 1).2 j ≤ 2147483647) (hc : 0 ≤ c ∧ c ≤ 3) (hkk : kk ≤ 600000) (hnn : nn ≤ 7000000) (hQ : ∀ m3 r3, moR (rf2 (0 ≤ ((E.2.2.2.2.2 1).2 (i + 1)) ∧ ((E.2.2.2.2.2 1).2 (i + 1)) < v 5) (0 ≤ ((E.2.2.2.2.2 1).2 (i + 2)) ∧ ((E.2.2.2.2.2 1).2 (i + 2)) ≤ 7) 0 1) ((0 ≤ ((E.2.2.2.2.2 1).2 (i + 1)) ∧ ((E.2.2.2.2.2 1).2 (i + 1)) < v 5) ∧ (0 ≤ ((E.2.2.2.2.2 1).2 (i + 2)) ∧ ((E.2.2.2.2.2 1).2 (i + 2)) ≤ 7)) (fun r => r = sh v ((E.2.2.2.2.2 1).2 (i + 1)).toNat ((E.2.2.2.2.2 1).2 (i + 2)).toNat) [] m m3 r3 → (m3 96 0 = c ∧ (c = 0 → m3 111 0 = r32 r3)) ∧ xX E (("law", some .boolean, []), (25, 600000, 7000000), P, PX) RL cL_law 7 kk nn 2309 [(0, vr E 1), (1, vr E 40), (2, vr E 96), (3, vr E 111), (4, vi (i : Int))] [] (gS f D n) m3) : xX E (("law", some .boolean, []), (25, 600000, 7000000), P, PX) RL cL_law 7 kk nn 876 [(0, vr E 1), (1, vr E 40), (2, vr E 96), (3, vr E 111), (4, vi (i : Int))] [vi c] (gS f D n) m := by
  refine x_istore dL_law_876 ?_
  refine x_aload_n dL_law_878 rfl ?_
  refine x_aload_n dL_law_879 rfl ?_
  refine x_iload dL_law_880 rfl ?_
  refine x_iconst dL_law_882 ?_
  refine x_iadd dL_law_883 ?_
  refine x_siald (j := i + 1) dL_law_884 (by decide) (by decide) (by omega) (by omega) (by omega) ?_
  refine x_aload_n dL_law_885 rfl ?_
  refine x_iload dL_law_886 rfl ?_
  refine x_iconst dL_law_888 ?_
  refine x_iadd dL_law_889 ?_
  refine x_siald (j := i + 2) dL_law_890 (by decide) (by decide) (by omega) (by omega) (by omega) ?_
  refine x_callV (as := [vi ((E.2.2.2.2.2 1).2 (i + 1)), vi ((E.2.2.2.2.2 1).2 (i + 2))]) (rest := []) (mc' := 0) (ms' := 0) mL_153 dL_law_891 rfl rfl rfl (by decide) (by decide) hkk hnn (s_mship hv hN (hsc _) (hsc _) (fun m3 r3 ho => ?_))
  obtain ⟨⟨e0, e1⟩, hX9⟩ := hQ m3 r3 ho
  refine x_istore dL_law_894 ?_
  refine x_aload_n dL_law_896 rfl ?_
  refine x_callV (as := []) (rest := []) (mc' := 0) (ms' := 0) mL_113 dL_law_897 rfl rfl rfl (by decide) (by decide) hkk hnn (s_mthrown ?_)
  refine x_ci e0 ?_
  refine x_iload dL_law_900 rfl ?_
  refine x_icmp_T (tgt := 907) dL_law_902 (by decide) ?_
  refine x_iload dL_law_907 rfl ?_
  refine x_if_ne (tgt := 924) dL_law_909 (by decide) (by omega) (fun _ => ?_) (fun hc0 => ?_)
  · refine x_goto (tgt := 2309) dL_law_924 (by decide) ?_
    exact x_loc (lv' := [(0, vr E 1), (1, vr E 40), (2, vr E 96), (3, vr E 111), (4, vi (i : Int))]) ⟨rfl, rfl, rfl, rfl, rfl, trivial⟩ hX9
  · refine x_aload_n dL_law_912 rfl ?_
    refine x_iconst dL_law_913 ?_
    refine x_lald (j := 0) dL_law_914 rfl rfl (by show 0 < 1; decide) (by decide) ?_
    refine x_topl (e1 hc0) ?_
    refine x_iload dL_law_915 rfl ?_
    refine x_i2lz dL_law_917 ?_
    refine x_leq_T (tgt := 924) dL_law_918 dL_law_919 (by decide) ?_
    refine x_goto (tgt := 2309) dL_law_924 (by decide) ?_
    exact x_loc (lv' := [(0, vr E 1), (1, vr E 40), (2, vr E 96), (3, vr E 111), (4, vi (i : Int))]) ⟨rfl, rfl, rfl, rfl, rfl, trivial⟩ hX9

theorem wl_ship : Cond.methodLink RL 151 yL_ship ∈ xTb := xTb_of 886 (by decide +kernel) (by decide +kernel)
theorem ws_ship : Cond.static yL_ship ∈ xTb := xTb_of 887 (by decide +kernel) (by decide +kernel)
theorem wc_ship : Cond.codeWith yL_ship cL_ship 5 (some .int) [(0, 10, 13, 19), (0, 10, 17, 13)] ∈ xTb := xTb_of 888 (by decide +kernel) (by decide +kernel)
set_option maxRecDepth 20000 in
theorem lw_ship {E : xE} {f : Nat → Nat} {D : Nat → Nat × Nat} {n : Nat} {m : xM} {P : xPo} {PX : xPx} {v : Nat → Int} {h : List (Nat → Int)} {i kk nn : Nat} (hE : eOk E) (hI : tI v h f D n m) (hlen : i + 6 < (E.2.2.2.2.2 1).1) (hl31 : (E.2.2.2.2.2 1).1 < 2147483648) (hsc : ∀ j, -2147483648 ≤ (E.2.2.2.2.2 1).2 j ∧ (E.2.2.2.2.2 1).2 j ≤ 2147483647) (hkk : kk + 8 ≤ 600000) (hnn : nn + 640 ≤ 7000000) (hK : ∀ v' h' f' D' n' m', tI v' h' f' D' n' m' → m' 40 7 ≤ m 40 7 + 1 → xX E (("law", some .boolean, []), (25, 600000, 7000000), P, PX) RL cL_law 7 (kk + 8) (nn + 640) 2309 [(0, vr E 1), (1, vr E 40), (2, vr E 96), (3, vr E 111), (4, vi (i : Int))] [] (gS f' D' n') m') : xX E (("law", some .boolean, []), (25, 600000, 7000000), P, PX) RL cL_law 7 kk nn 859 [(0, vr E 1), (1, vr E 40), (2, vr E 96), (3, vr E 111), (4, vi (i : Int))] [] (gS f D n) m := by
  have hu9 : uq (rf2 (0 ≤ ((E.2.2.2.2.2 1).2 (i + 1)) ∧ ((E.2.2.2.2.2 1).2 (i + 1)) < v 5) (0 ≤ ((E.2.2.2.2.2 1).2 (i + 2)) ∧ ((E.2.2.2.2.2 1).2 (i + 2)) ≤ 7) 0 1) ((0 ≤ ((E.2.2.2.2.2 1).2 (i + 1)) ∧ ((E.2.2.2.2.2 1).2 (i + 1)) < v 5) ∧ (0 ≤ ((E.2.2.2.2.2 1).2 (i + 2)) ∧ ((E.2.2.2.2.2 1).2 (i + 2)) ≤ 7)) (fun r => r = sh v ((E.2.2.2.2.2 1).2 (i + 1)).toNat ((E.2.2.2.2.2 1).2 (i + 2)).toNat) := uq2 (by decide) (by decide) (fun r r' _ a b => a.trans b.symm)
  refine x_aload_n dL_law_859 rfl ?_
  refine x_aload_n dL_law_860 rfl ?_
  refine x_iload dL_law_861 rfl ?_
  refine x_iconst dL_law_863 ?_
  refine x_iadd dL_law_864 ?_
  refine x_siald (j := i + 1) dL_law_865 (by decide) (by decide) (by omega) (by omega) (by omega) ?_
  refine x_aload_n dL_law_866 rfl ?_
  refine x_iload dL_law_867 rfl ?_
  refine x_iconst dL_law_869 ?_
  refine x_iadd dL_law_870 ?_
  refine x_siald (j := i + 2) dL_law_871 (by decide) (by decide) (by omega) (by omega) (by omega) ?_
  refine x_aload_n dL_law_872 rfl ?_
  refine x_callSH (na := 4) (as := [vr E 40, vi ((E.2.2.2.2.2 1).2 (i + 1)), vi ((E.2.2.2.2.2 1).2 (i + 2)), vr E 111]) (rest := []) (hy := [(0, 10, 13, 19), (0, 10, 17, 13)]) wl_ship ws_ship wc_ship qSL (by decide) (by decide +kernel) (by decide) dL_law_873 rfl rfl (by decide) (by decide) (by omega) (by omega) (s_wship (PX := PX) hE hI.1 (hsc _) (hsc _) (fun k9 q9 n' m' hr hc hk hu => ?_) (fun m' r hok hR hc hk h111 => ?_))
  · have hk3 := (hu9.2.2.2 _ _ hr).1
    refine af_ship (h := h) hI.1.1.1 (hI.N hk) hlen hl31 hsc (by omega) (by omega) (by omega) (fun m3 r3 ho => ?_)
    · have h9 := tw_ref hu9 hr hI hc hk hu (ho.mr (by decide) (hI.N hk) (hI.H hk))
      exact ⟨⟨h9.2.1, fun z => by omega⟩, x_wide (Nat.le_refl _) (by omega) (hK _ _ _ _ _ _ h9.1 (by rw [h9.2.2, hk.2.2 7 (by simp; omega)]; omega))⟩
  · refine af_ship (h := h) hI.1.1.1 (hI.N hk) hlen hl31 hsc (by omega) (by omega) (by omega) (fun m3 r3 ho => ?_)
    · have h9 := tw_ans hu9 hok hR hI hc hk (ho.mr (by decide) (hI.N hk) (hI.H hk))
      obtain ⟨⟨g1, g2, g3, g4⟩, rfl⟩ := h9
      exact ⟨⟨g2, fun _ => by rw [g3]; exact h111⟩, x_wide (Nat.le_refl _) (by omega) (hK _ _ _ _ _ _ g1 (by rw [g4, hk.2.2 7 (by simp)]; omega))⟩

set_option maxRecDepth 20000 in
theorem af_height {E : xE} {f : Nat → Nat} {D : Nat → Nat × Nat} {n : Nat} {m : xM} {P : xPo} {PX : xPx} {v : Nat → Int} {h : List (Nat → Int)} {i kk nn : Nat} {c : Int} (hv : vOk v) (hN : mN v m) (hlen : i + 6 < (E.2.2.2.2.2 1).1) (hl31 : (E.2.2.2.2.2 1).1 < 2147483648) (hsc : ∀ j, -2147483648 ≤ (E.2.2.2.2.2 1).2 j ∧ (E.2.2.2.2.2 1).2 j ≤ 2147483647) (hc : 0 ≤ c ∧ c ≤ 3) (hkk : kk ≤ 600000) (hnn : nn ≤ 7000000) (hQ : ∀ m3 r3, moR (rf1 (0 ≤ ((E.2.2.2.2.2 1).2 (i + 1)) ∧ ((E.2.2.2.2.2 1).2 (i + 1)) ≤ 10000) 1) (0 ≤ ((E.2.2.2.2.2 1).2 (i + 1)) ∧ ((E.2.2.2.2.2 1).2 (i + 1)) ≤ 10000) (fun r => r = ht v ((E.2.2.2.2.2 1).2 (i + 1))) [] m m3 r3 → (m3 96 0 = c ∧ (c = 0 → m3 111 0 = r32 r3)) ∧ xX E (("law", some .boolean, []), (25, 600000, 7000000), P, PX) RL cL_law 7 kk nn 2309 [(0, vr E 1), (1, vr E 40), (2, vr E 96), (3, vr E 111), (4, vi (i : Int))] [] (gS f D n) m3) : xX E (("law", some .boolean, []), (25, 600000, 7000000), P, PX) RL cL_law 7 kk nn 938 [(0, vr E 1), (1, vr E 40), (2, vr E 96), (3, vr E 111), (4, vi (i : Int))] [vi c] (gS f D n) m := by
  refine x_istore dL_law_938 ?_
  refine x_aload_n dL_law_940 rfl ?_
  refine x_aload_n dL_law_941 rfl ?_
  refine x_iload dL_law_942 rfl ?_
  refine x_iconst dL_law_944 ?_
  refine x_iadd dL_law_945 ?_
  refine x_siald (j := i + 1) dL_law_946 (by decide) (by decide) (by omega) (by omega) (by omega) ?_
  refine x_callV (as := [vi ((E.2.2.2.2.2 1).2 (i + 1))]) (rest := []) (mc' := 0) (ms' := 0) mL_156 dL_law_947 rfl rfl rfl (by decide) (by decide) hkk hnn (s_mheight hv hN (hsc _) (fun m3 r3 ho => ?_))
  obtain ⟨⟨e0, e1⟩, hX9⟩ := hQ m3 r3 ho
  refine x_istore dL_law_950 ?_
  refine x_aload_n dL_law_952 rfl ?_
  refine x_callV (as := []) (rest := []) (mc' := 0) (ms' := 0) mL_113 dL_law_953 rfl rfl rfl (by decide) (by decide) hkk hnn (s_mthrown ?_)
  refine x_ci e0 ?_
  refine x_iload dL_law_956 rfl ?_
  refine x_icmp_T (tgt := 963) dL_law_958 (by decide) ?_
  refine x_iload dL_law_963 rfl ?_
  refine x_if_ne (tgt := 980) dL_law_965 (by decide) (by omega) (fun _ => ?_) (fun hc0 => ?_)
  · refine x_goto (tgt := 2309) dL_law_980 (by decide) ?_
    exact x_loc (lv' := [(0, vr E 1), (1, vr E 40), (2, vr E 96), (3, vr E 111), (4, vi (i : Int))]) ⟨rfl, rfl, rfl, rfl, rfl, trivial⟩ hX9
  · refine x_aload_n dL_law_968 rfl ?_
    refine x_iconst dL_law_969 ?_
    refine x_lald (j := 0) dL_law_970 rfl rfl (by show 0 < 1; decide) (by decide) ?_
    refine x_topl (e1 hc0) ?_
    refine x_iload dL_law_971 rfl ?_
    refine x_i2lz dL_law_973 ?_
    refine x_leq_T (tgt := 980) dL_law_974 dL_law_975 (by decide) ?_
    refine x_goto (tgt := 2309) dL_law_980 (by decide) ?_
    exact x_loc (lv' := [(0, vr E 1), (1, vr E 40), (2, vr E 96), (3, vr E 111), (4, vi (i : Int))]) ⟨rfl, rfl, rfl, rfl, rfl, trivial⟩ hX9

theorem wl_height : Cond.methodLink RL 154 yL_height ∈ xTb := xTb_of 893 (by decide +kernel) (by decide +kernel)
theorem ws_height : Cond.static yL_height ∈ xTb := xTb_of 894 (by decide +kernel) (by decide +kernel)
theorem wc_height : Cond.codeWith yL_height cL_height 4 (some .int) [(0, 9, 12, 13)] ∈ xTb := xTb_of 895 (by decide +kernel) (by decide +kernel)
set_option maxRecDepth 20000 in
theorem lw_height {E : xE} {f : Nat → Nat} {D : Nat → Nat × Nat} {n : Nat} {m : xM} {P : xPo} {PX : xPx} {v : Nat → Int} {h : List (Nat → Int)} {i kk nn : Nat} (hE : eOk E) (hI : tI v h f D n m) (hlen : i + 6 < (E.2.2.2.2.2 1).1) (hl31 : (E.2.2.2.2.2 1).1 < 2147483648) (hsc : ∀ j, -2147483648 ≤ (E.2.2.2.2.2 1).2 j ∧ (E.2.2.2.2.2 1).2 j ≤ 2147483647) (hkk : kk + 8 ≤ 600000) (hnn : nn + 640 ≤ 7000000) (hK : ∀ v' h' f' D' n' m', tI v' h' f' D' n' m' → m' 40 7 ≤ m 40 7 + 1 → xX E (("law", some .boolean, []), (25, 600000, 7000000), P, PX) RL cL_law 7 (kk + 8) (nn + 640) 2309 [(0, vr E 1), (1, vr E 40), (2, vr E 96), (3, vr E 111), (4, vi (i : Int))] [] (gS f' D' n') m') : xX E (("law", some .boolean, []), (25, 600000, 7000000), P, PX) RL cL_law 7 kk nn 927 [(0, vr E 1), (1, vr E 40), (2, vr E 96), (3, vr E 111), (4, vi (i : Int))] [] (gS f D n) m := by
  have hu9 : uq (rf1 (0 ≤ ((E.2.2.2.2.2 1).2 (i + 1)) ∧ ((E.2.2.2.2.2 1).2 (i + 1)) ≤ 10000) 1) (0 ≤ ((E.2.2.2.2.2 1).2 (i + 1)) ∧ ((E.2.2.2.2.2 1).2 (i + 1)) ≤ 10000) (fun r => r = ht v ((E.2.2.2.2.2 1).2 (i + 1))) := uq1 (by decide) (fun r r' _ a b => a.trans b.symm)
  refine x_aload_n dL_law_927 rfl ?_
  refine x_aload_n dL_law_928 rfl ?_
  refine x_iload dL_law_929 rfl ?_
  refine x_iconst dL_law_931 ?_
  refine x_iadd dL_law_932 ?_
  refine x_siald (j := i + 1) dL_law_933 (by decide) (by decide) (by omega) (by omega) (by omega) ?_
  refine x_aload_n dL_law_934 rfl ?_
  refine x_callSH (na := 3) (as := [vr E 40, vi ((E.2.2.2.2.2 1).2 (i + 1)), vr E 111]) (rest := []) (hy := [(0, 9, 12, 13)]) wl_height ws_height wc_height qSL (by decide) (by decide +kernel) (by decide) dL_law_935 rfl rfl (by decide) (by decide) (by omega) (by omega) (s_wheight (PX := PX) hE hI.1 (hsc _) (fun k9 q9 n' m' hr hc hk hu => ?_) (fun m' r hok hR hc hk h111 => ?_))
  · have hk3 := (hu9.2.2.2 _ _ hr).1
    refine af_height (h := h) hI.1.1.1 (hI.N hk) hlen hl31 hsc (by omega) (by omega) (by omega) (fun m3 r3 ho => ?_)
    · have h9 := tw_ref hu9 hr hI hc hk hu (ho.mr (by decide) (hI.N hk) (hI.H hk))
      exact ⟨⟨h9.2.1, fun z => by omega⟩, x_wide (Nat.le_refl _) (by omega) (hK _ _ _ _ _ _ h9.1 (by rw [h9.2.2, hk.2.2 7 (by simp; omega)]; omega))⟩
  · refine af_height (h := h) hI.1.1.1 (hI.N hk) hlen hl31 hsc (by omega) (by omega) (by omega) (fun m3 r3 ho => ?_)
    · have h9 := tw_ans hu9 hok hR hI hc hk (ho.mr (by decide) (hI.N hk) (hI.H hk))
      obtain ⟨⟨g1, g2, g3, g4⟩, rfl⟩ := h9
      exact ⟨⟨g2, fun _ => by rw [g3]; exact h111⟩, x_wide (Nat.le_refl _) (by omega) (hK _ _ _ _ _ _ g1 (by rw [g4, hk.2.2 7 (by simp)]; omega))⟩

set_option maxRecDepth 20000 in
theorem af_peak {E : xE} {f : Nat → Nat} {D : Nat → Nat × Nat} {n : Nat} {m : xM} {P : xPo} {PX : xPx} {v : Nat → Int} {h : List (Nat → Int)} {i kk nn : Nat} {c : Int} (hv : vOk v) (hN : mN v m) (hlen : i + 6 < (E.2.2.2.2.2 1).1) (hl31 : (E.2.2.2.2.2 1).1 < 2147483648) (hsc : ∀ j, -2147483648 ≤ (E.2.2.2.2.2 1).2 j ∧ (E.2.2.2.2.2 1).2 j ≤ 2147483647) (hc : 0 ≤ c ∧ c ≤ 3) (hkk : kk ≤ 600000) (hnn : nn ≤ 7000000) (hQ : ∀ m3 r3, moR (rf1 ((0 ≤ ((E.2.2.2.2.2 1).2 (i + 1)) ∧ ((E.2.2.2.2.2 1).2 (i + 1)) ≤ 10000) ∧ (1 ≤ ((E.2.2.2.2.2 1).2 (i + 2)) ∧ ((E.2.2.2.2.2 1).2 (i + 2)) ≤ 2000) ∧ (0 ≤ ((E.2.2.2.2.2 1).2 (i + 3)) ∧ ((E.2.2.2.2.2 1).2 (i + 3)) ≤ 1)) 1) ((0 ≤ ((E.2.2.2.2.2 1).2 (i + 1)) ∧ ((E.2.2.2.2.2 1).2 (i + 1)) ≤ 10000) ∧ (1 ≤ ((E.2.2.2.2.2 1).2 (i + 2)) ∧ ((E.2.2.2.2.2 1).2 (i + 2)) ≤ 2000) ∧ (0 ≤ ((E.2.2.2.2.2 1).2 (i + 3)) ∧ ((E.2.2.2.2.2 1).2 (i + 3)) ≤ 1)) (fun r => pkR v ((E.2.2.2.2.2 1).2 (i + 1)) ((E.2.2.2.2.2 1).2 (i + 2)) ((E.2.2.2.2.2 1).2 (i + 3)) r) [] m m3 r3 → (m3 96 0 = c ∧ (c = 0 → m3 111 0 = r32 r3)) ∧ xX E (("law", some .boolean, []), (25, 600000, 7000000), P, PX) RL cL_law 7 kk nn 2309 [(0, vr E 1), (1, vr E 40), (2, vr E 96), (3, vr E 111), (4, vi (i : Int))] [] (gS f D n) m3) : xX E (("law", some .boolean, []), (25, 600000, 7000000), P, PX) RL cL_law 7 kk nn 1006 [(0, vr E 1), (1, vr E 40), (2, vr E 96), (3, vr E 111), (4, vi (i : Int))] [vi c] (gS f D n) m := by
  refine x_istore dL_law_1006 ?_
  refine x_aload_n dL_law_1008 rfl ?_
  refine x_aload_n dL_law_1009 rfl ?_
  refine x_iload dL_law_1010 rfl ?_
  refine x_iconst dL_law_1012 ?_
  refine x_iadd dL_law_1013 ?_
  refine x_siald (j := i + 1) dL_law_1014 (by decide) (by decide) (by omega) (by omega) (by omega) ?_
  refine x_aload_n dL_law_1015 rfl ?_
  refine x_iload dL_law_1016 rfl ?_
  refine x_iconst dL_law_1018 ?_
  refine x_iadd dL_law_1019 ?_
  refine x_siald (j := i + 2) dL_law_1020 (by decide) (by decide) (by omega) (by omega) (by omega) ?_
  refine x_aload_n dL_law_1021 rfl ?_
  refine x_iload dL_law_1022 rfl ?_
  refine x_iconst dL_law_1024 ?_
  refine x_iadd dL_law_1025 ?_
  refine x_siald (j := i + 3) dL_law_1026 (by decide) (by decide) (by omega) (by omega) (by omega) ?_
  refine x_callV (as := [vi ((E.2.2.2.2.2 1).2 (i + 1)), vi ((E.2.2.2.2.2 1).2 (i + 2)), vi ((E.2.2.2.2.2 1).2 (i + 3))]) (rest := []) (mc' := 0) (ms' := 0) mL_159 dL_law_1027 rfl rfl rfl (by decide) (by decide) hkk hnn (s_mpeak hv hN (hsc _) (hsc _) (hsc _) (fun m3 r3 ho => ?_))
  obtain ⟨⟨e0, e1⟩, hX9⟩ := hQ m3 r3 ho
  refine x_istore dL_law_1030 ?_
  refine x_aload_n dL_law_1032 rfl ?_
  refine x_callV (as := []) (rest := []) (mc' := 0) (ms' := 0) mL_113 dL_law_1033 rfl rfl rfl (by decide) (by decide) hkk hnn (s_mthrown ?_)
  refine x_ci e0 ?_
  refine x_iload dL_law_1036 rfl ?_
  refine x_icmp_T (tgt := 1043) dL_law_1038 (by decide) ?_
  refine x_iload dL_law_1043 rfl ?_
  refine x_if_ne (tgt := 1060) dL_law_1045 (by decide) (by omega) (fun _ => ?_) (fun hc0 => ?_)
  · refine x_goto (tgt := 2309) dL_law_1060 (by decide) ?_
    exact x_loc (lv' := [(0, vr E 1), (1, vr E 40), (2, vr E 96), (3, vr E 111), (4, vi (i : Int))]) ⟨rfl, rfl, rfl, rfl, rfl, trivial⟩ hX9
  · refine x_aload_n dL_law_1048 rfl ?_
    refine x_iconst dL_law_1049 ?_
    refine x_lald (j := 0) dL_law_1050 rfl rfl (by show 0 < 1; decide) (by decide) ?_
    refine x_topl (e1 hc0) ?_
    refine x_iload dL_law_1051 rfl ?_
    refine x_i2lz dL_law_1053 ?_
    refine x_leq_T (tgt := 1060) dL_law_1054 dL_law_1055 (by decide) ?_
    refine x_goto (tgt := 2309) dL_law_1060 (by decide) ?_
    exact x_loc (lv' := [(0, vr E 1), (1, vr E 40), (2, vr E 96), (3, vr E 111), (4, vi (i : Int))]) ⟨rfl, rfl, rfl, rfl, rfl, trivial⟩ hX9

theorem wl_peak : Cond.methodLink RL 157 yL_peak ∈ xTb := xTb_of 905 (by decide +kernel) (by decide +kernel)
theorem ws_peak : Cond.static yL_peak ∈ xTb := xTb_of 906 (by decide +kernel) (by decide +kernel)
theorem wc_peak : Cond.codeWith yL_peak cL_peak 6 (some .int) [(0, 12, 15, 13)] ∈ xTb := xTb_of 907 (by decide +kernel) (by decide +kernel)
set_option maxRecDepth 20000 in
theorem lw_peak {E : xE} {f : Nat → Nat} {D : Nat → Nat × Nat} {n : Nat} {m : xM} {P : xPo} {PX : xPx} {v : Nat → Int} {h : List (Nat → Int)} {i kk nn : Nat} (hE : eOk E) (hI : tI v h f D n m) (hlen : i + 6 < (E.2.2.2.2.2 1).1) (hl31 : (E.2.2.2.2.2 1).1 < 2147483648) (hsc : ∀ j, -2147483648 ≤ (E.2.2.2.2.2 1).2 j ∧ (E.2.2.2.2.2 1).2 j ≤ 2147483647) (hkk : kk + 8 ≤ 600000) (hnn : nn + 640 ≤ 7000000) (hK : ∀ v' h' f' D' n' m', tI v' h' f' D' n' m' → m' 40 7 ≤ m 40 7 + 1 → xX E (("law", some .boolean, []), (25, 600000, 7000000), P, PX) RL cL_law 7 (kk + 8) (nn + 640) 2309 [(0, vr E 1), (1, vr E 40), (2, vr E 96), (3, vr E 111), (4, vi (i : Int))] [] (gS f' D' n') m') : xX E (("law", some .boolean, []), (25, 600000, 7000000), P, PX) RL cL_law 7 kk nn 983 [(0, vr E 1), (1, vr E 40), (2, vr E 96), (3, vr E 111), (4, vi (i : Int))] [] (gS f D n) m := by
  have hu9 : uq (rf1 ((0 ≤ ((E.2.2.2.2.2 1).2 (i + 1)) ∧ ((E.2.2.2.2.2 1).2 (i + 1)) ≤ 10000) ∧ (1 ≤ ((E.2.2.2.2.2 1).2 (i + 2)) ∧ ((E.2.2.2.2.2 1).2 (i + 2)) ≤ 2000) ∧ (0 ≤ ((E.2.2.2.2.2 1).2 (i + 3)) ∧ ((E.2.2.2.2.2 1).2 (i + 3)) ≤ 1)) 1) ((0 ≤ ((E.2.2.2.2.2 1).2 (i + 1)) ∧ ((E.2.2.2.2.2 1).2 (i + 1)) ≤ 10000) ∧ (1 ≤ ((E.2.2.2.2.2 1).2 (i + 2)) ∧ ((E.2.2.2.2.2 1).2 (i + 2)) ≤ 2000) ∧ (0 ≤ ((E.2.2.2.2.2 1).2 (i + 3)) ∧ ((E.2.2.2.2.2 1).2 (i + 3)) ≤ 1)) (fun r => pkR v ((E.2.2.2.2.2 1).2 (i + 1)) ((E.2.2.2.2.2 1).2 (i + 2)) ((E.2.2.2.2.2 1).2 (i + 3)) r) := uq1 (by decide) (fun r r' _ a b => pkR_u a b)
  refine x_aload_n dL_law_983 rfl ?_
  refine x_aload_n dL_law_984 rfl ?_
  refine x_iload dL_law_985 rfl ?_
  refine x_iconst dL_law_987 ?_
  refine x_iadd dL_law_988 ?_
  refine x_siald (j := i + 1) dL_law_989 (by decide) (by decide) (by omega) (by omega) (by omega) ?_
  refine x_aload_n dL_law_990 rfl ?_
  refine x_iload dL_law_991 rfl ?_
  refine x_iconst dL_law_993 ?_
  refine x_iadd dL_law_994 ?_
  refine x_siald (j := i + 2) dL_law_995 (by decide) (by decide) (by omega) (by omega) (by omega) ?_
  refine x_aload_n dL_law_996 rfl ?_
  refine x_iload dL_law_997 rfl ?_
  refine x_iconst dL_law_999 ?_
  refine x_iadd dL_law_1000 ?_
  refine x_siald (j := i + 3) dL_law_1001 (by decide) (by decide) (by omega) (by omega) (by omega) ?_
  refine x_aload_n dL_law_1002 rfl ?_
  refine x_callSH (na := 5) (as := [vr E 40, vi ((E.2.2.2.2.2 1).2 (i + 1)), vi ((E.2.2.2.2.2 1).2 (i + 2)), vi ((E.2.2.2.2.2 1).2 (i + 3)), vr E 111]) (rest := []) (hy := [(0, 12, 15, 13)]) wl_peak ws_peak wc_peak qSL (by decide) (by decide +kernel) (by decide) dL_law_1003 rfl rfl (by decide) (by decide) (by omega) (by omega) (s_wpeak (PX := PX) hE hI.1 (hsc _) (hsc _) (hsc _) (fun k9 q9 n' m' hr hc hk hu => ?_) (fun m' r hok hR hc hk h111 => ?_))
  · have hk3 := (hu9.2.2.2 _ _ hr).1
    refine af_peak (h := h) hI.1.1.1 (hI.N hk) hlen hl31 hsc (by omega) (by omega) (by omega) (fun m3 r3 ho => ?_)
    · have h9 := tw_ref hu9 hr hI hc hk hu (ho.mr (by decide) (hI.N hk) (hI.H hk))
      exact ⟨⟨h9.2.1, fun z => by omega⟩, x_wide (Nat.le_refl _) (by omega) (hK _ _ _ _ _ _ h9.1 (by rw [h9.2.2, hk.2.2 7 (by simp; omega)]; omega))⟩
  · refine af_peak (h := h) hI.1.1.1 (hI.N hk) hlen hl31 hsc (by omega) (by omega) (by omega) (fun m3 r3 ho => ?_)
    · have h9 := tw_ans hu9 hok hR hI hc hk (ho.mr (by decide) (hI.N hk) (hI.H hk))
      obtain ⟨⟨g1, g2, g3, g4⟩, rfl⟩ := h9
      exact ⟨⟨g2, fun _ => by rw [g3]; exact h111⟩, x_wide (Nat.le_refl _) (by omega) (hK _ _ _ _ _ _ g1 (by rw [g4, hk.2.2 7 (by simp)]; omega))⟩

set_option maxRecDepth 20000 in
theorem af_water {E : xE} {f : Nat → Nat} {D : Nat → Nat × Nat} {n : Nat} {m : xM} {P : xPo} {PX : xPx} {v : Nat → Int} {h : List (Nat → Int)} {i kk nn : Nat} {c : Int} (hv : vOk v) (hN : mN v m) (hlen : i + 6 < (E.2.2.2.2.2 1).1) (hl31 : (E.2.2.2.2.2 1).1 < 2147483648) (hsc : ∀ j, -2147483648 ≤ (E.2.2.2.2.2 1).2 j ∧ (E.2.2.2.2.2 1).2 j ≤ 2147483647) (hc : 0 ≤ c ∧ c ≤ 3) (hkk : kk ≤ 600000) (hnn : nn ≤ 7000000) (hQ : ∀ m3 r3, moR (rf2 (0 ≤ ((E.2.2.2.2.2 1).2 (i + 1)) ∧ ((E.2.2.2.2.2 1).2 (i + 1)) < v 4) (0 ≤ ((E.2.2.2.2.2 1).2 (i + 2)) ∧ ((E.2.2.2.2.2 1).2 (i + 2)) ≤ 10000) 0 1) ((0 ≤ ((E.2.2.2.2.2 1).2 (i + 1)) ∧ ((E.2.2.2.2.2 1).2 (i + 1)) < v 4) ∧ (0 ≤ ((E.2.2.2.2.2 1).2 (i + 2)) ∧ ((E.2.2.2.2.2 1).2 (i + 2)) ≤ 10000)) (fun r => r = wa v ((E.2.2.2.2.2 1).2 (i + 1)).toNat ((E.2.2.2.2.2 1).2 (i + 2))) [] m m3 r3 → (m3 96 0 = c ∧ (c = 0 → m3 111 0 = r32 r3)) ∧ xX E (("law", some .boolean, []), (25, 600000, 7000000), P, PX) RL cL_law 7 kk nn 2309 [(0, vr E 1), (1, vr E 40), (2, vr E 96), (3, vr E 111), (4, vi (i : Int))] [] (gS f D n) m3) : xX E (("law", some .boolean, []), (25, 600000, 7000000), P, PX) RL cL_law 7 kk nn 1080 [(0, vr E 1), (1, vr E 40), (2, vr E 96), (3, vr E 111), (4, vi (i : Int))] [vi c] (gS f D n) m := by
  refine x_istore dL_law_1080 ?_
  refine x_aload_n dL_law_1082 rfl ?_
  refine x_aload_n dL_law_1083 rfl ?_
  refine x_iload dL_law_1084 rfl ?_
  refine x_iconst dL_law_1086 ?_
  refine x_iadd dL_law_1087 ?_
  refine x_siald (j := i + 1) dL_law_1088 (by decide) (by decide) (by omega) (by omega) (by omega) ?_
  refine x_aload_n dL_law_1089 rfl ?_
  refine x_iload dL_law_1090 rfl ?_
  refine x_iconst dL_law_1092 ?_
  refine x_iadd dL_law_1093 ?_
  refine x_siald (j := i + 2) dL_law_1094 (by decide) (by decide) (by omega) (by omega) (by omega) ?_
  refine x_callV (as := [vi ((E.2.2.2.2.2 1).2 (i + 1)), vi ((E.2.2.2.2.2 1).2 (i + 2))]) (rest := []) (mc' := 0) (ms' := 0) mL_162 dL_law_1095 rfl rfl rfl (by decide) (by decide) hkk hnn (s_mwater hv hN (hsc _) (hsc _) (fun m3 r3 ho => ?_))
  obtain ⟨⟨e0, e1⟩, hX9⟩ := hQ m3 r3 ho
  refine x_istore dL_law_1098 ?_
  refine x_aload_n dL_law_1100 rfl ?_
  refine x_callV (as := []) (rest := []) (mc' := 0) (ms' := 0) mL_113 dL_law_1101 rfl rfl rfl (by decide) (by decide) hkk hnn (s_mthrown ?_)
  refine x_ci e0 ?_
  refine x_iload dL_law_1104 rfl ?_
  refine x_icmp_T (tgt := 1111) dL_law_1106 (by decide) ?_
  refine x_iload dL_law_1111 rfl ?_
  refine x_if_ne (tgt := 1128) dL_law_1113 (by decide) (by omega) (fun _ => ?_) (fun hc0 => ?_)
  · refine x_goto (tgt := 2309) dL_law_1128 (by decide) ?_
    exact x_loc (lv' := [(0, vr E 1), (1, vr E 40), (2, vr E 96), (3, vr E 111), (4, vi (i : Int))]) ⟨rfl, rfl, rfl, rfl, rfl, trivial⟩ hX9
  · refine x_aload_n dL_law_1116 rfl ?_
    refine x_iconst dL_law_1117 ?_
    refine x_lald (j := 0) dL_law_1118 rfl rfl (by show 0 < 1; decide) (by decide) ?_
    refine x_topl (e1 hc0) ?_
    refine x_iload dL_law_1119 rfl ?_
    refine x_i2lz dL_law_1121 ?_
    refine x_leq_T (tgt := 1128) dL_law_1122 dL_law_1123 (by decide) ?_
    refine x_goto (tgt := 2309) dL_law_1128 (by decide) ?_
    exact x_loc (lv' := [(0, vr E 1), (1, vr E 40), (2, vr E 96), (3, vr E 111), (4, vi (i : Int))]) ⟨rfl, rfl, rfl, rfl, rfl, trivial⟩ hX9

theorem wl_water : Cond.methodLink RL 160 yL_water ∈ xTb := xTb_of 912 (by decide +kernel) (by decide +kernel)
theorem ws_water : Cond.static yL_water ∈ xTb := xTb_of 913 (by decide +kernel) (by decide +kernel)
theorem wc_water : Cond.codeWith yL_water cL_water 5 (some .int) [(0, 10, 13, 19), (0, 10, 17, 13)] ∈ xTb := xTb_of 914 (by decide +kernel) (by decide +kernel)
set_option maxRecDepth 20000 in
theorem lw_water {E : xE} {f : Nat → Nat} {D : Nat → Nat × Nat} {n : Nat} {m : xM} {P : xPo} {PX : xPx} {v : Nat → Int} {h : List (Nat → Int)} {i kk nn : Nat} (hE : eOk E) (hI : tI v h f D n m) (hlen : i + 6 < (E.2.2.2.2.2 1).1) (hl31 : (E.2.2.2.2.2 1).1 < 2147483648) (hsc : ∀ j, -2147483648 ≤ (E.2.2.2.2.2 1).2 j ∧ (E.2.2.2.2.2 1).2 j ≤ 2147483647) (hkk : kk + 8 ≤ 600000) (hnn : nn + 640 ≤ 7000000) (hK : ∀ v' h' f' D' n' m', tI v' h' f' D' n' m' → m' 40 7 ≤ m 40 7 + 1 → xX E (("law", some .boolean, []), (25, 600000, 7000000), P, PX) RL cL_law 7 (kk + 8) (nn + 640) 2309 [(0, vr E 1), (1, vr E 40), (2, vr E 96), (3, vr E 111), (4, vi (i : Int))] [] (gS f' D' n') m') : xX E (("law", some .boolean, []), (25, 600000, 7000000), P, PX) RL cL_law 7 kk nn 1063 [(0, vr E 1), (1, vr E 40), (2, vr E 96), (3, vr E 111), (4, vi (i : Int))] [] (gS f D n) m := by
  have hu9 : uq (rf2 (0 ≤ ((E.2.2.2.2.2 1).2 (i + 1)) ∧ ((E.2.2.2.2.2 1).2 (i + 1)) < v 4) (0 ≤ ((E.2.2.2.2.2 1).2 (i + 2)) ∧ ((E.2.2.2.2.2 1).2 (i + 2)) ≤ 10000) 0 1) ((0 ≤ ((E.2.2.2.2.2 1).2 (i + 1)) ∧ ((E.2.2.2.2.2 1).2 (i + 1)) < v 4) ∧ (0 ≤ ((E.2.2.2.2.2 1).2 (i + 2)) ∧ ((E.2.2.2.2.2 1).2 (i + 2)) ≤ 10000)) (fun r => r = wa v ((E.2.2.2.2.2 1).2 (i + 1)).toNat ((E.2.2.2.2.2 1).2 (i + 2))) := uq2 (by decide) (by decide) (fun r r' _ a b => a.trans b.symm)
  refine x_aload_n dL_law_1063 rfl ?_
  refine x_aload_n dL_law_1064 rfl ?_
  refine x_iload dL_law_1065 rfl ?_
  refine x_iconst dL_law_1067 ?_
  refine x_iadd dL_law_1068 ?_
  refine x_siald (j := i + 1) dL_law_1069 (by decide) (by decide) (by omega) (by omega) (by omega) ?_
  refine x_aload_n dL_law_1070 rfl ?_
  refine x_iload dL_law_1071 rfl ?_
  refine x_iconst dL_law_1073 ?_
  refine x_iadd dL_law_1074 ?_
  refine x_siald (j := i + 2) dL_law_1075 (by decide) (by decide) (by omega) (by omega) (by omega) ?_
  refine x_aload_n dL_law_1076 rfl ?_
  refine x_callSH (na := 4) (as := [vr E 40, vi ((E.2.2.2.2.2 1).2 (i + 1)), vi ((E.2.2.2.2.2 1).2 (i + 2)), vr E 111]) (rest := []) (hy := [(0, 10, 13, 19), (0, 10, 17, 13)]) wl_water ws_water wc_water qSL (by decide) (by decide +kernel) (by decide) dL_law_1077 rfl rfl (by decide) (by decide) (by omega) (by omega) (s_wwater (PX := PX) hE hI.1 (hsc _) (hsc _) (fun k9 q9 n' m' hr hc hk hu => ?_) (fun m' r hok hR hc hk h111 => ?_))
  · have hk3 := (hu9.2.2.2 _ _ hr).1
    refine af_water (h := h) hI.1.1.1 (hI.N hk) hlen hl31 hsc (by omega) (by omega) (by omega) (fun m3 r3 ho => ?_)
    · have h9 := tw_ref hu9 hr hI hc hk hu (ho.mr (by decide) (hI.N hk) (hI.H hk))
      exact ⟨⟨h9.2.1, fun z => by omega⟩, x_wide (Nat.le_refl _) (by omega) (hK _ _ _ _ _ _ h9.1 (by rw [h9.2.2, hk.2.2 7 (by simp; omega)]; omega))⟩
  · refine af_water (h := h) hI.1.1.1 (hI.N hk) hlen hl31 hsc (by omega) (by omega) (by omega) (fun m3 r3 ho => ?_)
    · have h9 := tw_ans hu9 hok hR hI hc hk (ho.mr (by decide) (hI.N hk) (hI.H hk))
      obtain ⟨⟨g1, g2, g3, g4⟩, rfl⟩ := h9
      exact ⟨⟨g2, fun _ => by rw [g3]; exact h111⟩, x_wide (Nat.le_refl _) (by omega) (hK _ _ _ _ _ _ g1 (by rw [g4, hk.2.2 7 (by simp)]; omega))⟩

set_option maxRecDepth 20000 in
theorem af_above {E : xE} {f : Nat → Nat} {D : Nat → Nat × Nat} {n : Nat} {m : xM} {P : xPo} {PX : xPx} {v : Nat → Int} {h : List (Nat → Int)} {i kk nn : Nat} {c : Int} (hv : vOk v) (hN : mN v m) (hlen : i + 6 < (E.2.2.2.2.2 1).1) (hl31 : (E.2.2.2.2.2 1).1 < 2147483648) (hsc : ∀ j, -2147483648 ≤ (E.2.2.2.2.2 1).2 j ∧ (E.2.2.2.2.2 1).2 j ≤ 2147483647) (hc : 0 ≤ c ∧ c ≤ 3) (hkk : kk ≤ 600000) (hnn : nn ≤ 7000000) (hQ : ∀ m3 r3, moR (rf2 (0 ≤ ((E.2.2.2.2.2 1).2 (i + 1)) ∧ ((E.2.2.2.2.2 1).2 (i + 1)) < v 4) ((0 ≤ ((E.2.2.2.2.2 1).2 (i + 3)) ∧ ((E.2.2.2.2.2 1).2 (i + 3)) ≤ 10000) ∧ (0 ≤ ((E.2.2.2.2.2 1).2 (i + 4)) ∧ ((E.2.2.2.2.2 1).2 (i + 4)) ≤ 2000)) 0 1) ((0 ≤ ((E.2.2.2.2.2 1).2 (i + 1)) ∧ ((E.2.2.2.2.2 1).2 (i + 1)) < v 4) ∧ ((0 ≤ ((E.2.2.2.2.2 1).2 (i + 3)) ∧ ((E.2.2.2.2.2 1).2 (i + 3)) ≤ 10000) ∧ (0 ≤ ((E.2.2.2.2.2 1).2 (i + 4)) ∧ ((E.2.2.2.2.2 1).2 (i + 4)) ≤ 2000))) (fun r => r = abv v ((E.2.2.2.2.2 1).2 (i + 1)).toNat ((E.2.2.2.2.2 1).2 (i + 2)) ((E.2.2.2.2.2 1).2 (i + 3)) ((E.2.2.2.2.2 1).2 (i + 4)).toNat) [] m m3 r3 → (m3 96 0 = c ∧ (c = 0 → m3 111 0 = r32 r3)) ∧ xX E (("law", some .boolean, []), (25, 600000, 7000000), P, PX) RL cL_law 7 kk nn 2309 [(0, vr E 1), (1, vr E 40), (2, vr E 96), (3, vr E 111), (4, vi (i : Int))] [] (gS f D n) m3) : xX E (("law", some .boolean, []), (25, 600000, 7000000), P, PX) RL cL_law 7 kk nn 1160 [(0, vr E 1), (1, vr E 40), (2, vr E 96), (3, vr E 111), (4, vi (i : Int))] [vi c] (gS f D n) m := by
  refine x_istore dL_law_1160 ?_
  refine x_aload_n dL_law_1162 rfl ?_
  refine x_aload_n dL_law_1163 rfl ?_
  refine x_iload dL_law_1164 rfl ?_
  refine x_iconst dL_law_1166 ?_
  refine x_iadd dL_law_1167 ?_
  refine x_siald (j := i + 1) dL_law_1168 (by decide) (by decide) (by omega) (by omega) (by omega) ?_
  refine x_aload_n dL_law_1169 rfl ?_
  refine x_iload dL_law_1170 rfl ?_
  refine x_iconst dL_law_1172 ?_
  refine x_iadd dL_law_1173 ?_
  refine x_siald (j := i + 2) dL_law_1174 (by decide) (by decide) (by omega) (by omega) (by omega) ?_
  refine x_aload_n dL_law_1175 rfl ?_
  refine x_iload dL_law_1176 rfl ?_
  refine x_iconst dL_law_1178 ?_
  refine x_iadd dL_law_1179 ?_
  refine x_siald (j := i + 3) dL_law_1180 (by decide) (by decide) (by omega) (by omega) (by omega) ?_
  refine x_aload_n dL_law_1181 rfl ?_
  refine x_iload dL_law_1182 rfl ?_
  refine x_iconst dL_law_1184 ?_
  refine x_iadd dL_law_1185 ?_
  refine x_siald (j := i + 4) dL_law_1186 (by decide) (by decide) (by omega) (by omega) (by omega) ?_
  refine x_callV (as := [vi ((E.2.2.2.2.2 1).2 (i + 1)), vi ((E.2.2.2.2.2 1).2 (i + 2)), vi ((E.2.2.2.2.2 1).2 (i + 3)), vi ((E.2.2.2.2.2 1).2 (i + 4))]) (rest := []) (mc' := 0) (ms' := 0) mL_166 dL_law_1187 rfl rfl rfl (by decide) (by decide) hkk hnn (s_mabove hv hN (hsc _) (hsc _) (hsc _) (hsc _) (fun m3 r3 ho => ?_))
  obtain ⟨⟨e0, e1⟩, hX9⟩ := hQ m3 r3 ho
  refine x_istore dL_law_1190 ?_
  refine x_aload_n dL_law_1192 rfl ?_
  refine x_callV (as := []) (rest := []) (mc' := 0) (ms' := 0) mL_113 dL_law_1193 rfl rfl rfl (by decide) (by decide) hkk hnn (s_mthrown ?_)
  refine x_ci e0 ?_
  refine x_iload dL_law_1196 rfl ?_
  refine x_icmp_T (tgt := 1203) dL_law_1198 (by decide) ?_
  refine x_iload dL_law_1203 rfl ?_
  refine x_if_ne (tgt := 1220) dL_law_1205 (by decide) (by omega) (fun _ => ?_) (fun hc0 => ?_)
  · refine x_goto (tgt := 2309) dL_law_1220 (by decide) ?_
    exact x_loc (lv' := [(0, vr E 1), (1, vr E 40), (2, vr E 96), (3, vr E 111), (4, vi (i : Int))]) ⟨rfl, rfl, rfl, rfl, rfl, trivial⟩ hX9
  · refine x_aload_n dL_law_1208 rfl ?_
    refine x_iconst dL_law_1209 ?_
    refine x_lald (j := 0) dL_law_1210 rfl rfl (by show 0 < 1; decide) (by decide) ?_
    refine x_topl (e1 hc0) ?_
    refine x_iload dL_law_1211 rfl ?_
    refine x_i2lz dL_law_1213 ?_
    refine x_leq_T (tgt := 1220) dL_law_1214 dL_law_1215 (by decide) ?_
    refine x_goto (tgt := 2309) dL_law_1220 (by decide) ?_
    exact x_loc (lv' := [(0, vr E 1), (1, vr E 40), (2, vr E 96), (3, vr E 111), (4, vi (i : Int))]) ⟨rfl, rfl, rfl, rfl, rfl, trivial⟩ hX9

theorem wl_above : Cond.methodLink RL 163 yL_above ∈ xTb := xTb_of 920 (by decide +kernel) (by decide +kernel)
theorem ws_above : Cond.static yL_above ∈ xTb := xTb_of 921 (by decide +kernel) (by decide +kernel)
theorem wc_above : Cond.codeWith yL_above cL_above 7 (some .int) [(0, 14, 17, 19), (0, 14, 21, 13)] ∈ xTb := xTb_of 922 (by decide +kernel) (by decide +kernel)
set_option maxRecDepth 20000 in
theorem lw_above {E : xE} {f : Nat → Nat} {D : Nat → Nat × Nat} {n : Nat} {m : xM} {P : xPo} {PX : xPx} {v : Nat → Int} {h : List (Nat → Int)} {i kk nn : Nat} (hE : eOk E) (hI : tI v h f D n m) (hlen : i + 6 < (E.2.2.2.2.2 1).1) (hl31 : (E.2.2.2.2.2 1).1 < 2147483648) (hsc : ∀ j, -2147483648 ≤ (E.2.2.2.2.2 1).2 j ∧ (E.2.2.2.2.2 1).2 j ≤ 2147483647) (hkk : kk + 8 ≤ 600000) (hnn : nn + 640 ≤ 7000000) (hK : ∀ v' h' f' D' n' m', tI v' h' f' D' n' m' → m' 40 7 ≤ m 40 7 + 1 → xX E (("law", some .boolean, []), (25, 600000, 7000000), P, PX) RL cL_law 7 (kk + 8) (nn + 640) 2309 [(0, vr E 1), (1, vr E 40), (2, vr E 96), (3, vr E 111), (4, vi (i : Int))] [] (gS f' D' n') m') : xX E (("law", some .boolean, []), (25, 600000, 7000000), P, PX) RL cL_law 7 kk nn 1131 [(0, vr E 1), (1, vr E 40), (2, vr E 96), (3, vr E 111), (4, vi (i : Int))] [] (gS f D n) m := by
  have hu9 : uq (rf2 (0 ≤ ((E.2.2.2.2.2 1).2 (i + 1)) ∧ ((E.2.2.2.2.2 1).2 (i + 1)) < v 4) ((0 ≤ ((E.2.2.2.2.2 1).2 (i + 3)) ∧ ((E.2.2.2.2.2 1).2 (i + 3)) ≤ 10000) ∧ (0 ≤ ((E.2.2.2.2.2 1).2 (i + 4)) ∧ ((E.2.2.2.2.2 1).2 (i + 4)) ≤ 2000)) 0 1) ((0 ≤ ((E.2.2.2.2.2 1).2 (i + 1)) ∧ ((E.2.2.2.2.2 1).2 (i + 1)) < v 4) ∧ ((0 ≤ ((E.2.2.2.2.2 1).2 (i + 3)) ∧ ((E.2.2.2.2.2 1).2 (i + 3)) ≤ 10000) ∧ (0 ≤ ((E.2.2.2.2.2 1).2 (i + 4)) ∧ ((E.2.2.2.2.2 1).2 (i + 4)) ≤ 2000))) (fun r => r = abv v ((E.2.2.2.2.2 1).2 (i + 1)).toNat ((E.2.2.2.2.2 1).2 (i + 2)) ((E.2.2.2.2.2 1).2 (i + 3)) ((E.2.2.2.2.2 1).2 (i + 4)).toNat) := uq2 (by decide) (by decide) (fun r r' _ a b => a.trans b.symm)
  refine x_aload_n dL_law_1131 rfl ?_
  refine x_aload_n dL_law_1132 rfl ?_
  refine x_iload dL_law_1133 rfl ?_
  refine x_iconst dL_law_1135 ?_
  refine x_iadd dL_law_1136 ?_
  refine x_siald (j := i + 1) dL_law_1137 (by decide) (by decide) (by omega) (by omega) (by omega) ?_
  refine x_aload_n dL_law_1138 rfl ?_
  refine x_iload dL_law_1139 rfl ?_
  refine x_iconst dL_law_1141 ?_
  refine x_iadd dL_law_1142 ?_
  refine x_siald (j := i + 2) dL_law_1143 (by decide) (by decide) (by omega) (by omega) (by omega) ?_
  refine x_aload_n dL_law_1144 rfl ?_
  refine x_iload dL_law_1145 rfl ?_
  refine x_iconst dL_law_1147 ?_
  refine x_iadd dL_law_1148 ?_
  refine x_siald (j := i + 3) dL_law_1149 (by decide) (by decide) (by omega) (by omega) (by omega) ?_
  refine x_aload_n dL_law_1150 rfl ?_
  refine x_iload dL_law_1151 rfl ?_
  refine x_iconst dL_law_1153 ?_
  refine x_iadd dL_law_1154 ?_
  refine x_siald (j := i + 4) dL_law_1155 (by decide) (by decide) (by omega) (by omega) (by omega) ?_
  refine x_aload_n dL_law_1156 rfl ?_
  refine x_callSH (na := 6) (as := [vr E 40, vi ((E.2.2.2.2.2 1).2 (i + 1)), vi ((E.2.2.2.2.2 1).2 (i + 2)), vi ((E.2.2.2.2.2 1).2 (i + 3)), vi ((E.2.2.2.2.2 1).2 (i + 4)), vr E 111]) (rest := []) (hy := [(0, 14, 17, 19), (0, 14, 21, 13)]) wl_above ws_above wc_above qSL (by decide) (by decide +kernel) (by decide) dL_law_1157 rfl rfl (by decide) (by decide) (by omega) (by omega) (s_wabove (PX := PX) hE hI.1 (hsc _) (hsc _) (hsc _) (hsc _) (fun k9 q9 n' m' hr hc hk hu => ?_) (fun m' r hok hR hc hk h111 => ?_))
  · have hk3 := (hu9.2.2.2 _ _ hr).1
    refine af_above (h := h) hI.1.1.1 (hI.N hk) hlen hl31 hsc (by omega) (by omega) (by omega) (fun m3 r3 ho => ?_)
    · have h9 := tw_ref hu9 hr hI hc hk hu (ho.mr (by decide) (hI.N hk) (hI.H hk))
      exact ⟨⟨h9.2.1, fun z => by omega⟩, x_wide (Nat.le_refl _) (by omega) (hK _ _ _ _ _ _ h9.1 (by rw [h9.2.2, hk.2.2 7 (by simp; omega)]; omega))⟩
  · refine af_above (h := h) hI.1.1.1 (hI.N hk) hlen hl31 hsc (by omega) (by omega) (by omega) (fun m3 r3 ho => ?_)
    · have h9 := tw_ans hu9 hok hR hI hc hk (ho.mr (by decide) (hI.N hk) (hI.H hk))
      obtain ⟨⟨g1, g2, g3, g4⟩, rfl⟩ := h9
      exact ⟨⟨g2, fun _ => by rw [g3]; exact h111⟩, x_wide (Nat.le_refl _) (by omega) (hK _ _ _ _ _ _ g1 (by rw [g4, hk.2.2 7 (by simp)]; omega))⟩

set_option maxRecDepth 20000 in
theorem af_squat {E : xE} {f : Nat → Nat} {D : Nat → Nat × Nat} {n : Nat} {m : xM} {P : xPo} {PX : xPx} {v : Nat → Int} {h : List (Nat → Int)} {i kk nn : Nat} {c : Int} (hv : vOk v) (hN : mN v m) (hlen : i + 6 < (E.2.2.2.2.2 1).1) (hl31 : (E.2.2.2.2.2 1).1 < 2147483648) (hsc : ∀ j, -2147483648 ≤ (E.2.2.2.2.2 1).2 j ∧ (E.2.2.2.2.2 1).2 j ≤ 2147483647) (hc : 0 ≤ c ∧ c ≤ 3) (hkk : kk ≤ 600000) (hnn : nn ≤ 7000000) (hQ : ∀ m3 r3, moR (rf2 ((0 ≤ ((E.2.2.2.2.2 1).2 (i + 1)) ∧ ((E.2.2.2.2.2 1).2 (i + 1)) < v 5) ∧ (0 ≤ ((E.2.2.2.2.2 1).2 (i + 2)) ∧ ((E.2.2.2.2.2 1).2 (i + 2)) < v 4)) ((0 ≤ ((E.2.2.2.2.2 1).2 (i + 3)) ∧ ((E.2.2.2.2.2 1).2 (i + 3)) ≤ 10000) ∧ (4 ≤ ((E.2.2.2.2.2 1).2 (i + 4)) ∧ ((E.2.2.2.2.2 1).2 (i + 4)) ≤ 25)) 0 1) (((0 ≤ ((E.2.2.2.2.2 1).2 (i + 1)) ∧ ((E.2.2.2.2.2 1).2 (i + 1)) < v 5) ∧ (0 ≤ ((E.2.2.2.2.2 1).2 (i + 2)) ∧ ((E.2.2.2.2.2 1).2 (i + 2)) < v 4)) ∧ ((0 ≤ ((E.2.2.2.2.2 1).2 (i + 3)) ∧ ((E.2.2.2.2.2 1).2 (i + 3)) ≤ 10000) ∧ (4 ≤ ((E.2.2.2.2.2 1).2 (i + 4)) ∧ ((E.2.2.2.2.2 1).2 (i + 4)) ≤ 25))) (fun r => r = sk v ((E.2.2.2.2.2 1).2 (i + 1)).toNat (sh v ((E.2.2.2.2.2 1).2 (i + 1)).toNat 0) (wa v ((E.2.2.2.2.2 1).2 (i + 2)).toNat ((E.2.2.2.2.2 1).2 (i + 3))) ((E.2.2.2.2.2 1).2 (i + 4))) [103] m m3 r3 → (m3 96 0 = c ∧ (c = 0 → m3 111 0 = r32 r3)) ∧ xX E (("law", some .boolean, []), (25, 600000, 7000000), P, PX) RL cL_law 7 kk nn 2309 [(0, vr E 1), (1, vr E 40), (2, vr E 96), (3, vr E 111), (4, vi (i : Int))] [] (gS f D n) m3) : xX E (("law", some .boolean, []), (25, 600000, 7000000), P, PX) RL cL_law 7 kk nn 1252 [(0, vr E 1), (1, vr E 40), (2, vr E 96), (3, vr E 111), (4, vi (i : Int))] [vi c] (gS f D n) m := by
  refine x_istore dL_law_1252 ?_
  refine x_aload_n dL_law_1254 rfl ?_
  refine x_aload_n dL_law_1255 rfl ?_
  refine x_iload dL_law_1256 rfl ?_
  refine x_iconst dL_law_1258 ?_
  refine x_iadd dL_law_1259 ?_
  refine x_siald (j := i + 1) dL_law_1260 (by decide) (by decide) (by omega) (by omega) (by omega) ?_
  refine x_aload_n dL_law_1261 rfl ?_
  refine x_iload dL_law_1262 rfl ?_
  refine x_iconst dL_law_1264 ?_
  refine x_iadd dL_law_1265 ?_
  refine x_siald (j := i + 2) dL_law_1266 (by decide) (by decide) (by omega) (by omega) (by omega) ?_
  refine x_aload_n dL_law_1267 rfl ?_
  refine x_iload dL_law_1268 rfl ?_
  refine x_iconst dL_law_1270 ?_
  refine x_iadd dL_law_1271 ?_
  refine x_siald (j := i + 3) dL_law_1272 (by decide) (by decide) (by omega) (by omega) (by omega) ?_
  refine x_aload_n dL_law_1273 rfl ?_
  refine x_iload dL_law_1274 rfl ?_
  refine x_iconst dL_law_1276 ?_
  refine x_iadd dL_law_1277 ?_
  refine x_siald (j := i + 4) dL_law_1278 (by decide) (by decide) (by omega) (by omega) (by omega) ?_
  refine x_callV (as := [vi ((E.2.2.2.2.2 1).2 (i + 1)), vi ((E.2.2.2.2.2 1).2 (i + 2)), vi ((E.2.2.2.2.2 1).2 (i + 3)), vi ((E.2.2.2.2.2 1).2 (i + 4))]) (rest := []) (mc' := 0) (ms' := 0) mL_169 dL_law_1279 rfl rfl rfl (by decide) (by decide) hkk hnn (s_msquat hv hN (hsc _) (hsc _) (hsc _) (hsc _) (fun m3 r3 ho => ?_))
  obtain ⟨⟨e0, e1⟩, hX9⟩ := hQ m3 r3 ho
  refine x_istore dL_law_1282 ?_
  refine x_aload_n dL_law_1284 rfl ?_
  refine x_callV (as := []) (rest := []) (mc' := 0) (ms' := 0) mL_113 dL_law_1285 rfl rfl rfl (by decide) (by decide) hkk hnn (s_mthrown ?_)
  refine x_ci e0 ?_
  refine x_iload dL_law_1288 rfl ?_
  refine x_icmp_T (tgt := 1295) dL_law_1290 (by decide) ?_
  refine x_iload dL_law_1295 rfl ?_
  refine x_if_ne (tgt := 1312) dL_law_1297 (by decide) (by omega) (fun _ => ?_) (fun hc0 => ?_)
  · refine x_goto (tgt := 2309) dL_law_1312 (by decide) ?_
    exact x_loc (lv' := [(0, vr E 1), (1, vr E 40), (2, vr E 96), (3, vr E 111), (4, vi (i : Int))]) ⟨rfl, rfl, rfl, rfl, rfl, trivial⟩ hX9
  · refine x_aload_n dL_law_1300 rfl ?_
    refine x_iconst dL_law_1301 ?_
    refine x_lald (j := 0) dL_law_1302 rfl rfl (by show 0 < 1; decide) (by decide) ?_
    refine x_topl (e1 hc0) ?_
    refine x_iload dL_law_1303 rfl ?_
    refine x_i2lz dL_law_1305 ?_
    refine x_leq_T (tgt := 1312) dL_law_1306 dL_law_1307 (by decide) ?_
    refine x_goto (tgt := 2309) dL_law_1312 (by decide) ?_
    exact x_loc (lv' := [(0, vr E 1), (1, vr E 40), (2, vr E 96), (3, vr E 111), (4, vi (i : Int))]) ⟨rfl, rfl, rfl, rfl, rfl, trivial⟩ hX9

theorem wl_squat : Cond.methodLink RL 167 yL_squat ∈ xTb := xTb_of 927 (by decide +kernel) (by decide +kernel)
theorem ws_squat : Cond.static yL_squat ∈ xTb := xTb_of 928 (by decide +kernel) (by decide +kernel)
theorem wc_squat : Cond.codeWith yL_squat cL_squat 7 (some .int) [(0, 14, 17, 19), (0, 14, 21, 13)] ∈ xTb := xTb_of 929 (by decide +kernel) (by decide +kernel)
set_option maxRecDepth 20000 in
theorem lw_squat {E : xE} {f : Nat → Nat} {D : Nat → Nat × Nat} {n : Nat} {m : xM} {P : xPo} {PX : xPx} {v : Nat → Int} {h : List (Nat → Int)} {i kk nn : Nat} (hE : eOk E) (hI : tI v h f D n m) (hlen : i + 6 < (E.2.2.2.2.2 1).1) (hl31 : (E.2.2.2.2.2 1).1 < 2147483648) (hsc : ∀ j, -2147483648 ≤ (E.2.2.2.2.2 1).2 j ∧ (E.2.2.2.2.2 1).2 j ≤ 2147483647) (hkk : kk + 8 ≤ 600000) (hnn : nn + 640 ≤ 7000000) (hK : ∀ v' h' f' D' n' m', tI v' h' f' D' n' m' → m' 40 7 ≤ m 40 7 + 1 → xX E (("law", some .boolean, []), (25, 600000, 7000000), P, PX) RL cL_law 7 (kk + 8) (nn + 640) 2309 [(0, vr E 1), (1, vr E 40), (2, vr E 96), (3, vr E 111), (4, vi (i : Int))] [] (gS f' D' n') m') : xX E (("law", some .boolean, []), (25, 600000, 7000000), P, PX) RL cL_law 7 kk nn 1223 [(0, vr E 1), (1, vr E 40), (2, vr E 96), (3, vr E 111), (4, vi (i : Int))] [] (gS f D n) m := by
  have hu9 : uq (rf2 ((0 ≤ ((E.2.2.2.2.2 1).2 (i + 1)) ∧ ((E.2.2.2.2.2 1).2 (i + 1)) < v 5) ∧ (0 ≤ ((E.2.2.2.2.2 1).2 (i + 2)) ∧ ((E.2.2.2.2.2 1).2 (i + 2)) < v 4)) ((0 ≤ ((E.2.2.2.2.2 1).2 (i + 3)) ∧ ((E.2.2.2.2.2 1).2 (i + 3)) ≤ 10000) ∧ (4 ≤ ((E.2.2.2.2.2 1).2 (i + 4)) ∧ ((E.2.2.2.2.2 1).2 (i + 4)) ≤ 25)) 0 1) (((0 ≤ ((E.2.2.2.2.2 1).2 (i + 1)) ∧ ((E.2.2.2.2.2 1).2 (i + 1)) < v 5) ∧ (0 ≤ ((E.2.2.2.2.2 1).2 (i + 2)) ∧ ((E.2.2.2.2.2 1).2 (i + 2)) < v 4)) ∧ ((0 ≤ ((E.2.2.2.2.2 1).2 (i + 3)) ∧ ((E.2.2.2.2.2 1).2 (i + 3)) ≤ 10000) ∧ (4 ≤ ((E.2.2.2.2.2 1).2 (i + 4)) ∧ ((E.2.2.2.2.2 1).2 (i + 4)) ≤ 25))) (fun r => r = sk v ((E.2.2.2.2.2 1).2 (i + 1)).toNat (sh v ((E.2.2.2.2.2 1).2 (i + 1)).toNat 0) (wa v ((E.2.2.2.2.2 1).2 (i + 2)).toNat ((E.2.2.2.2.2 1).2 (i + 3))) ((E.2.2.2.2.2 1).2 (i + 4))) := uq2 (by decide) (by decide) (fun r r' _ a b => a.trans b.symm)
  refine x_aload_n dL_law_1223 rfl ?_
  refine x_aload_n dL_law_1224 rfl ?_
  refine x_iload dL_law_1225 rfl ?_
  refine x_iconst dL_law_1227 ?_
  refine x_iadd dL_law_1228 ?_
  refine x_siald (j := i + 1) dL_law_1229 (by decide) (by decide) (by omega) (by omega) (by omega) ?_
  refine x_aload_n dL_law_1230 rfl ?_
  refine x_iload dL_law_1231 rfl ?_
  refine x_iconst dL_law_1233 ?_
  refine x_iadd dL_law_1234 ?_
  refine x_siald (j := i + 2) dL_law_1235 (by decide) (by decide) (by omega) (by omega) (by omega) ?_
  refine x_aload_n dL_law_1236 rfl ?_
  refine x_iload dL_law_1237 rfl ?_
  refine x_iconst dL_law_1239 ?_
  refine x_iadd dL_law_1240 ?_
  refine x_siald (j := i + 3) dL_law_1241 (by decide) (by decide) (by omega) (by omega) (by omega) ?_
  refine x_aload_n dL_law_1242 rfl ?_
  refine x_iload dL_law_1243 rfl ?_
  refine x_iconst dL_law_1245 ?_
  refine x_iadd dL_law_1246 ?_
  refine x_siald (j := i + 4) dL_law_1247 (by decide) (by decide) (by omega) (by omega) (by omega) ?_
  refine x_aload_n dL_law_1248 rfl ?_
  refine x_callSH (na := 6) (as := [vr E 40, vi ((E.2.2.2.2.2 1).2 (i + 1)), vi ((E.2.2.2.2.2 1).2 (i + 2)), vi ((E.2.2.2.2.2 1).2 (i + 3)), vi ((E.2.2.2.2.2 1).2 (i + 4)), vr E 111]) (rest := []) (hy := [(0, 14, 17, 19), (0, 14, 21, 13)]) wl_squat ws_squat wc_squat qSL (by decide) (by decide +kernel) (by decide) dL_law_1249 rfl rfl (by decide) (by decide) (by omega) (by omega) (s_wsquat (PX := PX) hE hI.1 (hsc _) (hsc _) (hsc _) (hsc _) (fun k9 q9 n' m' hr hc hk hu => ?_) (fun m' r hok hR hc hk h111 => ?_))
  · have hk3 := (hu9.2.2.2 _ _ hr).1
    refine af_squat (h := h) hI.1.1.1 (hI.N hk) hlen hl31 hsc (by omega) (by omega) (by omega) (fun m3 r3 ho => ?_)
    · have h9 := tw_ref hu9 hr hI hc hk hu (ho.mr (by decide) (hI.N hk) (hI.H hk))
      exact ⟨⟨h9.2.1, fun z => by omega⟩, x_wide (Nat.le_refl _) (by omega) (hK _ _ _ _ _ _ h9.1 (by rw [h9.2.2, hk.2.2 7 (by simp; omega)]; omega))⟩
  · refine af_squat (h := h) hI.1.1.1 (hI.N hk) hlen hl31 hsc (by omega) (by omega) (by omega) (fun m3 r3 ho => ?_)
    · have h9 := tw_ans hu9 hok hR hI hc hk (ho.mr (by decide) (hI.N hk) (hI.H hk))
      obtain ⟨⟨g1, g2, g3, g4⟩, rfl⟩ := h9
      exact ⟨⟨g2, fun _ => by rw [g3]; exact h111⟩, x_wide (Nat.le_refl _) (by omega) (hK _ _ _ _ _ _ g1 (by rw [g4, hk.2.2 7 (by simp)]; omega))⟩

set_option maxRecDepth 20000 in
theorem af_left {E : xE} {f : Nat → Nat} {D : Nat → Nat × Nat} {n : Nat} {m : xM} {P : xPo} {PX : xPx} {v : Nat → Int} {h : List (Nat → Int)} {i kk nn : Nat} {c : Int} (hv : vOk v) (hN : mN v m) (hlen : i + 6 < (E.2.2.2.2.2 1).1) (hl31 : (E.2.2.2.2.2 1).1 < 2147483648) (hsc : ∀ j, -2147483648 ≤ (E.2.2.2.2.2 1).2 j ∧ (E.2.2.2.2.2 1).2 j ≤ 2147483647) (hc : 0 ≤ c ∧ c ≤ 3) (hkk : kk ≤ 600000) (hnn : nn ≤ 7000000) (hQ : ∀ m3 r3, moR (rf2 ((0 ≤ ((E.2.2.2.2.2 1).2 (i + 1)) ∧ ((E.2.2.2.2.2 1).2 (i + 1)) < v 5) ∧ (0 ≤ ((E.2.2.2.2.2 1).2 (i + 2)) ∧ ((E.2.2.2.2.2 1).2 (i + 2)) < v 4)) ((0 ≤ ((E.2.2.2.2.2 1).2 (i + 3)) ∧ ((E.2.2.2.2.2 1).2 (i + 3)) ≤ 10000) ∧ (4 ≤ ((E.2.2.2.2.2 1).2 (i + 4)) ∧ ((E.2.2.2.2.2 1).2 (i + 4)) ≤ 25)) 0 1) (((0 ≤ ((E.2.2.2.2.2 1).2 (i + 1)) ∧ ((E.2.2.2.2.2 1).2 (i + 1)) < v 5) ∧ (0 ≤ ((E.2.2.2.2.2 1).2 (i + 2)) ∧ ((E.2.2.2.2.2 1).2 (i + 2)) < v 4)) ∧ ((0 ≤ ((E.2.2.2.2.2 1).2 (i + 3)) ∧ ((E.2.2.2.2.2 1).2 (i + 3)) ≤ 10000) ∧ (4 ≤ ((E.2.2.2.2.2 1).2 (i + 4)) ∧ ((E.2.2.2.2.2 1).2 (i + 4)) ≤ 25))) (fun r => r = lfw v ((E.2.2.2.2.2 1).2 (i + 1)).toNat (sh v ((E.2.2.2.2.2 1).2 (i + 1)).toNat 0) (wa v ((E.2.2.2.2.2 1).2 (i + 2)).toNat ((E.2.2.2.2.2 1).2 (i + 3))) ((E.2.2.2.2.2 1).2 (i + 4))) [103] m m3 r3 → (m3 96 0 = c ∧ (c = 0 → m3 111 0 = r32 r3)) ∧ xX E (("law", some .boolean, []), (25, 600000, 7000000), P, PX) RL cL_law 7 kk nn 2309 [(0, vr E 1), (1, vr E 40), (2, vr E 96), (3, vr E 111), (4, vi (i : Int))] [] (gS f D n) m3) : xX E (("law", some .boolean, []), (25, 600000, 7000000), P, PX) RL cL_law 7 kk nn 1344 [(0, vr E 1), (1, vr E 40), (2, vr E 96), (3, vr E 111), (4, vi (i : Int))] [vi c] (gS f D n) m := by
  refine x_istore dL_law_1344 ?_
  refine x_aload_n dL_law_1346 rfl ?_
  refine x_aload_n dL_law_1347 rfl ?_
  refine x_iload dL_law_1348 rfl ?_
  refine x_iconst dL_law_1350 ?_
  refine x_iadd dL_law_1351 ?_
  refine x_siald (j := i + 1) dL_law_1352 (by decide) (by decide) (by omega) (by omega) (by omega) ?_
  refine x_aload_n dL_law_1353 rfl ?_
  refine x_iload dL_law_1354 rfl ?_
  refine x_iconst dL_law_1356 ?_
  refine x_iadd dL_law_1357 ?_
  refine x_siald (j := i + 2) dL_law_1358 (by decide) (by decide) (by omega) (by omega) (by omega) ?_
  refine x_aload_n dL_law_1359 rfl ?_
  refine x_iload dL_law_1360 rfl ?_
  refine x_iconst dL_law_1362 ?_
  refine x_iadd dL_law_1363 ?_
  refine x_siald (j := i + 3) dL_law_1364 (by decide) (by decide) (by omega) (by omega) (by omega) ?_
  refine x_aload_n dL_law_1365 rfl ?_
  refine x_iload dL_law_1366 rfl ?_
  refine x_iconst dL_law_1368 ?_
  refine x_iadd dL_law_1369 ?_
  refine x_siald (j := i + 4) dL_law_1370 (by decide) (by decide) (by omega) (by omega) (by omega) ?_
  refine x_callV (as := [vi ((E.2.2.2.2.2 1).2 (i + 1)), vi ((E.2.2.2.2.2 1).2 (i + 2)), vi ((E.2.2.2.2.2 1).2 (i + 3)), vi ((E.2.2.2.2.2 1).2 (i + 4))]) (rest := []) (mc' := 0) (ms' := 0) mL_172 dL_law_1371 rfl rfl rfl (by decide) (by decide) hkk hnn (s_mleft hv hN (hsc _) (hsc _) (hsc _) (hsc _) (fun m3 r3 ho => ?_))
  obtain ⟨⟨e0, e1⟩, hX9⟩ := hQ m3 r3 ho
  refine x_istore dL_law_1374 ?_
  refine x_aload_n dL_law_1376 rfl ?_
  refine x_callV (as := []) (rest := []) (mc' := 0) (ms' := 0) mL_113 dL_law_1377 rfl rfl rfl (by decide) (by decide) hkk hnn (s_mthrown ?_)
  refine x_ci e0 ?_
  refine x_iload dL_law_1380 rfl ?_
  refine x_icmp_T (tgt := 1387) dL_law_1382 (by decide) ?_
  refine x_iload dL_law_1387 rfl ?_
  refine x_if_ne (tgt := 1404) dL_law_1389 (by decide) (by omega) (fun _ => ?_) (fun hc0 => ?_)
  · refine x_goto (tgt := 2309) dL_law_1404 (by decide) ?_
    exact x_loc (lv' := [(0, vr E 1), (1, vr E 40), (2, vr E 96), (3, vr E 111), (4, vi (i : Int))]) ⟨rfl, rfl, rfl, rfl, rfl, trivial⟩ hX9
  · refine x_aload_n dL_law_1392 rfl ?_
    refine x_iconst dL_law_1393 ?_
    refine x_lald (j := 0) dL_law_1394 rfl rfl (by show 0 < 1; decide) (by decide) ?_
    refine x_topl (e1 hc0) ?_
    refine x_iload dL_law_1395 rfl ?_
    refine x_i2lz dL_law_1397 ?_
    refine x_leq_T (tgt := 1404) dL_law_1398 dL_law_1399 (by decide) ?_
    refine x_goto (tgt := 2309) dL_law_1404 (by decide) ?_
    exact x_loc (lv' := [(0, vr E 1), (1, vr E 40), (2, vr E 96), (3, vr E 111), (4, vi (i : Int))]) ⟨rfl, rfl, rfl, rfl, rfl, trivial⟩ hX9

theorem wl_left : Cond.methodLink RL 170 yL_left ∈ xTb := xTb_of 943 (by decide +kernel) (by decide +kernel)
theorem ws_left : Cond.static yL_left ∈ xTb := xTb_of 944 (by decide +kernel) (by decide +kernel)
theorem wc_left : Cond.codeWith yL_left cL_left 7 (some .int) [(0, 14, 17, 19), (0, 14, 21, 13)] ∈ xTb := xTb_of 945 (by decide +kernel) (by decide +kernel)
set_option maxRecDepth 20000 in
theorem lw_left {E : xE} {f : Nat → Nat} {D : Nat → Nat × Nat} {n : Nat} {m : xM} {P : xPo} {PX : xPx} {v : Nat → Int} {h : List (Nat → Int)} {i kk nn : Nat} (hE : eOk E) (hI : tI v h f D n m) (hlen : i + 6 < (E.2.2.2.2.2 1).1) (hl31 : (E.2.2.2.2.2 1).1 < 2147483648) (hsc : ∀ j, -2147483648 ≤ (E.2.2.2.2.2 1).2 j ∧ (E.2.2.2.2.2 1).2 j ≤ 2147483647) (hkk : kk + 8 ≤ 600000) (hnn : nn + 640 ≤ 7000000) (hK : ∀ v' h' f' D' n' m', tI v' h' f' D' n' m' → m' 40 7 ≤ m 40 7 + 1 → xX E (("law", some .boolean, []), (25, 600000, 7000000), P, PX) RL cL_law 7 (kk + 8) (nn + 640) 2309 [(0, vr E 1), (1, vr E 40), (2, vr E 96), (3, vr E 111), (4, vi (i : Int))] [] (gS f' D' n') m') : xX E (("law", some .boolean, []), (25, 600000, 7000000), P, PX) RL cL_law 7 kk nn 1315 [(0, vr E 1), (1, vr E 40), (2, vr E 96), (3, vr E 111), (4, vi (i : Int))] [] (gS f D n) m := by
  have hu9 : uq (rf2 ((0 ≤ ((E.2.2.2.2.2 1).2 (i + 1)) ∧ ((E.2.2.2.2.2 1).2 (i + 1)) < v 5) ∧ (0 ≤ ((E.2.2.2.2.2 1).2 (i + 2)) ∧ ((E.2.2.2.2.2 1).2 (i + 2)) < v 4)) ((0 ≤ ((E.2.2.2.2.2 1).2 (i + 3)) ∧ ((E.2.2.2.2.2 1).2 (i + 3)) ≤ 10000) ∧ (4 ≤ ((E.2.2.2.2.2 1).2 (i + 4)) ∧ ((E.2.2.2.2.2 1).2 (i + 4)) ≤ 25)) 0 1) (((0 ≤ ((E.2.2.2.2.2 1).2 (i + 1)) ∧ ((E.2.2.2.2.2 1).2 (i + 1)) < v 5) ∧ (0 ≤ ((E.2.2.2.2.2 1).2 (i + 2)) ∧ ((E.2.2.2.2.2 1).2 (i + 2)) < v 4)) ∧ ((0 ≤ ((E.2.2.2.2.2 1).2 (i + 3)) ∧ ((E.2.2.2.2.2 1).2 (i + 3)) ≤ 10000) ∧ (4 ≤ ((E.2.2.2.2.2 1).2 (i + 4)) ∧ ((E.2.2.2.2.2 1).2 (i + 4)) ≤ 25))) (fun r => r = lfw v ((E.2.2.2.2.2 1).2 (i + 1)).toNat (sh v ((E.2.2.2.2.2 1).2 (i + 1)).toNat 0) (wa v ((E.2.2.2.2.2 1).2 (i + 2)).toNat ((E.2.2.2.2.2 1).2 (i + 3))) ((E.2.2.2.2.2 1).2 (i + 4))) := uq2 (by decide) (by decide) (fun r r' _ a b => a.trans b.symm)
  refine x_aload_n dL_law_1315 rfl ?_
  refine x_aload_n dL_law_1316 rfl ?_
  refine x_iload dL_law_1317 rfl ?_
  refine x_iconst dL_law_1319 ?_
  refine x_iadd dL_law_1320 ?_
  refine x_siald (j := i + 1) dL_law_1321 (by decide) (by decide) (by omega) (by omega) (by omega) ?_
  refine x_aload_n dL_law_1322 rfl ?_
  refine x_iload dL_law_1323 rfl ?_
  refine x_iconst dL_law_1325 ?_
  refine x_iadd dL_law_1326 ?_
  refine x_siald (j := i + 2) dL_law_1327 (by decide) (by decide) (by omega) (by omega) (by omega) ?_
  refine x_aload_n dL_law_1328 rfl ?_
  refine x_iload dL_law_1329 rfl ?_
  refine x_iconst dL_law_1331 ?_
  refine x_iadd dL_law_1332 ?_
  refine x_siald (j := i + 3) dL_law_1333 (by decide) (by decide) (by omega) (by omega) (by omega) ?_
  refine x_aload_n dL_law_1334 rfl ?_
  refine x_iload dL_law_1335 rfl ?_
  refine x_iconst dL_law_1337 ?_
  refine x_iadd dL_law_1338 ?_
  refine x_siald (j := i + 4) dL_law_1339 (by decide) (by decide) (by omega) (by omega) (by omega) ?_
  refine x_aload_n dL_law_1340 rfl ?_
  refine x_callSH (na := 6) (as := [vr E 40, vi ((E.2.2.2.2.2 1).2 (i + 1)), vi ((E.2.2.2.2.2 1).2 (i + 2)), vi ((E.2.2.2.2.2 1).2 (i + 3)), vi ((E.2.2.2.2.2 1).2 (i + 4)), vr E 111]) (rest := []) (hy := [(0, 14, 17, 19), (0, 14, 21, 13)]) wl_left ws_left wc_left qSL (by decide) (by decide +kernel) (by decide) dL_law_1341 rfl rfl (by decide) (by decide) (by omega) (by omega) (s_wleft (PX := PX) hE hI.1 (hsc _) (hsc _) (hsc _) (hsc _) (fun k9 q9 n' m' hr hc hk hu => ?_) (fun m' r hok hR hc hk h111 => ?_))
  · have hk3 := (hu9.2.2.2 _ _ hr).1
    refine af_left (h := h) hI.1.1.1 (hI.N hk) hlen hl31 hsc (by omega) (by omega) (by omega) (fun m3 r3 ho => ?_)
    · have h9 := tw_ref hu9 hr hI hc hk hu (ho.mr (by decide) (hI.N hk) (hI.H hk))
      exact ⟨⟨h9.2.1, fun z => by omega⟩, x_wide (Nat.le_refl _) (by omega) (hK _ _ _ _ _ _ h9.1 (by rw [h9.2.2, hk.2.2 7 (by simp; omega)]; omega))⟩
  · refine af_left (h := h) hI.1.1.1 (hI.N hk) hlen hl31 hsc (by omega) (by omega) (by omega) (fun m3 r3 ho => ?_)
    · have h9 := tw_ans hu9 hok hR hI hc hk (ho.mr (by decide) (hI.N hk) (hI.H hk))
      obtain ⟨⟨g1, g2, g3, g4⟩, rfl⟩ := h9
      exact ⟨⟨g2, fun _ => by rw [g3]; exact h111⟩, x_wide (Nat.le_refl _) (by omega) (hK _ _ _ _ _ _ g1 (by rw [g4, hk.2.2 7 (by simp)]; omega))⟩

set_option maxRecDepth 20000 in
theorem af_fastest {E : xE} {f : Nat → Nat} {D : Nat → Nat × Nat} {n : Nat} {m : xM} {P : xPo} {PX : xPx} {v : Nat → Int} {h : List (Nat → Int)} {i kk nn : Nat} {c : Int} (hv : vOk v) (hN : mN v m) (hlen : i + 6 < (E.2.2.2.2.2 1).1) (hl31 : (E.2.2.2.2.2 1).1 < 2147483648) (hsc : ∀ j, -2147483648 ≤ (E.2.2.2.2.2 1).2 j ∧ (E.2.2.2.2.2 1).2 j ≤ 2147483647) (hc : 0 ≤ c ∧ c ≤ 3) (hkk : kk ≤ 600000) (hnn : nn ≤ 7000000) (hQ : ∀ m3 r3, moR (rf2 ((0 ≤ ((E.2.2.2.2.2 1).2 (i + 1)) ∧ ((E.2.2.2.2.2 1).2 (i + 1)) < v 5) ∧ (0 ≤ ((E.2.2.2.2.2 1).2 (i + 2)) ∧ ((E.2.2.2.2.2 1).2 (i + 2)) < v 4)) (0 ≤ ((E.2.2.2.2.2 1).2 (i + 3)) ∧ ((E.2.2.2.2.2 1).2 (i + 3)) ≤ 10000) 0 1) (((0 ≤ ((E.2.2.2.2.2 1).2 (i + 1)) ∧ ((E.2.2.2.2.2 1).2 (i + 1)) < v 5) ∧ (0 ≤ ((E.2.2.2.2.2 1).2 (i + 2)) ∧ ((E.2.2.2.2.2 1).2 (i + 2)) < v 4)) ∧ (0 ≤ ((E.2.2.2.2.2 1).2 (i + 3)) ∧ ((E.2.2.2.2.2 1).2 (i + 3)) ≤ 10000)) (fun r => ftR v ((E.2.2.2.2.2 1).2 (i + 1)).toNat ((E.2.2.2.2.2 1).2 (i + 2)).toNat ((E.2.2.2.2.2 1).2 (i + 3)) r) [103] m m3 r3 → (m3 96 0 = c ∧ (c = 0 → m3 111 0 = r32 r3)) ∧ xX E (("law", some .boolean, []), (25, 600000, 7000000), P, PX) RL cL_law 7 kk nn 2309 [(0, vr E 1), (1, vr E 40), (2, vr E 96), (3, vr E 111), (4, vi (i : Int))] [] (gS f D n) m3) : xX E (("law", some .boolean, []), (25, 600000, 7000000), P, PX) RL cL_law 7 kk nn 1430 [(0, vr E 1), (1, vr E 40), (2, vr E 96), (3, vr E 111), (4, vi (i : Int))] [vi c] (gS f D n) m := by
  refine x_istore dL_law_1430 ?_
  refine x_aload_n dL_law_1432 rfl ?_
  refine x_aload_n dL_law_1433 rfl ?_
  refine x_iload dL_law_1434 rfl ?_
  refine x_iconst dL_law_1436 ?_
  refine x_iadd dL_law_1437 ?_
  refine x_siald (j := i + 1) dL_law_1438 (by decide) (by decide) (by omega) (by omega) (by omega) ?_
  refine x_aload_n dL_law_1439 rfl ?_
  refine x_iload dL_law_1440 rfl ?_
  refine x_iconst dL_law_1442 ?_
  refine x_iadd dL_law_1443 ?_
  refine x_siald (j := i + 2) dL_law_1444 (by decide) (by decide) (by omega) (by omega) (by omega) ?_
  refine x_aload_n dL_law_1445 rfl ?_
  refine x_iload dL_law_1446 rfl ?_
  refine x_iconst dL_law_1448 ?_
  refine x_iadd dL_law_1449 ?_
  refine x_siald (j := i + 3) dL_law_1450 (by decide) (by decide) (by omega) (by omega) (by omega) ?_
  refine x_callV (as := [vi ((E.2.2.2.2.2 1).2 (i + 1)), vi ((E.2.2.2.2.2 1).2 (i + 2)), vi ((E.2.2.2.2.2 1).2 (i + 3))]) (rest := []) (mc' := 0) (ms' := 0) mL_175 dL_law_1451 rfl rfl rfl (by decide) (by decide) hkk hnn (s_mfastest hv hN (hsc _) (hsc _) (hsc _) (fun m3 r3 ho => ?_))
  obtain ⟨⟨e0, e1⟩, hX9⟩ := hQ m3 r3 ho
  refine x_istore dL_law_1454 ?_
  refine x_aload_n dL_law_1456 rfl ?_
  refine x_callV (as := []) (rest := []) (mc' := 0) (ms' := 0) mL_113 dL_law_1457 rfl rfl rfl (by decide) (by decide) hkk hnn (s_mthrown ?_)
  refine x_ci e0 ?_
  refine x_iload dL_law_1460 rfl ?_
  refine x_icmp_T (tgt := 1467) dL_law_1462 (by decide) ?_
  refine x_iload dL_law_1467 rfl ?_
  refine x_if_ne (tgt := 1484) dL_law_1469 (by decide) (by omega) (fun _ => ?_) (fun hc0 => ?_)
  · refine x_goto (tgt := 2309) dL_law_1484 (by decide) ?_
    exact x_loc (lv' := [(0, vr E 1), (1, vr E 40), (2, vr E 96), (3, vr E 111), (4, vi (i : Int))]) ⟨rfl, rfl, rfl, rfl, rfl, trivial⟩ hX9
  · refine x_aload_n dL_law_1472 rfl ?_
    refine x_iconst dL_law_1473 ?_
    refine x_lald (j := 0) dL_law_1474 rfl rfl (by show 0 < 1; decide) (by decide) ?_
    refine x_topl (e1 hc0) ?_
    refine x_iload dL_law_1475 rfl ?_
    refine x_i2lz dL_law_1477 ?_
    refine x_leq_T (tgt := 1484) dL_law_1478 dL_law_1479 (by decide) ?_
    refine x_goto (tgt := 2309) dL_law_1484 (by decide) ?_
    exact x_loc (lv' := [(0, vr E 1), (1, vr E 40), (2, vr E 96), (3, vr E 111), (4, vi (i : Int))]) ⟨rfl, rfl, rfl, rfl, rfl, trivial⟩ hX9

theorem wl_fastest : Cond.methodLink RL 173 yL_fastest ∈ xTb := xTb_of 951 (by decide +kernel) (by decide +kernel)
theorem ws_fastest : Cond.static yL_fastest ∈ xTb := xTb_of 952 (by decide +kernel) (by decide +kernel)
theorem wc_fastest : Cond.codeWith yL_fastest cL_fastest 6 (some .int) [(0, 12, 15, 19), (0, 12, 19, 13)] ∈ xTb := xTb_of 953 (by decide +kernel) (by decide +kernel)
set_option maxRecDepth 20000 in
theorem lw_fastest {E : xE} {f : Nat → Nat} {D : Nat → Nat × Nat} {n : Nat} {m : xM} {P : xPo} {PX : xPx} {v : Nat → Int} {h : List (Nat → Int)} {i kk nn : Nat} (hE : eOk E) (hI : tI v h f D n m) (hlen : i + 6 < (E.2.2.2.2.2 1).1) (hl31 : (E.2.2.2.2.2 1).1 < 2147483648) (hsc : ∀ j, -2147483648 ≤ (E.2.2.2.2.2 1).2 j ∧ (E.2.2.2.2.2 1).2 j ≤ 2147483647) (hkk : kk + 8 ≤ 600000) (hnn : nn + 640 ≤ 7000000) (hK : ∀ v' h' f' D' n' m', tI v' h' f' D' n' m' → m' 40 7 ≤ m 40 7 + 1 → xX E (("law", some .boolean, []), (25, 600000, 7000000), P, PX) RL cL_law 7 (kk + 8) (nn + 640) 2309 [(0, vr E 1), (1, vr E 40), (2, vr E 96), (3, vr E 111), (4, vi (i : Int))] [] (gS f' D' n') m') : xX E (("law", some .boolean, []), (25, 600000, 7000000), P, PX) RL cL_law 7 kk nn 1407 [(0, vr E 1), (1, vr E 40), (2, vr E 96), (3, vr E 111), (4, vi (i : Int))] [] (gS f D n) m := by
  have hu9 : uq (rf2 ((0 ≤ ((E.2.2.2.2.2 1).2 (i + 1)) ∧ ((E.2.2.2.2.2 1).2 (i + 1)) < v 5) ∧ (0 ≤ ((E.2.2.2.2.2 1).2 (i + 2)) ∧ ((E.2.2.2.2.2 1).2 (i + 2)) < v 4)) (0 ≤ ((E.2.2.2.2.2 1).2 (i + 3)) ∧ ((E.2.2.2.2.2 1).2 (i + 3)) ≤ 10000) 0 1) (((0 ≤ ((E.2.2.2.2.2 1).2 (i + 1)) ∧ ((E.2.2.2.2.2 1).2 (i + 1)) < v 5) ∧ (0 ≤ ((E.2.2.2.2.2 1).2 (i + 2)) ∧ ((E.2.2.2.2.2 1).2 (i + 2)) < v 4)) ∧ (0 ≤ ((E.2.2.2.2.2 1).2 (i + 3)) ∧ ((E.2.2.2.2.2 1).2 (i + 3)) ≤ 10000)) (fun r => ftR v ((E.2.2.2.2.2 1).2 (i + 1)).toNat ((E.2.2.2.2.2 1).2 (i + 2)).toNat ((E.2.2.2.2.2 1).2 (i + 3)) r) := uq2 (by decide) (by decide) (fun r r' _ a b => ftR_u a b)
  refine x_aload_n dL_law_1407 rfl ?_
  refine x_aload_n dL_law_1408 rfl ?_
  refine x_iload dL_law_1409 rfl ?_
  refine x_iconst dL_law_1411 ?_
  refine x_iadd dL_law_1412 ?_
  refine x_siald (j := i + 1) dL_law_1413 (by decide) (by decide) (by omega) (by omega) (by omega) ?_
  refine x_aload_n dL_law_1414 rfl ?_
  refine x_iload dL_law_1415 rfl ?_
  refine x_iconst dL_law_1417 ?_
  refine x_iadd dL_law_1418 ?_
  refine x_siald (j := i + 2) dL_law_1419 (by decide) (by decide) (by omega) (by omega) (by omega) ?_
  refine x_aload_n dL_law_1420 rfl ?_
  refine x_iload dL_law_1421 rfl ?_
  refine x_iconst dL_law_1423 ?_
  refine x_iadd dL_law_1424 ?_
  refine x_siald (j := i + 3) dL_law_1425 (by decide) (by decide) (by omega) (by omega) (by omega) ?_
  refine x_aload_n dL_law_1426 rfl ?_
  refine x_callSH (na := 5) (as := [vr E 40, vi ((E.2.2.2.2.2 1).2 (i + 1)), vi ((E.2.2.2.2.2 1).2 (i + 2)), vi ((E.2.2.2.2.2 1).2 (i + 3)), vr E 111]) (rest := []) (hy := [(0, 12, 15, 19), (0, 12, 19, 13)]) wl_fastest ws_fastest wc_fastest qSL (by decide) (by decide +kernel) (by decide) dL_law_1427 rfl rfl (by decide) (by decide) (by omega) (by omega) (s_wfastest (PX := PX) hE hI.1 (hsc _) (hsc _) (hsc _) (fun k9 q9 n' m' hr hc hk hu => ?_) (fun m' r hok hR hc hk h111 => ?_))
  · have hk3 := (hu9.2.2.2 _ _ hr).1
    refine af_fastest (h := h) hI.1.1.1 (hI.N hk) hlen hl31 hsc (by omega) (by omega) (by omega) (fun m3 r3 ho => ?_)
    · have h9 := tw_ref hu9 hr hI hc hk hu (ho.mr (by decide) (hI.N hk) (hI.H hk))
      exact ⟨⟨h9.2.1, fun z => by omega⟩, x_wide (Nat.le_refl _) (by omega) (hK _ _ _ _ _ _ h9.1 (by rw [h9.2.2, hk.2.2 7 (by simp; omega)]; omega))⟩
  · refine af_fastest (h := h) hI.1.1.1 (hI.N hk) hlen hl31 hsc (by omega) (by omega) (by omega) (fun m3 r3 ho => ?_)
    · have h9 := tw_ans hu9 hok hR hI hc hk (ho.mr (by decide) (hI.N hk) (hI.H hk))
      obtain ⟨⟨g1, g2, g3, g4⟩, rfl⟩ := h9
      exact ⟨⟨g2, fun _ => by rw [g3]; exact h111⟩, x_wide (Nat.le_refl _) (by omega) (hK _ _ _ _ _ _ g1 (by rw [g4, hk.2.2 7 (by simp)]; omega))⟩

set_option maxRecDepth 20000 in
theorem af_window {E : xE} {f : Nat → Nat} {D : Nat → Nat × Nat} {n : Nat} {m : xM} {P : xPo} {PX : xPx} {v : Nat → Int} {h : List (Nat → Int)} {i kk nn : Nat} {c : Int} (hv : vOk v) (hN : mN v m) (hlen : i + 6 < (E.2.2.2.2.2 1).1) (hl31 : (E.2.2.2.2.2 1).1 < 2147483648) (hsc : ∀ j, -2147483648 ≤ (E.2.2.2.2.2 1).2 j ∧ (E.2.2.2.2.2 1).2 j ≤ 2147483647) (hc : 0 ≤ c ∧ c ≤ 3) (hkk : kk ≤ 600000) (hnn : nn ≤ 7000000) (hQ : ∀ m3 r3, moR2 (wrf ((0 ≤ ((E.2.2.2.2.2 1).2 (i + 1)) ∧ ((E.2.2.2.2.2 1).2 (i + 1)) < v 5) ∧ (0 ≤ ((E.2.2.2.2.2 1).2 (i + 2)) ∧ ((E.2.2.2.2.2 1).2 (i + 2)) < v 4)) (((0 ≤ ((E.2.2.2.2.2 1).2 (i + 4)) ∧ ((E.2.2.2.2.2 1).2 (i + 4)) ≤ 10000) ∧ (4 ≤ ((E.2.2.2.2.2 1).2 (i + 3)) ∧ ((E.2.2.2.2.2 1).2 (i + 3)) ≤ 25)) ∧ edg ((E.2.2.2.2.2 1).2 (i + 5)) ((E.2.2.2.2.2 1).2 (i + 6))) (fun i9 : Nat => pas v ((E.2.2.2.2.2 1).2 (i + 1)).toNat (sh v ((E.2.2.2.2.2 1).2 (i + 1)).toNat 0) ((E.2.2.2.2.2 1).2 (i + 2)).toNat (((E.2.2.2.2.2 1).2 (i + 4)) + i9) ((E.2.2.2.2.2 1).2 (i + 3))) ((E.2.2.2.2.2 1).2 (i + 5)) ((E.2.2.2.2.2 1).2 (i + 6))) (((0 ≤ ((E.2.2.2.2.2 1).2 (i + 1)) ∧ ((E.2.2.2.2.2 1).2 (i + 1)) < v 5) ∧ (0 ≤ ((E.2.2.2.2.2 1).2 (i + 2)) ∧ ((E.2.2.2.2.2 1).2 (i + 2)) < v 4)) ∧ (((0 ≤ ((E.2.2.2.2.2 1).2 (i + 4)) ∧ ((E.2.2.2.2.2 1).2 (i + 4)) ≤ 10000) ∧ (4 ≤ ((E.2.2.2.2.2 1).2 (i + 3)) ∧ ((E.2.2.2.2.2 1).2 (i + 3)) ≤ 25)) ∧ edg ((E.2.2.2.2.2 1).2 (i + 5)) ((E.2.2.2.2.2 1).2 (i + 6)))) (wiR (fun i9 : Nat => pas v ((E.2.2.2.2.2 1).2 (i + 1)).toNat (sh v ((E.2.2.2.2.2 1).2 (i + 1)).toNat 0) ((E.2.2.2.2.2 1).2 (i + 2)).toNat (((E.2.2.2.2.2 1).2 (i + 4)) + i9) ((E.2.2.2.2.2 1).2 (i + 3))) ((E.2.2.2.2.2 1).2 (i + 4)) ((E.2.2.2.2.2 1).2 (i + 5)) ((E.2.2.2.2.2 1).2 (i + 6))) [103, 104] m m3 r3 → (m3 96 0 = c ∧ (c = 0 → m3 111 0 = r32 r3)) ∧ xX E (("law", some .boolean, []), (25, 600000, 7000000), P, PX) RL cL_law 7 kk nn 2309 [(0, vr E 1), (1, vr E 40), (2, vr E 96), (3, vr E 111), (4, vi (i : Int))] [] (gS f D n) m3) : xX E (("law", some .boolean, []), (25, 600000, 7000000), P, PX) RL cL_law 7 kk nn 1529 [(0, vr E 1), (1, vr E 40), (2, vr E 96), (3, vr E 111), (4, vi (i : Int))] [vi c] (gS f D n) m := by
  refine x_istore dL_law_1529 ?_
  refine x_aload_n dL_law_1531 rfl ?_
  refine x_aload_n dL_law_1532 rfl ?_
  refine x_iload dL_law_1533 rfl ?_
  refine x_iconst dL_law_1535 ?_
  refine x_iadd dL_law_1536 ?_
  refine x_siald (j := i + 1) dL_law_1537 (by decide) (by decide) (by omega) (by omega) (by omega) ?_
  refine x_aload_n dL_law_1538 rfl ?_
  refine x_iload dL_law_1539 rfl ?_
  refine x_iconst dL_law_1541 ?_
  refine x_iadd dL_law_1542 ?_
  refine x_siald (j := i + 2) dL_law_1543 (by decide) (by decide) (by omega) (by omega) (by omega) ?_
  refine x_aload_n dL_law_1544 rfl ?_
  refine x_iload dL_law_1545 rfl ?_
  refine x_iconst dL_law_1547 ?_
  refine x_iadd dL_law_1548 ?_
  refine x_siald (j := i + 3) dL_law_1549 (by decide) (by decide) (by omega) (by omega) (by omega) ?_
  refine x_aload_n dL_law_1550 rfl ?_
  refine x_iload dL_law_1551 rfl ?_
  refine x_iconst dL_law_1553 ?_
  refine x_iadd dL_law_1554 ?_
  refine x_siald (j := i + 4) dL_law_1555 (by decide) (by decide) (by omega) (by omega) (by omega) ?_
  refine x_aload_n dL_law_1556 rfl ?_
  refine x_iload dL_law_1557 rfl ?_
  refine x_iconst dL_law_1559 ?_
  refine x_iadd dL_law_1560 ?_
  refine x_siald (j := i + 5) dL_law_1561 (by decide) (by decide) (by omega) (by omega) (by omega) ?_
  refine x_aload_n dL_law_1562 rfl ?_
  refine x_iload dL_law_1563 rfl ?_
  refine x_bipush dL_law_1565 (h := ?_)
  refine x_iadd dL_law_1567 ?_
  refine x_siald (j := i + 6) dL_law_1568 (by decide) (by decide) (by omega) (by omega) (by omega) ?_
  refine x_callV (as := [vi ((E.2.2.2.2.2 1).2 (i + 1)), vi ((E.2.2.2.2.2 1).2 (i + 2)), vi ((E.2.2.2.2.2 1).2 (i + 3)), vi ((E.2.2.2.2.2 1).2 (i + 4)), vi ((E.2.2.2.2.2 1).2 (i + 5)), vi ((E.2.2.2.2.2 1).2 (i + 6))]) (rest := []) (mc' := 0) (ms' := 0) mL_179 dL_law_1569 rfl rfl rfl (by decide) (by decide) hkk hnn (s_mwindow hv hN (hsc _) (hsc _) (hsc _) (hsc _) (hsc _) (hsc _) (fun m3 r3 ho => ?_))
  obtain ⟨⟨e0, e1⟩, hX9⟩ := hQ m3 r3 ho
  refine x_istore dL_law_1572 ?_
  refine x_aload_n dL_law_1574 rfl ?_
  refine x_callV (as := []) (rest := []) (mc' := 0) (ms' := 0) mL_113 dL_law_1575 rfl rfl rfl (by decide) (by decide) hkk hnn (s_mthrown ?_)
  refine x_ci e0 ?_
  refine x_iload dL_law_1578 rfl ?_
  refine x_icmp_T (tgt := 1585) dL_law_1580 (by decide) ?_
  refine x_iload dL_law_1585 rfl ?_
  refine x_if_ne (tgt := 1602) dL_law_1587 (by decide) (by omega) (fun _ => ?_) (fun hc0 => ?_)
  · refine x_goto (tgt := 2309) dL_law_1602 (by decide) ?_
    exact x_loc (lv' := [(0, vr E 1), (1, vr E 40), (2, vr E 96), (3, vr E 111), (4, vi (i : Int))]) ⟨rfl, rfl, rfl, rfl, rfl, trivial⟩ hX9
  · refine x_aload_n dL_law_1590 rfl ?_
    refine x_iconst dL_law_1591 ?_
    refine x_lald (j := 0) dL_law_1592 rfl rfl (by show 0 < 1; decide) (by decide) ?_
    refine x_topl (e1 hc0) ?_
    refine x_iload dL_law_1593 rfl ?_
    refine x_i2lz dL_law_1595 ?_
    refine x_leq_T (tgt := 1602) dL_law_1596 dL_law_1597 (by decide) ?_
    refine x_goto (tgt := 2309) dL_law_1602 (by decide) ?_
    exact x_loc (lv' := [(0, vr E 1), (1, vr E 40), (2, vr E 96), (3, vr E 111), (4, vi (i : Int))]) ⟨rfl, rfl, rfl, rfl, rfl, trivial⟩ hX9

theorem wl_window : Cond.methodLink RL 176 yL_window ∈ xTb := xTb_of 959 (by decide +kernel) (by decide +kernel)
theorem ws_window : Cond.static yL_window ∈ xTb := xTb_of 960 (by decide +kernel) (by decide +kernel)
theorem wc_window : Cond.codeWith yL_window cL_window 9 (some .int) [(0, 18, 21, 19), (0, 18, 25, 13)] ∈ xTb := xTb_of 961 (by decide +kernel) (by decide +kernel)
set_option maxRecDepth 20000 in
theorem lw_window {E : xE} {f : Nat → Nat} {D : Nat → Nat × Nat} {n : Nat} {m : xM} {P : xPo} {PX : xPx} {v : Nat → Int} {h : List (Nat → Int)} {i kk nn : Nat} (hE : eOk E) (hI : tI v h f D n m) (hlen : i + 6 < (E.2.2.2.2.2 1).1) (hl31 : (E.2.2.2.2.2 1).1 < 2147483648) (hsc : ∀ j, -2147483648 ≤ (E.2.2.2.2.2 1).2 j ∧ (E.2.2.2.2.2 1).2 j ≤ 2147483647) (hkk : kk + 8 ≤ 600000) (hnn : nn + 640 ≤ 7000000) (hK : ∀ v' h' f' D' n' m', tI v' h' f' D' n' m' → m' 40 7 ≤ m 40 7 + 1 → xX E (("law", some .boolean, []), (25, 600000, 7000000), P, PX) RL cL_law 7 (kk + 8) (nn + 640) 2309 [(0, vr E 1), (1, vr E 40), (2, vr E 96), (3, vr E 111), (4, vi (i : Int))] [] (gS f' D' n') m') : xX E (("law", some .boolean, []), (25, 600000, 7000000), P, PX) RL cL_law 7 kk nn 1487 [(0, vr E 1), (1, vr E 40), (2, vr E 96), (3, vr E 111), (4, vi (i : Int))] [] (gS f D n) m := by
  have hu9 : uq (wrf ((0 ≤ ((E.2.2.2.2.2 1).2 (i + 1)) ∧ ((E.2.2.2.2.2 1).2 (i + 1)) < v 5) ∧ (0 ≤ ((E.2.2.2.2.2 1).2 (i + 2)) ∧ ((E.2.2.2.2.2 1).2 (i + 2)) < v 4)) (((0 ≤ ((E.2.2.2.2.2 1).2 (i + 4)) ∧ ((E.2.2.2.2.2 1).2 (i + 4)) ≤ 10000) ∧ (4 ≤ ((E.2.2.2.2.2 1).2 (i + 3)) ∧ ((E.2.2.2.2.2 1).2 (i + 3)) ≤ 25)) ∧ edg ((E.2.2.2.2.2 1).2 (i + 5)) ((E.2.2.2.2.2 1).2 (i + 6))) (fun i9 : Nat => pas v ((E.2.2.2.2.2 1).2 (i + 1)).toNat (sh v ((E.2.2.2.2.2 1).2 (i + 1)).toNat 0) ((E.2.2.2.2.2 1).2 (i + 2)).toNat (((E.2.2.2.2.2 1).2 (i + 4)) + i9) ((E.2.2.2.2.2 1).2 (i + 3))) ((E.2.2.2.2.2 1).2 (i + 5)) ((E.2.2.2.2.2 1).2 (i + 6))) (((0 ≤ ((E.2.2.2.2.2 1).2 (i + 1)) ∧ ((E.2.2.2.2.2 1).2 (i + 1)) < v 5) ∧ (0 ≤ ((E.2.2.2.2.2 1).2 (i + 2)) ∧ ((E.2.2.2.2.2 1).2 (i + 2)) < v 4)) ∧ (((0 ≤ ((E.2.2.2.2.2 1).2 (i + 4)) ∧ ((E.2.2.2.2.2 1).2 (i + 4)) ≤ 10000) ∧ (4 ≤ ((E.2.2.2.2.2 1).2 (i + 3)) ∧ ((E.2.2.2.2.2 1).2 (i + 3)) ≤ 25)) ∧ edg ((E.2.2.2.2.2 1).2 (i + 5)) ((E.2.2.2.2.2 1).2 (i + 6)))) (wiR (fun i9 : Nat => pas v ((E.2.2.2.2.2 1).2 (i + 1)).toNat (sh v ((E.2.2.2.2.2 1).2 (i + 1)).toNat 0) ((E.2.2.2.2.2 1).2 (i + 2)).toNat (((E.2.2.2.2.2 1).2 (i + 4)) + i9) ((E.2.2.2.2.2 1).2 (i + 3))) ((E.2.2.2.2.2 1).2 (i + 4)) ((E.2.2.2.2.2 1).2 (i + 5)) ((E.2.2.2.2.2 1).2 (i + 6))) := uqw
  refine x_aload_n dL_law_1487 rfl ?_
  refine x_aload_n dL_law_1488 rfl ?_
  refine x_iload dL_law_1489 rfl ?_
  refine x_iconst dL_law_1491 ?_
  refine x_iadd dL_law_1492 ?_
  refine x_siald (j := i + 1) dL_law_1493 (by decide) (by decide) (by omega) (by omega) (by omega) ?_
  refine x_aload_n dL_law_1494 rfl ?_
  refine x_iload dL_law_1495 rfl ?_
  refine x_iconst dL_law_1497 ?_
  refine x_iadd dL_law_1498 ?_
  refine x_siald (j := i + 2) dL_law_1499 (by decide) (by decide) (by omega) (by omega) (by omega) ?_
  refine x_aload_n dL_law_1500 rfl ?_
  refine x_iload dL_law_1501 rfl ?_
  refine x_iconst dL_law_1503 ?_
  refine x_iadd dL_law_1504 ?_
  refine x_siald (j := i + 3) dL_law_1505 (by decide) (by decide) (by omega) (by omega) (by omega) ?_
  refine x_aload_n dL_law_1506 rfl ?_
  refine x_iload dL_law_1507 rfl ?_
  refine x_iconst dL_law_1509 ?_
  refine x_iadd dL_law_1510 ?_
  refine x_siald (j := i + 4) dL_law_1511 (by decide) (by decide) (by omega) (by omega) (by omega) ?_
  refine x_aload_n dL_law_1512 rfl ?_
  refine x_iload dL_law_1513 rfl ?_
  refine x_iconst dL_law_1515 ?_
  refine x_iadd dL_law_1516 ?_
  refine x_siald (j := i + 5) dL_law_1517 (by decide) (by decide) (by omega) (by omega) (by omega) ?_
  refine x_aload_n dL_law_1518 rfl ?_
  refine x_iload dL_law_1519 rfl ?_
  refine x_bipush dL_law_1521 (h := ?_)
  refine x_iadd dL_law_1523 ?_
  refine x_siald (j := i + 6) dL_law_1524 (by decide) (by decide) (by omega) (by omega) (by omega) ?_
  refine x_aload_n dL_law_1525 rfl ?_
  refine x_callSH (na := 8) (as := [vr E 40, vi ((E.2.2.2.2.2 1).2 (i + 1)), vi ((E.2.2.2.2.2 1).2 (i + 2)), vi ((E.2.2.2.2.2 1).2 (i + 3)), vi ((E.2.2.2.2.2 1).2 (i + 4)), vi ((E.2.2.2.2.2 1).2 (i + 5)), vi ((E.2.2.2.2.2 1).2 (i + 6)), vr E 111]) (rest := []) (hy := [(0, 18, 21, 19), (0, 18, 25, 13)]) wl_window ws_window wc_window qSL (by decide) (by decide +kernel) (by decide) dL_law_1526 rfl rfl (by decide) (by decide) (by omega) (by omega) (s_wwindow (PX := PX) hE hI.1 (hsc _) (hsc _) (hsc _) (hsc _) (hsc _) (hsc _) (fun k9 q9 n' m' hr hc hk hu => ?_) (fun m' r hok hR hc hk h111 => ?_))
  · have hk3 := (hu9.2.2.2 _ _ hr).1
    refine af_window (h := h) hI.1.1.1 (hI.N hk) hlen hl31 hsc (by omega) (by omega) (by omega) (fun m3 r3 ho => ?_)
    · have h9 := tw_ref hu9 hr hI hc hk hu (ho.mr (by decide) (hI.N hk) (hI.H hk))
      exact ⟨⟨h9.2.1, fun z => by omega⟩, x_wide (Nat.le_refl _) (by omega) (hK _ _ _ _ _ _ h9.1 (by rw [h9.2.2, hk.2.2 7 (by simp; omega)]; omega))⟩
  · refine af_window (h := h) hI.1.1.1 (hI.N hk) hlen hl31 hsc (by omega) (by omega) (by omega) (fun m3 r3 ho => ?_)
    · have h9 := tw_ans hu9 hok hR hI hc hk (ho.mr (by decide) (hI.N hk) (hI.H hk))
      obtain ⟨⟨g1, g2, g3, g4⟩, rfl⟩ := h9
      exact ⟨⟨g2, fun _ => by rw [g3]; exact h111⟩, x_wide (Nat.le_refl _) (by omega) (hK _ _ _ _ _ _ g1 (by rw [g4, hk.2.2 7 (by simp)]; omega))⟩

set_option maxRecDepth 20000 in
theorem af_joined {E : xE} {f : Nat → Nat} {D : Nat → Nat × Nat} {n : Nat} {m : xM} {P : xPo} {PX : xPx} {v : Nat → Int} {h : List (Nat → Int)} {i kk nn : Nat} {c : Int} (hv : vOk v) (hN : mN v m) (hlen : i + 6 < (E.2.2.2.2.2 1).1) (hl31 : (E.2.2.2.2.2 1).1 < 2147483648) (hsc : ∀ j, -2147483648 ≤ (E.2.2.2.2.2 1).2 j ∧ (E.2.2.2.2.2 1).2 j ≤ 2147483647) (hc : 0 ≤ c ∧ c ≤ 3) (hkk : kk ≤ 600000) (hnn : nn ≤ 7000000) (hQ : ∀ m3 r3, moR2 (wrf (0 ≤ ((E.2.2.2.2.2 1).2 (i + 1)) ∧ ((E.2.2.2.2.2 1).2 (i + 1)) < v 5) ((4 ≤ ((E.2.2.2.2.2 1).2 (i + 2)) ∧ ((E.2.2.2.2.2 1).2 (i + 2)) ≤ 25) ∧ (0 ≤ ((E.2.2.2.2.2 1).2 (i + 3)) ∧ ((E.2.2.2.2.2 1).2 (i + 3)) ≤ 10000) ∧ edg ((E.2.2.2.2.2 1).2 (i + 4)) ((E.2.2.2.2.2 1).2 (i + 5))) (fun i9 : Nat => good v ((E.2.2.2.2.2 1).2 (i + 1)).toNat (sh v ((E.2.2.2.2.2 1).2 (i + 1)).toNat 0) (((E.2.2.2.2.2 1).2 (i + 3)) + i9) ((E.2.2.2.2.2 1).2 (i + 2))) ((E.2.2.2.2.2 1).2 (i + 4)) ((E.2.2.2.2.2 1).2 (i + 5))) ((0 ≤ ((E.2.2.2.2.2 1).2 (i + 1)) ∧ ((E.2.2.2.2.2 1).2 (i + 1)) < v 5) ∧ ((4 ≤ ((E.2.2.2.2.2 1).2 (i + 2)) ∧ ((E.2.2.2.2.2 1).2 (i + 2)) ≤ 25) ∧ (0 ≤ ((E.2.2.2.2.2 1).2 (i + 3)) ∧ ((E.2.2.2.2.2 1).2 (i + 3)) ≤ 10000) ∧ edg ((E.2.2.2.2.2 1).2 (i + 4)) ((E.2.2.2.2.2 1).2 (i + 5)))) (wiR (fun i9 : Nat => good v ((E.2.2.2.2.2 1).2 (i + 1)).toNat (sh v ((E.2.2.2.2.2 1).2 (i + 1)).toNat 0) (((E.2.2.2.2.2 1).2 (i + 3)) + i9) ((E.2.2.2.2.2 1).2 (i + 2))) ((E.2.2.2.2.2 1).2 (i + 3)) ((E.2.2.2.2.2 1).2 (i + 4)) ((E.2.2.2.2.2 1).2 (i + 5))) [103, 104] m m3 r3 → (m3 96 0 = c ∧ (c = 0 → m3 111 0 = r32 r3)) ∧ xX E (("law", some .boolean, []), (25, 600000, 7000000), P, PX) RL cL_law 7 kk nn 2309 [(0, vr E 1), (1, vr E 40), (2, vr E 96), (3, vr E 111), (4, vi (i : Int))] [] (gS f D n) m3) : xX E (("law", some .boolean, []), (25, 600000, 7000000), P, PX) RL cL_law 7 kk nn 1640 [(0, vr E 1), (1, vr E 40), (2, vr E 96), (3, vr E 111), (4, vi (i : Int))] [vi c] (gS f D n) m := by
  refine x_istore dL_law_1640 ?_
  refine x_aload_n dL_law_1642 rfl ?_
  refine x_aload_n dL_law_1643 rfl ?_
  refine x_iload dL_law_1644 rfl ?_
  refine x_iconst dL_law_1646 ?_
  refine x_iadd dL_law_1647 ?_
  refine x_siald (j := i + 1) dL_law_1648 (by decide) (by decide) (by omega) (by omega) (by omega) ?_
  refine x_aload_n dL_law_1649 rfl ?_
  refine x_iload dL_law_1650 rfl ?_
  refine x_iconst dL_law_1652 ?_
  refine x_iadd dL_law_1653 ?_
  refine x_siald (j := i + 2) dL_law_1654 (by decide) (by decide) (by omega) (by omega) (by omega) ?_
  refine x_aload_n dL_law_1655 rfl ?_
  refine x_iload dL_law_1656 rfl ?_
  refine x_iconst dL_law_1658 ?_
  refine x_iadd dL_law_1659 ?_
  refine x_siald (j := i + 3) dL_law_1660 (by decide) (by decide) (by omega) (by omega) (by omega) ?_
  refine x_aload_n dL_law_1661 rfl ?_
  refine x_iload dL_law_1662 rfl ?_
  refine x_iconst dL_law_1664 ?_
  refine x_iadd dL_law_1665 ?_
  refine x_siald (j := i + 4) dL_law_1666 (by decide) (by decide) (by omega) (by omega) (by omega) ?_
  refine x_aload_n dL_law_1667 rfl ?_
  refine x_iload dL_law_1668 rfl ?_
  refine x_iconst dL_law_1670 ?_
  refine x_iadd dL_law_1671 ?_
  refine x_siald (j := i + 5) dL_law_1672 (by decide) (by decide) (by omega) (by omega) (by omega) ?_
  refine x_callV (as := [vi ((E.2.2.2.2.2 1).2 (i + 1)), vi ((E.2.2.2.2.2 1).2 (i + 2)), vi ((E.2.2.2.2.2 1).2 (i + 3)), vi ((E.2.2.2.2.2 1).2 (i + 4)), vi ((E.2.2.2.2.2 1).2 (i + 5))]) (rest := []) (mc' := 0) (ms' := 0) mL_183 dL_law_1673 rfl rfl rfl (by decide) (by decide) hkk hnn (s_mjoined hv hN (hsc _) (hsc _) (hsc _) (hsc _) (hsc _) (fun m3 r3 ho => ?_))
  obtain ⟨⟨e0, e1⟩, hX9⟩ := hQ m3 r3 ho
  refine x_istore dL_law_1676 ?_
  refine x_aload_n dL_law_1678 rfl ?_
  refine x_callV (as := []) (rest := []) (mc' := 0) (ms' := 0) mL_113 dL_law_1679 rfl rfl rfl (by decide) (by decide) hkk hnn (s_mthrown ?_)
  refine x_ci e0 ?_
  refine x_iload dL_law_1682 rfl ?_
  refine x_icmp_T (tgt := 1689) dL_law_1684 (by decide) ?_
  refine x_iload dL_law_1689 rfl ?_
  refine x_if_ne (tgt := 1706) dL_law_1691 (by decide) (by omega) (fun _ => ?_) (fun hc0 => ?_)
  · refine x_goto (tgt := 2309) dL_law_1706 (by decide) ?_
    exact x_loc (lv' := [(0, vr E 1), (1, vr E 40), (2, vr E 96), (3, vr E 111), (4, vi (i : Int))]) ⟨rfl, rfl, rfl, rfl, rfl, trivial⟩ hX9
  · refine x_aload_n dL_law_1694 rfl ?_
    refine x_iconst dL_law_1695 ?_
    refine x_lald (j := 0) dL_law_1696 rfl rfl (by show 0 < 1; decide) (by decide) ?_
    refine x_topl (e1 hc0) ?_
    refine x_iload dL_law_1697 rfl ?_
    refine x_i2lz dL_law_1699 ?_
    refine x_leq_T (tgt := 1706) dL_law_1700 dL_law_1701 (by decide) ?_
    refine x_goto (tgt := 2309) dL_law_1706 (by decide) ?_
    exact x_loc (lv' := [(0, vr E 1), (1, vr E 40), (2, vr E 96), (3, vr E 111), (4, vi (i : Int))]) ⟨rfl, rfl, rfl, rfl, rfl, trivial⟩ hX9

theorem wl_joined : Cond.methodLink RL 180 yL_joined ∈ xTb := xTb_of 1002 (by decide +kernel) (by decide +kernel)
theorem ws_joined : Cond.static yL_joined ∈ xTb := xTb_of 1003 (by decide +kernel) (by decide +kernel)
theorem wc_joined : Cond.codeWith yL_joined cL_joined 8 (some .int) [(0, 16, 19, 19), (0, 16, 23, 13)] ∈ xTb := xTb_of 1004 (by decide +kernel) (by decide +kernel)
set_option maxRecDepth 20000 in
theorem lw_joined {E : xE} {f : Nat → Nat} {D : Nat → Nat × Nat} {n : Nat} {m : xM} {P : xPo} {PX : xPx} {v : Nat → Int} {h : List (Nat → Int)} {i kk nn : Nat} (hE : eOk E) (hI : tI v h f D n m) (hlen : i + 6 < (E.2.2.2.2.2 1).1) (hl31 : (E.2.2.2.2.2 1).1 < 2147483648) (hsc : ∀ j, -2147483648 ≤ (E.2.2.2.2.2 1).2 j ∧ (E.2.2.2.2.2 1).2 j ≤ 2147483647) (hkk : kk + 8 ≤ 600000) (hnn : nn + 640 ≤ 7000000) (hK : ∀ v' h' f' D' n' m', tI v' h' f' D' n' m' → m' 40 7 ≤ m 40 7 + 1 → xX E (("law", some .boolean, []), (25, 600000, 7000000), P, PX) RL cL_law 7 (kk + 8) (nn + 640) 2309 [(0, vr E 1), (1, vr E 40), (2, vr E 96), (3, vr E 111), (4, vi (i : Int))] [] (gS f' D' n') m') : xX E (("law", some .boolean, []), (25, 600000, 7000000), P, PX) RL cL_law 7 kk nn 1605 [(0, vr E 1), (1, vr E 40), (2, vr E 96), (3, vr E 111), (4, vi (i : Int))] [] (gS f D n) m := by
  have hu9 : uq (wrf (0 ≤ ((E.2.2.2.2.2 1).2 (i + 1)) ∧ ((E.2.2.2.2.2 1).2 (i + 1)) < v 5) ((4 ≤ ((E.2.2.2.2.2 1).2 (i + 2)) ∧ ((E.2.2.2.2.2 1).2 (i + 2)) ≤ 25) ∧ (0 ≤ ((E.2.2.2.2.2 1).2 (i + 3)) ∧ ((E.2.2.2.2.2 1).2 (i + 3)) ≤ 10000) ∧ edg ((E.2.2.2.2.2 1).2 (i + 4)) ((E.2.2.2.2.2 1).2 (i + 5))) (fun i9 : Nat => good v ((E.2.2.2.2.2 1).2 (i + 1)).toNat (sh v ((E.2.2.2.2.2 1).2 (i + 1)).toNat 0) (((E.2.2.2.2.2 1).2 (i + 3)) + i9) ((E.2.2.2.2.2 1).2 (i + 2))) ((E.2.2.2.2.2 1).2 (i + 4)) ((E.2.2.2.2.2 1).2 (i + 5))) ((0 ≤ ((E.2.2.2.2.2 1).2 (i + 1)) ∧ ((E.2.2.2.2.2 1).2 (i + 1)) < v 5) ∧ ((4 ≤ ((E.2.2.2.2.2 1).2 (i + 2)) ∧ ((E.2.2.2.2.2 1).2 (i + 2)) ≤ 25) ∧ (0 ≤ ((E.2.2.2.2.2 1).2 (i + 3)) ∧ ((E.2.2.2.2.2 1).2 (i + 3)) ≤ 10000) ∧ edg ((E.2.2.2.2.2 1).2 (i + 4)) ((E.2.2.2.2.2 1).2 (i + 5)))) (wiR (fun i9 : Nat => good v ((E.2.2.2.2.2 1).2 (i + 1)).toNat (sh v ((E.2.2.2.2.2 1).2 (i + 1)).toNat 0) (((E.2.2.2.2.2 1).2 (i + 3)) + i9) ((E.2.2.2.2.2 1).2 (i + 2))) ((E.2.2.2.2.2 1).2 (i + 3)) ((E.2.2.2.2.2 1).2 (i + 4)) ((E.2.2.2.2.2 1).2 (i + 5))) := uqw
  refine x_aload_n dL_law_1605 rfl ?_
  refine x_aload_n dL_law_1606 rfl ?_
  refine x_iload dL_law_1607 rfl ?_
  refine x_iconst dL_law_1609 ?_
  refine x_iadd dL_law_1610 ?_
  refine x_siald (j := i + 1) dL_law_1611 (by decide) (by decide) (by omega) (by omega) (by omega) ?_
  refine x_aload_n dL_law_1612 rfl ?_
  refine x_iload dL_law_1613 rfl ?_
  refine x_iconst dL_law_1615 ?_
  refine x_iadd dL_law_1616 ?_
  refine x_siald (j := i + 2) dL_law_1617 (by decide) (by decide) (by omega) (by omega) (by omega) ?_
  refine x_aload_n dL_law_1618 rfl ?_
  refine x_iload dL_law_1619 rfl ?_
  refine x_iconst dL_law_1621 ?_
  refine x_iadd dL_law_1622 ?_
  refine x_siald (j := i + 3) dL_law_1623 (by decide) (by decide) (by omega) (by omega) (by omega) ?_
  refine x_aload_n dL_law_1624 rfl ?_
  refine x_iload dL_law_1625 rfl ?_
  refine x_iconst dL_law_1627 ?_
  refine x_iadd dL_law_1628 ?_
  refine x_siald (j := i + 4) dL_law_1629 (by decide) (by decide) (by omega) (by omega) (by omega) ?_
  refine x_aload_n dL_law_1630 rfl ?_
  refine x_iload dL_law_1631 rfl ?_
  refine x_iconst dL_law_1633 ?_
  refine x_iadd dL_law_1634 ?_
  refine x_siald (j := i + 5) dL_law_1635 (by decide) (by decide) (by omega) (by omega) (by omega) ?_
  refine x_aload_n dL_law_1636 rfl ?_
  refine x_callSH (na := 7) (as := [vr E 40, vi ((E.2.2.2.2.2 1).2 (i + 1)), vi ((E.2.2.2.2.2 1).2 (i + 2)), vi ((E.2.2.2.2.2 1).2 (i + 3)), vi ((E.2.2.2.2.2 1).2 (i + 4)), vi ((E.2.2.2.2.2 1).2 (i + 5)), vr E 111]) (rest := []) (hy := [(0, 16, 19, 19), (0, 16, 23, 13)]) wl_joined ws_joined wc_joined qSL (by decide) (by decide +kernel) (by decide) dL_law_1637 rfl rfl (by decide) (by decide) (by omega) (by omega) (s_wjoined (PX := PX) hE hI.1 (hsc _) (hsc _) (hsc _) (hsc _) (hsc _) (fun k9 q9 n' m' hr hc hk hu => ?_) (fun m' r hok hR hc hk h111 => ?_))
  · have hk3 := (hu9.2.2.2 _ _ hr).1
    refine af_joined (h := h) hI.1.1.1 (hI.N hk) hlen hl31 hsc (by omega) (by omega) (by omega) (fun m3 r3 ho => ?_)
    · have h9 := tw_ref hu9 hr hI hc hk hu (ho.mr (by decide) (hI.N hk) (hI.H hk))
      exact ⟨⟨h9.2.1, fun z => by omega⟩, x_wide (Nat.le_refl _) (by omega) (hK _ _ _ _ _ _ h9.1 (by rw [h9.2.2, hk.2.2 7 (by simp; omega)]; omega))⟩
  · refine af_joined (h := h) hI.1.1.1 (hI.N hk) hlen hl31 hsc (by omega) (by omega) (by omega) (fun m3 r3 ho => ?_)
    · have h9 := tw_ans hu9 hok hR hI hc hk (ho.mr (by decide) (hI.N hk) (hI.H hk))
      obtain ⟨⟨g1, g2, g3, g4⟩, rfl⟩ := h9
      exact ⟨⟨g2, fun _ => by rw [g3]; exact h111⟩, x_wide (Nat.le_refl _) (by omega) (hK _ _ _ _ _ _ g1 (by rw [g4, hk.2.2 7 (by simp)]; omega))⟩

set_option maxRecDepth 20000 in
theorem af_lasts {E : xE} {f : Nat → Nat} {D : Nat → Nat × Nat} {n : Nat} {m : xM} {P : xPo} {PX : xPx} {v : Nat → Int} {h : List (Nat → Int)} {i kk nn : Nat} {c : Int} (hv : vOk v) (hN : mN v m) (hlen : i + 6 < (E.2.2.2.2.2 1).1) (hl31 : (E.2.2.2.2.2 1).1 < 2147483648) (hsc : ∀ j, -2147483648 ≤ (E.2.2.2.2.2 1).2 j ∧ (E.2.2.2.2.2 1).2 j ≤ 2147483647) (hc : 0 ≤ c ∧ c ≤ 3) (hkk : kk ≤ 600000) (hnn : nn ≤ 7000000) (hQ : ∀ m3 r3, moR (rf2 (0 ≤ ((E.2.2.2.2.2 1).2 (i + 1)) ∧ ((E.2.2.2.2.2 1).2 (i + 1)) < v 5) (4 ≤ ((E.2.2.2.2.2 1).2 (i + 2)) ∧ ((E.2.2.2.2.2 1).2 (i + 2)) ≤ 25) 0 1) ((0 ≤ ((E.2.2.2.2.2 1).2 (i + 1)) ∧ ((E.2.2.2.2.2 1).2 (i + 1)) < v 5) ∧ (4 ≤ ((E.2.2.2.2.2 1).2 (i + 2)) ∧ ((E.2.2.2.2.2 1).2 (i + 2)) ≤ 25)) (fun r => r = pt v ((E.2.2.2.2.2 1).2 (i + 1)).toNat ((E.2.2.2.2.2 1).2 (i + 2))) [] m m3 r3 → (m3 96 0 = c ∧ (c = 0 → m3 111 0 = r32 r3)) ∧ xX E (("law", some .boolean, []), (25, 600000, 7000000), P, PX) RL cL_law 7 kk nn 2309 [(0, vr E 1), (1, vr E 40), (2, vr E 96), (3, vr E 111), (4, vi (i : Int))] [] (gS f D n) m3) : xX E (("law", some .boolean, []), (25, 600000, 7000000), P, PX) RL cL_law 7 kk nn 1726 [(0, vr E 1), (1, vr E 40), (2, vr E 96), (3, vr E 111), (4, vi (i : Int))] [vi c] (gS f D n) m := by
  refine x_istore dL_law_1726 ?_
  refine x_aload_n dL_law_1728 rfl ?_
  refine x_aload_n dL_law_1729 rfl ?_
  refine x_iload dL_law_1730 rfl ?_
  refine x_iconst dL_law_1732 ?_
  refine x_iadd dL_law_1733 ?_
  refine x_siald (j := i + 1) dL_law_1734 (by decide) (by decide) (by omega) (by omega) (by omega) ?_
  refine x_aload_n dL_law_1735 rfl ?_
  refine x_iload dL_law_1736 rfl ?_
  refine x_iconst dL_law_1738 ?_
  refine x_iadd dL_law_1739 ?_
  refine x_siald (j := i + 2) dL_law_1740 (by decide) (by decide) (by omega) (by omega) (by omega) ?_
  refine x_callV (as := [vi ((E.2.2.2.2.2 1).2 (i + 1)), vi ((E.2.2.2.2.2 1).2 (i + 2))]) (rest := []) (mc' := 0) (ms' := 0) mL_186 dL_law_1741 rfl rfl rfl (by decide) (by decide) hkk hnn (s_mlasts hv hN (hsc _) (hsc _) (fun m3 r3 ho => ?_))
  obtain ⟨⟨e0, e1⟩, hX9⟩ := hQ m3 r3 ho
  refine x_istore dL_law_1744 ?_
  refine x_aload_n dL_law_1746 rfl ?_
  refine x_callV (as := []) (rest := []) (mc' := 0) (ms' := 0) mL_113 dL_law_1747 rfl rfl rfl (by decide) (by decide) hkk hnn (s_mthrown ?_)
  refine x_ci e0 ?_
  refine x_iload dL_law_1750 rfl ?_
  refine x_icmp_T (tgt := 1757) dL_law_1752 (by decide) ?_
  refine x_iload dL_law_1757 rfl ?_
  refine x_if_ne (tgt := 1774) dL_law_1759 (by decide) (by omega) (fun _ => ?_) (fun hc0 => ?_)
  · refine x_goto (tgt := 2309) dL_law_1774 (by decide) ?_
    exact x_loc (lv' := [(0, vr E 1), (1, vr E 40), (2, vr E 96), (3, vr E 111), (4, vi (i : Int))]) ⟨rfl, rfl, rfl, rfl, rfl, trivial⟩ hX9
  · refine x_aload_n dL_law_1762 rfl ?_
    refine x_iconst dL_law_1763 ?_
    refine x_lald (j := 0) dL_law_1764 rfl rfl (by show 0 < 1; decide) (by decide) ?_
    refine x_topl (e1 hc0) ?_
    refine x_iload dL_law_1765 rfl ?_
    refine x_i2lz dL_law_1767 ?_
    refine x_leq_T (tgt := 1774) dL_law_1768 dL_law_1769 (by decide) ?_
    refine x_goto (tgt := 2309) dL_law_1774 (by decide) ?_
    exact x_loc (lv' := [(0, vr E 1), (1, vr E 40), (2, vr E 96), (3, vr E 111), (4, vi (i : Int))]) ⟨rfl, rfl, rfl, rfl, rfl, trivial⟩ hX9

theorem wl_lasts : Cond.methodLink RL 184 yL_lasts ∈ xTb := xTb_of 1023 (by decide +kernel) (by decide +kernel)
theorem ws_lasts : Cond.static yL_lasts ∈ xTb := xTb_of 1024 (by decide +kernel) (by decide +kernel)
theorem wc_lasts : Cond.codeWith yL_lasts cL_lasts 5 (some .int) [(0, 10, 13, 19), (0, 10, 17, 13)] ∈ xTb := xTb_of 1025 (by decide +kernel) (by decide +kernel)
set_option maxRecDepth 20000 in
theorem lw_lasts {E : xE} {f : Nat → Nat} {D : Nat → Nat × Nat} {n : Nat} {m : xM} {P : xPo} {PX : xPx} {v : Nat → Int} {h : List (Nat → Int)} {i kk nn : Nat} (hE : eOk E) (hI : tI v h f D n m) (hlen : i + 6 < (E.2.2.2.2.2 1).1) (hl31 : (E.2.2.2.2.2 1).1 < 2147483648) (hsc : ∀ j, -2147483648 ≤ (E.2.2.2.2.2 1).2 j ∧ (E.2.2.2.2.2 1).2 j ≤ 2147483647) (hkk : kk + 8 ≤ 600000) (hnn : nn + 640 ≤ 7000000) (hK : ∀ v' h' f' D' n' m', tI v' h' f' D' n' m' → m' 40 7 ≤ m 40 7 + 1 → xX E (("law", some .boolean, []), (25, 600000, 7000000), P, PX) RL cL_law 7 (kk + 8) (nn + 640) 2309 [(0, vr E 1), (1, vr E 40), (2, vr E 96), (3, vr E 111), (4, vi (i : Int))] [] (gS f' D' n') m') : xX E (("law", some .boolean, []), (25, 600000, 7000000), P, PX) RL cL_law 7 kk nn 1709 [(0, vr E 1), (1, vr E 40), (2, vr E 96), (3, vr E 111), (4, vi (i : Int))] [] (gS f D n) m := by
  have hu9 : uq (rf2 (0 ≤ ((E.2.2.2.2.2 1).2 (i + 1)) ∧ ((E.2.2.2.2.2 1).2 (i + 1)) < v 5) (4 ≤ ((E.2.2.2.2.2 1).2 (i + 2)) ∧ ((E.2.2.2.2.2 1).2 (i + 2)) ≤ 25) 0 1) ((0 ≤ ((E.2.2.2.2.2 1).2 (i + 1)) ∧ ((E.2.2.2.2.2 1).2 (i + 1)) < v 5) ∧ (4 ≤ ((E.2.2.2.2.2 1).2 (i + 2)) ∧ ((E.2.2.2.2.2 1).2 (i + 2)) ≤ 25)) (fun r => r = pt v ((E.2.2.2.2.2 1).2 (i + 1)).toNat ((E.2.2.2.2.2 1).2 (i + 2))) := uq2 (by decide) (by decide) (fun r r' _ a b => a.trans b.symm)
  refine x_aload_n dL_law_1709 rfl ?_
  refine x_aload_n dL_law_1710 rfl ?_
  refine x_iload dL_law_1711 rfl ?_
  refine x_iconst dL_law_1713 ?_
  refine x_iadd dL_law_1714 ?_
  refine x_siald (j := i + 1) dL_law_1715 (by decide) (by decide) (by omega) (by omega) (by omega) ?_
  refine x_aload_n dL_law_1716 rfl ?_
  refine x_iload dL_law_1717 rfl ?_
  refine x_iconst dL_law_1719 ?_
  refine x_iadd dL_law_1720 ?_
  refine x_siald (j := i + 2) dL_law_1721 (by decide) (by decide) (by omega) (by omega) (by omega) ?_
  refine x_aload_n dL_law_1722 rfl ?_
  refine x_callSH (na := 4) (as := [vr E 40, vi ((E.2.2.2.2.2 1).2 (i + 1)), vi ((E.2.2.2.2.2 1).2 (i + 2)), vr E 111]) (rest := []) (hy := [(0, 10, 13, 19), (0, 10, 17, 13)]) wl_lasts ws_lasts wc_lasts qSL (by decide) (by decide +kernel) (by decide) dL_law_1723 rfl rfl (by decide) (by decide) (by omega) (by omega) (s_wlasts (PX := PX) hE hI.1 (hsc _) (hsc _) (fun k9 q9 n' m' hr hc hk hu => ?_) (fun m' r hok hR hc hk h111 => ?_))
  · have hk3 := (hu9.2.2.2 _ _ hr).1
    refine af_lasts (h := h) hI.1.1.1 (hI.N hk) hlen hl31 hsc (by omega) (by omega) (by omega) (fun m3 r3 ho => ?_)
    · have h9 := tw_ref hu9 hr hI hc hk hu (ho.mr (by decide) (hI.N hk) (hI.H hk))
      exact ⟨⟨h9.2.1, fun z => by omega⟩, x_wide (Nat.le_refl _) (by omega) (hK _ _ _ _ _ _ h9.1 (by rw [h9.2.2, hk.2.2 7 (by simp; omega)]; omega))⟩
  · refine af_lasts (h := h) hI.1.1.1 (hI.N hk) hlen hl31 hsc (by omega) (by omega) (by omega) (fun m3 r3 ho => ?_)
    · have h9 := tw_ans hu9 hok hR hI hc hk (ho.mr (by decide) (hI.N hk) (hI.H hk))
      obtain ⟨⟨g1, g2, g3, g4⟩, rfl⟩ := h9
      exact ⟨⟨g2, fun _ => by rw [g3]; exact h111⟩, x_wide (Nat.le_refl _) (by omega) (hK _ _ _ _ _ _ g1 (by rw [g4, hk.2.2 7 (by simp)]; omega))⟩

set_option maxRecDepth 20000 in
theorem af_least {E : xE} {f : Nat → Nat} {D : Nat → Nat × Nat} {n : Nat} {m : xM} {P : xPo} {PX : xPx} {v : Nat → Int} {h : List (Nat → Int)} {i kk nn : Nat} {c : Int} (hv : vOk v) (hN : mN v m) (hlen : i + 6 < (E.2.2.2.2.2 1).1) (hl31 : (E.2.2.2.2.2 1).1 < 2147483648) (hsc : ∀ j, -2147483648 ≤ (E.2.2.2.2.2 1).2 j ∧ (E.2.2.2.2.2 1).2 j ≤ 2147483647) (hc : 0 ≤ c ∧ c ≤ 3) (hkk : kk ≤ 600000) (hnn : nn ≤ 7000000) (hQ : ∀ m3 r3, moR (rf2 (0 ≤ ((E.2.2.2.2.2 1).2 (i + 1)) ∧ ((E.2.2.2.2.2 1).2 (i + 1)) < v 5) ((0 ≤ ((E.2.2.2.2.2 1).2 (i + 2)) ∧ ((E.2.2.2.2.2 1).2 (i + 2)) ≤ 10000) ∧ (4 ≤ ((E.2.2.2.2.2 1).2 (i + 3)) ∧ ((E.2.2.2.2.2 1).2 (i + 3)) ≤ 25)) 0 1) ((0 ≤ ((E.2.2.2.2.2 1).2 (i + 1)) ∧ ((E.2.2.2.2.2 1).2 (i + 1)) < v 5) ∧ ((0 ≤ ((E.2.2.2.2.2 1).2 (i + 2)) ∧ ((E.2.2.2.2.2 1).2 (i + 2)) ≤ 10000) ∧ (4 ≤ ((E.2.2.2.2.2 1).2 (i + 3)) ∧ ((E.2.2.2.2.2 1).2 (i + 3)) ≤ 25))) (fun r => r = lst v ((E.2.2.2.2.2 1).2 (i + 1)).toNat ((E.2.2.2.2.2 1).2 (i + 2)) ((E.2.2.2.2.2 1).2 (i + 3))) [103] m m3 r3 → (m3 96 0 = c ∧ (c = 0 → m3 111 0 = r32 r3)) ∧ xX E (("law", some .boolean, []), (25, 600000, 7000000), P, PX) RL cL_law 7 kk nn 2309 [(0, vr E 1), (1, vr E 40), (2, vr E 96), (3, vr E 111), (4, vi (i : Int))] [] (gS f D n) m3) : xX E (("law", some .boolean, []), (25, 600000, 7000000), P, PX) RL cL_law 7 kk nn 1800 [(0, vr E 1), (1, vr E 40), (2, vr E 96), (3, vr E 111), (4, vi (i : Int))] [vi c] (gS f D n) m := by
  refine x_istore dL_law_1800 ?_
  refine x_aload_n dL_law_1802 rfl ?_
  refine x_aload_n dL_law_1803 rfl ?_
  refine x_iload dL_law_1804 rfl ?_
  refine x_iconst dL_law_1806 ?_
  refine x_iadd dL_law_1807 ?_
  refine x_siald (j := i + 1) dL_law_1808 (by decide) (by decide) (by omega) (by omega) (by omega) ?_
  refine x_aload_n dL_law_1809 rfl ?_
  refine x_iload dL_law_1810 rfl ?_
  refine x_iconst dL_law_1812 ?_
  refine x_iadd dL_law_1813 ?_
  refine x_siald (j := i + 2) dL_law_1814 (by decide) (by decide) (by omega) (by omega) (by omega) ?_
  refine x_aload_n dL_law_1815 rfl ?_
  refine x_iload dL_law_1816 rfl ?_
  refine x_iconst dL_law_1818 ?_
  refine x_iadd dL_law_1819 ?_
  refine x_siald (j := i + 3) dL_law_1820 (by decide) (by decide) (by omega) (by omega) (by omega) ?_
  refine x_callV (as := [vi ((E.2.2.2.2.2 1).2 (i + 1)), vi ((E.2.2.2.2.2 1).2 (i + 2)), vi ((E.2.2.2.2.2 1).2 (i + 3))]) (rest := []) (mc' := 0) (ms' := 0) mL_189 dL_law_1821 rfl rfl rfl (by decide) (by decide) hkk hnn (s_mleast hv hN (hsc _) (hsc _) (hsc _) (fun m3 r3 ho => ?_))
  obtain ⟨⟨e0, e1⟩, hX9⟩ := hQ m3 r3 ho
  refine x_istore dL_law_1824 ?_
  refine x_aload_n dL_law_1826 rfl ?_
  refine x_callV (as := []) (rest := []) (mc' := 0) (ms' := 0) mL_113 dL_law_1827 rfl rfl rfl (by decide) (by decide) hkk hnn (s_mthrown ?_)
  refine x_ci e0 ?_
  refine x_iload dL_law_1830 rfl ?_
  refine x_icmp_T (tgt := 1837) dL_law_1832 (by decide) ?_
  refine x_iload dL_law_1837 rfl ?_
  refine x_if_ne (tgt := 1854) dL_law_1839 (by decide) (by omega) (fun _ => ?_) (fun hc0 => ?_)
  · refine x_goto (tgt := 2309) dL_law_1854 (by decide) ?_
    exact x_loc (lv' := [(0, vr E 1), (1, vr E 40), (2, vr E 96), (3, vr E 111), (4, vi (i : Int))]) ⟨rfl, rfl, rfl, rfl, rfl, trivial⟩ hX9
  · refine x_aload_n dL_law_1842 rfl ?_
    refine x_iconst dL_law_1843 ?_
    refine x_lald (j := 0) dL_law_1844 rfl rfl (by show 0 < 1; decide) (by decide) ?_
    refine x_topl (e1 hc0) ?_
    refine x_iload dL_law_1845 rfl ?_
    refine x_i2lz dL_law_1847 ?_
    refine x_leq_T (tgt := 1854) dL_law_1848 dL_law_1849 (by decide) ?_
    refine x_goto (tgt := 2309) dL_law_1854 (by decide) ?_
    exact x_loc (lv' := [(0, vr E 1), (1, vr E 40), (2, vr E 96), (3, vr E 111), (4, vi (i : Int))]) ⟨rfl, rfl, rfl, rfl, rfl, trivial⟩ hX9

theorem wl_least : Cond.methodLink RL 187 yL_least ∈ xTb := xTb_of 1030 (by decide +kernel) (by decide +kernel)
theorem ws_least : Cond.static yL_least ∈ xTb := xTb_of 1031 (by decide +kernel) (by decide +kernel)
theorem wc_least : Cond.codeWith yL_least cL_least 6 (some .int) [(0, 12, 15, 19), (0, 12, 19, 13)] ∈ xTb := xTb_of 1032 (by decide +kernel) (by decide +kernel)
set_option maxRecDepth 20000 in
theorem lw_least {E : xE} {f : Nat → Nat} {D : Nat → Nat × Nat} {n : Nat} {m : xM} {P : xPo} {PX : xPx} {v : Nat → Int} {h : List (Nat → Int)} {i kk nn : Nat} (hE : eOk E) (hI : tI v h f D n m) (hlen : i + 6 < (E.2.2.2.2.2 1).1) (hl31 : (E.2.2.2.2.2 1).1 < 2147483648) (hsc : ∀ j, -2147483648 ≤ (E.2.2.2.2.2 1).2 j ∧ (E.2.2.2.2.2 1).2 j ≤ 2147483647) (hkk : kk + 8 ≤ 600000) (hnn : nn + 640 ≤ 7000000) (hK : ∀ v' h' f' D' n' m', tI v' h' f' D' n' m' → m' 40 7 ≤ m 40 7 + 1 → xX E (("law", some .boolean, []), (25, 600000, 7000000), P, PX) RL cL_law 7 (kk + 8) (nn + 640) 2309 [(0, vr E 1), (1, vr E 40), (2, vr E 96), (3, vr E 111), (4, vi (i : Int))] [] (gS f' D' n') m') : xX E (("law", some .boolean, []), (25, 600000, 7000000), P, PX) RL cL_law 7 kk nn 1777 [(0, vr E 1), (1, vr E 40), (2, vr E 96), (3, vr E 111), (4, vi (i : Int))] [] (gS f D n) m := by
  have hu9 : uq (rf2 (0 ≤ ((E.2.2.2.2.2 1).2 (i + 1)) ∧ ((E.2.2.2.2.2 1).2 (i + 1)) < v 5) ((0 ≤ ((E.2.2.2.2.2 1).2 (i + 2)) ∧ ((E.2.2.2.2.2 1).2 (i + 2)) ≤ 10000) ∧ (4 ≤ ((E.2.2.2.2.2 1).2 (i + 3)) ∧ ((E.2.2.2.2.2 1).2 (i + 3)) ≤ 25)) 0 1) ((0 ≤ ((E.2.2.2.2.2 1).2 (i + 1)) ∧ ((E.2.2.2.2.2 1).2 (i + 1)) < v 5) ∧ ((0 ≤ ((E.2.2.2.2.2 1).2 (i + 2)) ∧ ((E.2.2.2.2.2 1).2 (i + 2)) ≤ 10000) ∧ (4 ≤ ((E.2.2.2.2.2 1).2 (i + 3)) ∧ ((E.2.2.2.2.2 1).2 (i + 3)) ≤ 25))) (fun r => r = lst v ((E.2.2.2.2.2 1).2 (i + 1)).toNat ((E.2.2.2.2.2 1).2 (i + 2)) ((E.2.2.2.2.2 1).2 (i + 3))) := uq2 (by decide) (by decide) (fun r r' _ a b => a.trans b.symm)
  refine x_aload_n dL_law_1777 rfl ?_
  refine x_aload_n dL_law_1778 rfl ?_
  refine x_iload dL_law_1779 rfl ?_
  refine x_iconst dL_law_1781 ?_
  refine x_iadd dL_law_1782 ?_
  refine x_siald (j := i + 1) dL_law_1783 (by decide) (by decide) (by omega) (by omega) (by omega) ?_
  refine x_aload_n dL_law_1784 rfl ?_
  refine x_iload dL_law_1785 rfl ?_
  refine x_iconst dL_law_1787 ?_
  refine x_iadd dL_law_1788 ?_
  refine x_siald (j := i + 2) dL_law_1789 (by decide) (by decide) (by omega) (by omega) (by omega) ?_
  refine x_aload_n dL_law_1790 rfl ?_
  refine x_iload dL_law_1791 rfl ?_
  refine x_iconst dL_law_1793 ?_
  refine x_iadd dL_law_1794 ?_
  refine x_siald (j := i + 3) dL_law_1795 (by decide) (by decide) (by omega) (by omega) (by omega) ?_
  refine x_aload_n dL_law_1796 rfl ?_
  refine x_callSH (na := 5) (as := [vr E 40, vi ((E.2.2.2.2.2 1).2 (i + 1)), vi ((E.2.2.2.2.2 1).2 (i + 2)), vi ((E.2.2.2.2.2 1).2 (i + 3)), vr E 111]) (rest := []) (hy := [(0, 12, 15, 19), (0, 12, 19, 13)]) wl_least ws_least wc_least qSL (by decide) (by decide +kernel) (by decide) dL_law_1797 rfl rfl (by decide) (by decide) (by omega) (by omega) (s_wleast (PX := PX) hE hI.1 (hsc _) (hsc _) (hsc _) (fun k9 q9 n' m' hr hc hk hu => ?_) (fun m' r hok hR hc hk h111 => ?_))
  · have hk3 := (hu9.2.2.2 _ _ hr).1
    refine af_least (h := h) hI.1.1.1 (hI.N hk) hlen hl31 hsc (by omega) (by omega) (by omega) (fun m3 r3 ho => ?_)
    · have h9 := tw_ref hu9 hr hI hc hk hu (ho.mr (by decide) (hI.N hk) (hI.H hk))
      exact ⟨⟨h9.2.1, fun z => by omega⟩, x_wide (Nat.le_refl _) (by omega) (hK _ _ _ _ _ _ h9.1 (by rw [h9.2.2, hk.2.2 7 (by simp; omega)]; omega))⟩
  · refine af_least (h := h) hI.1.1.1 (hI.N hk) hlen hl31 hsc (by omega) (by omega) (by omega) (fun m3 r3 ho => ?_)
    · have h9 := tw_ans hu9 hok hR hI hc hk (ho.mr (by decide) (hI.N hk) (hI.H hk))
      obtain ⟨⟨g1, g2, g3, g4⟩, rfl⟩ := h9
      exact ⟨⟨g2, fun _ => by rw [g3]; exact h111⟩, x_wide (Nat.le_refl _) (by omega) (hK _ _ _ _ _ _ g1 (by rw [g4, hk.2.2 7 (by simp)]; omega))⟩

set_option maxRecDepth 20000 in
theorem af_deepest {E : xE} {f : Nat → Nat} {D : Nat → Nat × Nat} {n : Nat} {m : xM} {P : xPo} {PX : xPx} {v : Nat → Int} {h : List (Nat → Int)} {i kk nn : Nat} {c : Int} (hv : vOk v) (hN : mN v m) (hlen : i + 6 < (E.2.2.2.2.2 1).1) (hl31 : (E.2.2.2.2.2 1).1 < 2147483648) (hsc : ∀ j, -2147483648 ≤ (E.2.2.2.2.2 1).2 j ∧ (E.2.2.2.2.2 1).2 j ≤ 2147483647) (hc : 0 ≤ c ∧ c ≤ 3) (hkk : kk ≤ 600000) (hnn : nn ≤ 7000000) (hQ : ∀ m3 r3, moR (rf2 (0 ≤ ((E.2.2.2.2.2 1).2 (i + 1)) ∧ ((E.2.2.2.2.2 1).2 (i + 1)) < v 5) ((0 ≤ ((E.2.2.2.2.2 1).2 (i + 2)) ∧ ((E.2.2.2.2.2 1).2 (i + 2)) ≤ 10000) ∧ (4 ≤ ((E.2.2.2.2.2 1).2 (i + 3)) ∧ ((E.2.2.2.2.2 1).2 (i + 3)) ≤ 25)) 0 1) ((0 ≤ ((E.2.2.2.2.2 1).2 (i + 1)) ∧ ((E.2.2.2.2.2 1).2 (i + 1)) < v 5) ∧ ((0 ≤ ((E.2.2.2.2.2 1).2 (i + 2)) ∧ ((E.2.2.2.2.2 1).2 (i + 2)) ≤ 10000) ∧ (4 ≤ ((E.2.2.2.2.2 1).2 (i + 3)) ∧ ((E.2.2.2.2.2 1).2 (i + 3)) ≤ 25))) (fun r => r = dps v ((E.2.2.2.2.2 1).2 (i + 1)).toNat ((E.2.2.2.2.2 1).2 (i + 2)) ((E.2.2.2.2.2 1).2 (i + 3))) [103] m m3 r3 → (m3 96 0 = c ∧ (c = 0 → m3 111 0 = r32 r3)) ∧ xX E (("law", some .boolean, []), (25, 600000, 7000000), P, PX) RL cL_law 7 kk nn 2309 [(0, vr E 1), (1, vr E 40), (2, vr E 96), (3, vr E 111), (4, vi (i : Int))] [] (gS f D n) m3) : xX E (("law", some .boolean, []), (25, 600000, 7000000), P, PX) RL cL_law 7 kk nn 1880 [(0, vr E 1), (1, vr E 40), (2, vr E 96), (3, vr E 111), (4, vi (i : Int))] [vi c] (gS f D n) m := by
  refine x_istore dL_law_1880 ?_
  refine x_aload_n dL_law_1882 rfl ?_
  refine x_aload_n dL_law_1883 rfl ?_
  refine x_iload dL_law_1884 rfl ?_
  refine x_iconst dL_law_1886 ?_
  refine x_iadd dL_law_1887 ?_
  refine x_siald (j := i + 1) dL_law_1888 (by decide) (by decide) (by omega) (by omega) (by omega) ?_
  refine x_aload_n dL_law_1889 rfl ?_
  refine x_iload dL_law_1890 rfl ?_
  refine x_iconst dL_law_1892 ?_
  refine x_iadd dL_law_1893 ?_
  refine x_siald (j := i + 2) dL_law_1894 (by decide) (by decide) (by omega) (by omega) (by omega) ?_
  refine x_aload_n dL_law_1895 rfl ?_
  refine x_iload dL_law_1896 rfl ?_
  refine x_iconst dL_law_1898 ?_
  refine x_iadd dL_law_1899 ?_
  refine x_siald (j := i + 3) dL_law_1900 (by decide) (by decide) (by omega) (by omega) (by omega) ?_
  refine x_callV (as := [vi ((E.2.2.2.2.2 1).2 (i + 1)), vi ((E.2.2.2.2.2 1).2 (i + 2)), vi ((E.2.2.2.2.2 1).2 (i + 3))]) (rest := []) (mc' := 0) (ms' := 0) mL_192 dL_law_1901 rfl rfl rfl (by decide) (by decide) hkk hnn (s_mdeepest hv hN (hsc _) (hsc _) (hsc _) (fun m3 r3 ho => ?_))
  obtain ⟨⟨e0, e1⟩, hX9⟩ := hQ m3 r3 ho
  refine x_istore dL_law_1904 ?_
  refine x_aload_n dL_law_1906 rfl ?_
  refine x_callV (as := []) (rest := []) (mc' := 0) (ms' := 0) mL_113 dL_law_1907 rfl rfl rfl (by decide) (by decide) hkk hnn (s_mthrown ?_)
  refine x_ci e0 ?_
  refine x_iload dL_law_1910 rfl ?_
  refine x_icmp_T (tgt := 1917) dL_law_1912 (by decide) ?_
  refine x_iload dL_law_1917 rfl ?_
  refine x_if_ne (tgt := 1934) dL_law_1919 (by decide) (by omega) (fun _ => ?_) (fun hc0 => ?_)
  · refine x_goto (tgt := 2309) dL_law_1934 (by decide) ?_
    exact x_loc (lv' := [(0, vr E 1), (1, vr E 40), (2, vr E 96), (3, vr E 111), (4, vi (i : Int))]) ⟨rfl, rfl, rfl, rfl, rfl, trivial⟩ hX9
  · refine x_aload_n dL_law_1922 rfl ?_
    refine x_iconst dL_law_1923 ?_
    refine x_lald (j := 0) dL_law_1924 rfl rfl (by show 0 < 1; decide) (by decide) ?_
    refine x_topl (e1 hc0) ?_
    refine x_iload dL_law_1925 rfl ?_
    refine x_i2lz dL_law_1927 ?_
    refine x_leq_T (tgt := 1934) dL_law_1928 dL_law_1929 (by decide) ?_
    refine x_goto (tgt := 2309) dL_law_1934 (by decide) ?_
    exact x_loc (lv' := [(0, vr E 1), (1, vr E 40), (2, vr E 96), (3, vr E 111), (4, vi (i : Int))]) ⟨rfl, rfl, rfl, rfl, rfl, trivial⟩ hX9

theorem wl_deepest : Cond.methodLink RL 190 yL_deepest ∈ xTb := xTb_of 1041 (by decide +kernel) (by decide +kernel)
theorem ws_deepest : Cond.static yL_deepest ∈ xTb := xTb_of 1042 (by decide +kernel) (by decide +kernel)
theorem wc_deepest : Cond.codeWith yL_deepest cL_deepest 6 (some .int) [(0, 12, 15, 19), (0, 12, 19, 13)] ∈ xTb := xTb_of 1043 (by decide +kernel) (by decide +kernel)
set_option maxRecDepth 20000 in
theorem lw_deepest {E : xE} {f : Nat → Nat} {D : Nat → Nat × Nat} {n : Nat} {m : xM} {P : xPo} {PX : xPx} {v : Nat → Int} {h : List (Nat → Int)} {i kk nn : Nat} (hE : eOk E) (hI : tI v h f D n m) (hlen : i + 6 < (E.2.2.2.2.2 1).1) (hl31 : (E.2.2.2.2.2 1).1 < 2147483648) (hsc : ∀ j, -2147483648 ≤ (E.2.2.2.2.2 1).2 j ∧ (E.2.2.2.2.2 1).2 j ≤ 2147483647) (hkk : kk + 8 ≤ 600000) (hnn : nn + 640 ≤ 7000000) (hK : ∀ v' h' f' D' n' m', tI v' h' f' D' n' m' → m' 40 7 ≤ m 40 7 + 1 → xX E (("law", some .boolean, []), (25, 600000, 7000000), P, PX) RL cL_law 7 (kk + 8) (nn + 640) 2309 [(0, vr E 1), (1, vr E 40), (2, vr E 96), (3, vr E 111), (4, vi (i : Int))] [] (gS f' D' n') m') : xX E (("law", some .boolean, []), (25, 600000, 7000000), P, PX) RL cL_law 7 kk nn 1857 [(0, vr E 1), (1, vr E 40), (2, vr E 96), (3, vr E 111), (4, vi (i : Int))] [] (gS f D n) m := by
  have hu9 : uq (rf2 (0 ≤ ((E.2.2.2.2.2 1).2 (i + 1)) ∧ ((E.2.2.2.2.2 1).2 (i + 1)) < v 5) ((0 ≤ ((E.2.2.2.2.2 1).2 (i + 2)) ∧ ((E.2.2.2.2.2 1).2 (i + 2)) ≤ 10000) ∧ (4 ≤ ((E.2.2.2.2.2 1).2 (i + 3)) ∧ ((E.2.2.2.2.2 1).2 (i + 3)) ≤ 25)) 0 1) ((0 ≤ ((E.2.2.2.2.2 1).2 (i + 1)) ∧ ((E.2.2.2.2.2 1).2 (i + 1)) < v 5) ∧ ((0 ≤ ((E.2.2.2.2.2 1).2 (i + 2)) ∧ ((E.2.2.2.2.2 1).2 (i + 2)) ≤ 10000) ∧ (4 ≤ ((E.2.2.2.2.2 1).2 (i + 3)) ∧ ((E.2.2.2.2.2 1).2 (i + 3)) ≤ 25))) (fun r => r = dps v ((E.2.2.2.2.2 1).2 (i + 1)).toNat ((E.2.2.2.2.2 1).2 (i + 2)) ((E.2.2.2.2.2 1).2 (i + 3))) := uq2 (by decide) (by decide) (fun r r' _ a b => a.trans b.symm)
  refine x_aload_n dL_law_1857 rfl ?_
  refine x_aload_n dL_law_1858 rfl ?_
  refine x_iload dL_law_1859 rfl ?_
  refine x_iconst dL_law_1861 ?_
  refine x_iadd dL_law_1862 ?_
  refine x_siald (j := i + 1) dL_law_1863 (by decide) (by decide) (by omega) (by omega) (by omega) ?_
  refine x_aload_n dL_law_1864 rfl ?_
  refine x_iload dL_law_1865 rfl ?_
  refine x_iconst dL_law_1867 ?_
  refine x_iadd dL_law_1868 ?_
  refine x_siald (j := i + 2) dL_law_1869 (by decide) (by decide) (by omega) (by omega) (by omega) ?_
  refine x_aload_n dL_law_1870 rfl ?_
  refine x_iload dL_law_1871 rfl ?_
  refine x_iconst dL_law_1873 ?_
  refine x_iadd dL_law_1874 ?_
  refine x_siald (j := i + 3) dL_law_1875 (by decide) (by decide) (by omega) (by omega) (by omega) ?_
  refine x_aload_n dL_law_1876 rfl ?_
  refine x_callSH (na := 5) (as := [vr E 40, vi ((E.2.2.2.2.2 1).2 (i + 1)), vi ((E.2.2.2.2.2 1).2 (i + 2)), vi ((E.2.2.2.2.2 1).2 (i + 3)), vr E 111]) (rest := []) (hy := [(0, 12, 15, 19), (0, 12, 19, 13)]) wl_deepest ws_deepest wc_deepest qSL (by decide) (by decide +kernel) (by decide) dL_law_1877 rfl rfl (by decide) (by decide) (by omega) (by omega) (s_wdeepest (PX := PX) hE hI.1 (hsc _) (hsc _) (hsc _) (fun k9 q9 n' m' hr hc hk hu => ?_) (fun m' r hok hR hc hk h111 => ?_))
  · have hk3 := (hu9.2.2.2 _ _ hr).1
    refine af_deepest (h := h) hI.1.1.1 (hI.N hk) hlen hl31 hsc (by omega) (by omega) (by omega) (fun m3 r3 ho => ?_)
    · have h9 := tw_ref hu9 hr hI hc hk hu (ho.mr (by decide) (hI.N hk) (hI.H hk))
      exact ⟨⟨h9.2.1, fun z => by omega⟩, x_wide (Nat.le_refl _) (by omega) (hK _ _ _ _ _ _ h9.1 (by rw [h9.2.2, hk.2.2 7 (by simp; omega)]; omega))⟩
  · refine af_deepest (h := h) hI.1.1.1 (hI.N hk) hlen hl31 hsc (by omega) (by omega) (by omega) (fun m3 r3 ho => ?_)
    · have h9 := tw_ans hu9 hok hR hI hc hk (ho.mr (by decide) (hI.N hk) (hI.H hk))
      obtain ⟨⟨g1, g2, g3, g4⟩, rfl⟩ := h9
      exact ⟨⟨g2, fun _ => by rw [g3]; exact h111⟩, x_wide (Nat.le_refl _) (by omega) (hK _ _ _ _ _ _ g1 (by rw [g4, hk.2.2 7 (by simp)]; omega))⟩

set_option maxRecDepth 20000 in
theorem af_soonest {E : xE} {f : Nat → Nat} {D : Nat → Nat × Nat} {n : Nat} {m : xM} {P : xPo} {PX : xPx} {v : Nat → Int} {h : List (Nat → Int)} {i kk nn : Nat} {c : Int} (hv : vOk v) (hN : mN v m) (hlen : i + 6 < (E.2.2.2.2.2 1).1) (hl31 : (E.2.2.2.2.2 1).1 < 2147483648) (hsc : ∀ j, -2147483648 ≤ (E.2.2.2.2.2 1).2 j ∧ (E.2.2.2.2.2 1).2 j ≤ 2147483647) (hc : 0 ≤ c ∧ c ≤ 3) (hkk : kk ≤ 600000) (hnn : nn ≤ 7000000) (hQ : ∀ m3 r3, moR (rf2 (0 ≤ ((E.2.2.2.2.2 1).2 (i + 1)) ∧ ((E.2.2.2.2.2 1).2 (i + 1)) < v 5) (0 ≤ ((E.2.2.2.2.2 1).2 (i + 2)) ∧ ((E.2.2.2.2.2 1).2 (i + 2)) ≤ 10000) 0 1) ((0 ≤ ((E.2.2.2.2.2 1).2 (i + 1)) ∧ ((E.2.2.2.2.2 1).2 (i + 1)) < v 5) ∧ (0 ≤ ((E.2.2.2.2.2 1).2 (i + 2)) ∧ ((E.2.2.2.2.2 1).2 (i + 2)) ≤ 10000)) (fun r => soR v ((E.2.2.2.2.2 1).2 (i + 1)).toNat ((E.2.2.2.2.2 1).2 (i + 2)) r) [103, 105, 106, 107] m m3 r3 → (m3 96 0 = c ∧ (c = 0 → m3 111 0 = r32 r3)) ∧ xX E (("law", some .boolean, []), (25, 600000, 7000000), P, PX) RL cL_law 7 kk nn 2309 [(0, vr E 1), (1, vr E 40), (2, vr E 96), (3, vr E 111), (4, vi (i : Int))] [] (gS f D n) m3) : xX E (("law", some .boolean, []), (25, 600000, 7000000), P, PX) RL cL_law 7 kk nn 1954 [(0, vr E 1), (1, vr E 40), (2, vr E 96), (3, vr E 111), (4, vi (i : Int))] [vi c] (gS f D n) m := by
  refine x_istore dL_law_1954 ?_
  refine x_aload_n dL_law_1956 rfl ?_
  refine x_aload_n dL_law_1957 rfl ?_
  refine x_iload dL_law_1958 rfl ?_
  refine x_iconst dL_law_1960 ?_
  refine x_iadd dL_law_1961 ?_
  refine x_siald (j := i + 1) dL_law_1962 (by decide) (by decide) (by omega) (by omega) (by omega) ?_
  refine x_aload_n dL_law_1963 rfl ?_
  refine x_iload dL_law_1964 rfl ?_
  refine x_iconst dL_law_1966 ?_
  refine x_iadd dL_law_1967 ?_
  refine x_siald (j := i + 2) dL_law_1968 (by decide) (by decide) (by omega) (by omega) (by omega) ?_
  refine x_callV (as := [vi ((E.2.2.2.2.2 1).2 (i + 1)), vi ((E.2.2.2.2.2 1).2 (i + 2))]) (rest := []) (mc' := 0) (ms' := 0) mL_195 dL_law_1969 rfl rfl rfl (by decide) (by decide) hkk hnn (s_msoonest hv hN (hsc _) (hsc _) (fun m3 r3 ho => ?_))
  obtain ⟨⟨e0, e1⟩, hX9⟩ := hQ m3 r3 ho
  refine x_istore dL_law_1972 ?_
  refine x_aload_n dL_law_1974 rfl ?_
  refine x_callV (as := []) (rest := []) (mc' := 0) (ms' := 0) mL_113 dL_law_1975 rfl rfl rfl (by decide) (by decide) hkk hnn (s_mthrown ?_)
  refine x_ci e0 ?_
  refine x_iload dL_law_1978 rfl ?_
  refine x_icmp_T (tgt := 1985) dL_law_1980 (by decide) ?_
  refine x_iload dL_law_1985 rfl ?_
  refine x_if_ne (tgt := 2002) dL_law_1987 (by decide) (by omega) (fun _ => ?_) (fun hc0 => ?_)
  · refine x_goto (tgt := 2309) dL_law_2002 (by decide) ?_
    exact x_loc (lv' := [(0, vr E 1), (1, vr E 40), (2, vr E 96), (3, vr E 111), (4, vi (i : Int))]) ⟨rfl, rfl, rfl, rfl, rfl, trivial⟩ hX9
  · refine x_aload_n dL_law_1990 rfl ?_
    refine x_iconst dL_law_1991 ?_
    refine x_lald (j := 0) dL_law_1992 rfl rfl (by show 0 < 1; decide) (by decide) ?_
    refine x_topl (e1 hc0) ?_
    refine x_iload dL_law_1993 rfl ?_
    refine x_i2lz dL_law_1995 ?_
    refine x_leq_T (tgt := 2002) dL_law_1996 dL_law_1997 (by decide) ?_
    refine x_goto (tgt := 2309) dL_law_2002 (by decide) ?_
    exact x_loc (lv' := [(0, vr E 1), (1, vr E 40), (2, vr E 96), (3, vr E 111), (4, vi (i : Int))]) ⟨rfl, rfl, rfl, rfl, rfl, trivial⟩ hX9

theorem wl_soonest : Cond.methodLink RL 193 yL_soonest ∈ xTb := xTb_of 1052 (by decide +kernel) (by decide +kernel)
theorem ws_soonest : Cond.static yL_soonest ∈ xTb := xTb_of 1053 (by decide +kernel) (by decide +kernel)
theorem wc_soonest : Cond.codeWith yL_soonest cL_soonest 5 (some .int) [(0, 10, 13, 19), (0, 10, 17, 13)] ∈ xTb := xTb_of 1054 (by decide +kernel) (by decide +kernel)
set_option maxRecDepth 20000 in
theorem lw_soonest {E : xE} {f : Nat → Nat} {D : Nat → Nat × Nat} {n : Nat} {m : xM} {P : xPo} {PX : xPx} {v : Nat → Int} {h : List (Nat → Int)} {i kk nn : Nat} (hE : eOk E) (hI : tI v h f D n m) (hlen : i + 6 < (E.2.2.2.2.2 1).1) (hl31 : (E.2.2.2.2.2 1).1 < 2147483648) (hsc : ∀ j, -2147483648 ≤ (E.2.2.2.2.2 1).2 j ∧ (E.2.2.2.2.2 1).2 j ≤ 2147483647) (hkk : kk + 8 ≤ 600000) (hnn : nn + 640 ≤ 7000000) (hK : ∀ v' h' f' D' n' m', tI v' h' f' D' n' m' → m' 40 7 ≤ m 40 7 + 1 → xX E (("law", some .boolean, []), (25, 600000, 7000000), P, PX) RL cL_law 7 (kk + 8) (nn + 640) 2309 [(0, vr E 1), (1, vr E 40), (2, vr E 96), (3, vr E 111), (4, vi (i : Int))] [] (gS f' D' n') m') : xX E (("law", some .boolean, []), (25, 600000, 7000000), P, PX) RL cL_law 7 kk nn 1937 [(0, vr E 1), (1, vr E 40), (2, vr E 96), (3, vr E 111), (4, vi (i : Int))] [] (gS f D n) m := by
  have hu9 : uq (rf2 (0 ≤ ((E.2.2.2.2.2 1).2 (i + 1)) ∧ ((E.2.2.2.2.2 1).2 (i + 1)) < v 5) (0 ≤ ((E.2.2.2.2.2 1).2 (i + 2)) ∧ ((E.2.2.2.2.2 1).2 (i + 2)) ≤ 10000) 0 1) ((0 ≤ ((E.2.2.2.2.2 1).2 (i + 1)) ∧ ((E.2.2.2.2.2 1).2 (i + 1)) < v 5) ∧ (0 ≤ ((E.2.2.2.2.2 1).2 (i + 2)) ∧ ((E.2.2.2.2.2 1).2 (i + 2)) ≤ 10000)) (fun r => soR v ((E.2.2.2.2.2 1).2 (i + 1)).toNat ((E.2.2.2.2.2 1).2 (i + 2)) r) := uq2 (by decide) (by decide) (fun r r' _ a b => soR_u a b)
  refine x_aload_n dL_law_1937 rfl ?_
  refine x_aload_n dL_law_1938 rfl ?_
  refine x_iload dL_law_1939 rfl ?_
  refine x_iconst dL_law_1941 ?_
  refine x_iadd dL_law_1942 ?_
  refine x_siald (j := i + 1) dL_law_1943 (by decide) (by decide) (by omega) (by omega) (by omega) ?_
  refine x_aload_n dL_law_1944 rfl ?_
  refine x_iload dL_law_1945 rfl ?_
  refine x_iconst dL_law_1947 ?_
  refine x_iadd dL_law_1948 ?_
  refine x_siald (j := i + 2) dL_law_1949 (by decide) (by decide) (by omega) (by omega) (by omega) ?_
  refine x_aload_n dL_law_1950 rfl ?_
  refine x_callSH (na := 4) (as := [vr E 40, vi ((E.2.2.2.2.2 1).2 (i + 1)), vi ((E.2.2.2.2.2 1).2 (i + 2)), vr E 111]) (rest := []) (hy := [(0, 10, 13, 19), (0, 10, 17, 13)]) wl_soonest ws_soonest wc_soonest qSL (by decide) (by decide +kernel) (by decide) dL_law_1951 rfl rfl (by decide) (by decide) (by omega) (by omega) (s_wsoonest (PX := PX) hE hI.1 (hsc _) (hsc _) (fun k9 q9 n' m' hr hc hk hu => ?_) (fun m' r hok hR hc hk h111 => ?_))
  · have hk3 := (hu9.2.2.2 _ _ hr).1
    refine af_soonest (h := h) hI.1.1.1 (hI.N hk) hlen hl31 hsc (by omega) (by omega) (by omega) (fun m3 r3 ho => ?_)
    · have h9 := tw_ref hu9 hr hI hc hk hu (ho.mr (by decide) (hI.N hk) (hI.H hk))
      exact ⟨⟨h9.2.1, fun z => by omega⟩, x_wide (Nat.le_refl _) (by omega) (hK _ _ _ _ _ _ h9.1 (by rw [h9.2.2, hk.2.2 7 (by simp; omega)]; omega))⟩
  · refine af_soonest (h := h) hI.1.1.1 (hI.N hk) hlen hl31 hsc (by omega) (by omega) (by omega) (fun m3 r3 ho => ?_)
    · have h9 := tw_ans hu9 hok hR hI hc hk (ho.mr (by decide) (hI.N hk) (hI.H hk))
      obtain ⟨⟨g1, g2, g3, g4⟩, rfl⟩ := h9
      exact ⟨⟨g2, fun _ => by rw [g3]; exact h111⟩, x_wide (Nat.le_refl _) (by omega) (hK _ _ _ _ _ _ g1 (by rw [g4, hk.2.2 7 (by simp)]; omega))⟩

set_option maxRecDepth 20000 in
theorem af_convoy {E : xE} {f : Nat → Nat} {D : Nat → Nat × Nat} {n : Nat} {m : xM} {P : xPo} {PX : xPx} {v : Nat → Int} {h : List (Nat → Int)} {i kk nn : Nat} {c : Int} (hv : vOk v) (hN : mN v m) (hlen : i + 6 < (E.2.2.2.2.2 1).1) (hl31 : (E.2.2.2.2.2 1).1 < 2147483648) (hsc : ∀ j, -2147483648 ≤ (E.2.2.2.2.2 1).2 j ∧ (E.2.2.2.2.2 1).2 j ≤ 2147483647) (hc : 0 ≤ c ∧ c ≤ 3) (hkk : kk ≤ 600000) (hnn : nn ≤ 7000000) (hQ : ∀ m3 r3, moR3 (rf1 ((1 ≤ ((E.2.2.2.2.2 1).2 (i + 1)) ∧ ((E.2.2.2.2.2 1).2 (i + 1)) < ((2 ^ (v 5).toNat : Nat) : Int)) ∧ (4 ≤ ((E.2.2.2.2.2 1).2 (i + 2)) ∧ ((E.2.2.2.2.2 1).2 (i + 2)) ≤ 25) ∧ (0 ≤ ((E.2.2.2.2.2 1).2 (i + 3)) ∧ ((E.2.2.2.2.2 1).2 (i + 3)) ≤ 10000)) 1) ((1 ≤ ((E.2.2.2.2.2 1).2 (i + 1)) ∧ ((E.2.2.2.2.2 1).2 (i + 1)) < ((2 ^ (v 5).toNat : Nat) : Int)) ∧ (4 ≤ ((E.2.2.2.2.2 1).2 (i + 2)) ∧ ((E.2.2.2.2.2 1).2 (i + 2)) ≤ 25) ∧ (0 ≤ ((E.2.2.2.2.2 1).2 (i + 3)) ∧ ((E.2.2.2.2.2 1).2 (i + 3)) ≤ 10000)) (cvR v ((E.2.2.2.2.2 1).2 (i + 1)).toNat ((E.2.2.2.2.2 1).2 (i + 2)) ((E.2.2.2.2.2 1).2 (i + 3))) [96, 103, 108, 109] m m3 r3 → (m3 96 0 = c ∧ (c = 0 → m3 111 0 = r32 r3)) ∧ xX E (("law", some .boolean, []), (25, 600000, 7000000), P, PX) RL cL_law 7 kk nn 2309 [(0, vr E 1), (1, vr E 40), (2, vr E 96), (3, vr E 111), (4, vi (i : Int))] [] (gS f D n) m3) : xX E (("law", some .boolean, []), (25, 600000, 7000000), P, PX) RL cL_law 7 kk nn 2028 [(0, vr E 1), (1, vr E 40), (2, vr E 96), (3, vr E 111), (4, vi (i : Int))] [vi c] (gS f D n) m := by
  refine x_istore dL_law_2028 ?_
  refine x_aload_n dL_law_2030 rfl ?_
  refine x_aload_n dL_law_2031 rfl ?_
  refine x_iload dL_law_2032 rfl ?_
  refine x_iconst dL_law_2034 ?_
  refine x_iadd dL_law_2035 ?_
  refine x_siald (j := i + 1) dL_law_2036 (by decide) (by decide) (by omega) (by omega) (by omega) ?_
  refine x_aload_n dL_law_2037 rfl ?_
  refine x_iload dL_law_2038 rfl ?_
  refine x_iconst dL_law_2040 ?_
  refine x_iadd dL_law_2041 ?_
  refine x_siald (j := i + 2) dL_law_2042 (by decide) (by decide) (by omega) (by omega) (by omega) ?_
  refine x_aload_n dL_law_2043 rfl ?_
  refine x_iload dL_law_2044 rfl ?_
  refine x_iconst dL_law_2046 ?_
  refine x_iadd dL_law_2047 ?_
  refine x_siald (j := i + 3) dL_law_2048 (by decide) (by decide) (by omega) (by omega) (by omega) ?_
  refine x_callV (as := [vi ((E.2.2.2.2.2 1).2 (i + 1)), vi ((E.2.2.2.2.2 1).2 (i + 2)), vi ((E.2.2.2.2.2 1).2 (i + 3))]) (rest := []) (mc' := 0) (ms' := 0) mL_198 dL_law_2049 rfl rfl rfl (by decide) (by decide) hkk hnn (s_mconvoy hv hN (hsc _) (hsc _) (hsc _) (fun m3 r3 ho => ?_))
  obtain ⟨⟨e0, e1⟩, hX9⟩ := hQ m3 r3 ho
  refine x_istore dL_law_2052 ?_
  refine x_aload_n dL_law_2054 rfl ?_
  refine x_callV (as := []) (rest := []) (mc' := 0) (ms' := 0) mL_113 dL_law_2055 rfl rfl rfl (by decide) (by decide) hkk hnn (s_mthrown ?_)
  refine x_ci e0 ?_
  refine x_iload dL_law_2058 rfl ?_
  refine x_icmp_T (tgt := 2065) dL_law_2060 (by decide) ?_
  refine x_iload dL_law_2065 rfl ?_
  refine x_if_ne (tgt := 2082) dL_law_2067 (by decide) (by omega) (fun _ => ?_) (fun hc0 => ?_)
  · refine x_goto (tgt := 2309) dL_law_2082 (by decide) ?_
    exact x_loc (lv' := [(0, vr E 1), (1, vr E 40), (2, vr E 96), (3, vr E 111), (4, vi (i : Int))]) ⟨rfl, rfl, rfl, rfl, rfl, trivial⟩ hX9
  · refine x_aload_n dL_law_2070 rfl ?_
    refine x_iconst dL_law_2071 ?_
    refine x_lald (j := 0) dL_law_2072 rfl rfl (by show 0 < 1; decide) (by decide) ?_
    refine x_topl (e1 hc0) ?_
    refine x_iload dL_law_2073 rfl ?_
    refine x_i2lz dL_law_2075 ?_
    refine x_leq_T (tgt := 2082) dL_law_2076 dL_law_2077 (by decide) ?_
    refine x_goto (tgt := 2309) dL_law_2082 (by decide) ?_
    exact x_loc (lv' := [(0, vr E 1), (1, vr E 40), (2, vr E 96), (3, vr E 111), (4, vi (i : Int))]) ⟨rfl, rfl, rfl, rfl, rfl, trivial⟩ hX9

theorem wl_convoy : Cond.methodLink RL 196 yL_convoy ∈ xTb := xTb_of 1077 (by decide +kernel) (by decide +kernel)
theorem ws_convoy : Cond.static yL_convoy ∈ xTb := xTb_of 1078 (by decide +kernel) (by decide +kernel)
theorem wc_convoy : Cond.codeWith yL_convoy cL_convoy 6 (some .int) [(0, 12, 15, 13)] ∈ xTb := xTb_of 1079 (by decide +kernel) (by decide +kernel)
set_option maxRecDepth 20000 in
theorem lw_convoy {E : xE} {f : Nat → Nat} {D : Nat → Nat × Nat} {n : Nat} {m : xM} {P : xPo} {PX : xPx} {v : Nat → Int} {h : List (Nat → Int)} {i kk nn : Nat} (hE : eOk E) (hI : tI v h f D n m) (hlen : i + 6 < (E.2.2.2.2.2 1).1) (hl31 : (E.2.2.2.2.2 1).1 < 2147483648) (hsc : ∀ j, -2147483648 ≤ (E.2.2.2.2.2 1).2 j ∧ (E.2.2.2.2.2 1).2 j ≤ 2147483647) (hkk : kk + 8 ≤ 600000) (hnn : nn + 640 ≤ 7000000) (hK : ∀ v' h' f' D' n' m', tI v' h' f' D' n' m' → m' 40 7 ≤ m 40 7 + 1 → xX E (("law", some .boolean, []), (25, 600000, 7000000), P, PX) RL cL_law 7 (kk + 8) (nn + 640) 2309 [(0, vr E 1), (1, vr E 40), (2, vr E 96), (3, vr E 111), (4, vi (i : Int))] [] (gS f' D' n') m') : xX E (("law", some .boolean, []), (25, 600000, 7000000), P, PX) RL cL_law 7 kk nn 2005 [(0, vr E 1), (1, vr E 40), (2, vr E 96), (3, vr E 111), (4, vi (i : Int))] [] (gS f D n) m := by
  have hu9 : uq (rf1 ((1 ≤ ((E.2.2.2.2.2 1).2 (i + 1)) ∧ ((E.2.2.2.2.2 1).2 (i + 1)) < ((2 ^ (v 5).toNat : Nat) : Int)) ∧ (4 ≤ ((E.2.2.2.2.2 1).2 (i + 2)) ∧ ((E.2.2.2.2.2 1).2 (i + 2)) ≤ 25) ∧ (0 ≤ ((E.2.2.2.2.2 1).2 (i + 3)) ∧ ((E.2.2.2.2.2 1).2 (i + 3)) ≤ 10000)) 1) ((1 ≤ ((E.2.2.2.2.2 1).2 (i + 1)) ∧ ((E.2.2.2.2.2 1).2 (i + 1)) < ((2 ^ (v 5).toNat : Nat) : Int)) ∧ (4 ≤ ((E.2.2.2.2.2 1).2 (i + 2)) ∧ ((E.2.2.2.2.2 1).2 (i + 2)) ≤ 25) ∧ (0 ≤ ((E.2.2.2.2.2 1).2 (i + 3)) ∧ ((E.2.2.2.2.2 1).2 (i + 3)) ≤ 10000)) (cvR v ((E.2.2.2.2.2 1).2 (i + 1)).toNat ((E.2.2.2.2.2 1).2 (i + 2)) ((E.2.2.2.2.2 1).2 (i + 3))) := uq1 (by decide) (fun r r' _ a b => cvR_u a b)
  refine x_aload_n dL_law_2005 rfl ?_
  refine x_aload_n dL_law_2006 rfl ?_
  refine x_iload dL_law_2007 rfl ?_
  refine x_iconst dL_law_2009 ?_
  refine x_iadd dL_law_2010 ?_
  refine x_siald (j := i + 1) dL_law_2011 (by decide) (by decide) (by omega) (by omega) (by omega) ?_
  refine x_aload_n dL_law_2012 rfl ?_
  refine x_iload dL_law_2013 rfl ?_
  refine x_iconst dL_law_2015 ?_
  refine x_iadd dL_law_2016 ?_
  refine x_siald (j := i + 2) dL_law_2017 (by decide) (by decide) (by omega) (by omega) (by omega) ?_
  refine x_aload_n dL_law_2018 rfl ?_
  refine x_iload dL_law_2019 rfl ?_
  refine x_iconst dL_law_2021 ?_
  refine x_iadd dL_law_2022 ?_
  refine x_siald (j := i + 3) dL_law_2023 (by decide) (by decide) (by omega) (by omega) (by omega) ?_
  refine x_aload_n dL_law_2024 rfl ?_
  refine x_callSH (na := 5) (as := [vr E 40, vi ((E.2.2.2.2.2 1).2 (i + 1)), vi ((E.2.2.2.2.2 1).2 (i + 2)), vi ((E.2.2.2.2.2 1).2 (i + 3)), vr E 111]) (rest := []) (hy := [(0, 12, 15, 13)]) wl_convoy ws_convoy wc_convoy qSL (by decide) (by decide +kernel) (by decide) dL_law_2025 rfl rfl (by decide) (by decide) (by omega) (by omega) (s_wconvoy (PX := PX) hE hI.1 (hsc _) (hsc _) (hsc _) (fun k9 q9 n' m' hr hc hk hu => ?_) (fun m' r hok hR hc hk h111 => ?_))
  · have hk3 := (hu9.2.2.2 _ _ hr).1
    refine af_convoy (h := h) hI.1.1.1 (hI.N hk) hlen hl31 hsc (by omega) (by omega) (by omega) (fun m3 r3 ho => ?_)
    · have h9 := tw_ref hu9 hr hI hc hk hu (ho.mr (by decide) (hI.N hk) (hI.H hk))
      exact ⟨⟨h9.2.1, fun z => by omega⟩, x_wide (Nat.le_refl _) (by omega) (hK _ _ _ _ _ _ h9.1 (by rw [h9.2.2, hk.2.2 7 (by simp; omega)]; omega))⟩
  · refine af_convoy (h := h) hI.1.1.1 (hI.N hk) hlen hl31 hsc (by omega) (by omega) (by omega) (fun m3 r3 ho => ?_)
    · have h9 := tw_ans hu9 hok hR hI hc hk (ho.mr (by decide) (hI.N hk) (hI.H hk))
      obtain ⟨⟨g1, g2, g3, g4⟩, rfl⟩ := h9
      exact ⟨⟨g2, fun _ => by rw [g3]; exact h111⟩, x_wide (Nat.le_refl _) (by omega) (hK _ _ _ _ _ _ g1 (by rw [g4, hk.2.2 7 (by simp)]; omega))⟩

set_option maxRecDepth 20000 in
theorem af_order {E : xE} {f : Nat → Nat} {D : Nat → Nat × Nat} {n : Nat} {m : xM} {P : xPo} {PX : xPx} {v : Nat → Int} {h : List (Nat → Int)} {i kk nn : Nat} {c : Int} (hv : vOk v) (hN : mN v m) (hlen : i + 6 < (E.2.2.2.2.2 1).1) (hl31 : (E.2.2.2.2.2 1).1 < 2147483648) (hsc : ∀ j, -2147483648 ≤ (E.2.2.2.2.2 1).2 j ∧ (E.2.2.2.2.2 1).2 j ≤ 2147483647) (hc : 0 ≤ c ∧ c ≤ 3) (hkk : kk ≤ 600000) (hnn : nn ≤ 7000000) (hQ : ∀ m3 r3, moR3 (rf2 ((1 ≤ ((E.2.2.2.2.2 1).2 (i + 1)) ∧ ((E.2.2.2.2.2 1).2 (i + 1)) < ((2 ^ (v 5).toNat : Nat) : Int)) ∧ (4 ≤ ((E.2.2.2.2.2 1).2 (i + 2)) ∧ ((E.2.2.2.2.2 1).2 (i + 2)) ≤ 25) ∧ (0 ≤ ((E.2.2.2.2.2 1).2 (i + 3)) ∧ ((E.2.2.2.2.2 1).2 (i + 3)) ≤ 10000)) (-1 ≤ ((E.2.2.2.2.2 1).2 (i + 4)) ∧ ((E.2.2.2.2.2 1).2 (i + 4)) < (pcn ((E.2.2.2.2.2 1).2 (i + 1)).toNat : Int)) 1 0) (((1 ≤ ((E.2.2.2.2.2 1).2 (i + 1)) ∧ ((E.2.2.2.2.2 1).2 (i + 1)) < ((2 ^ (v 5).toNat : Nat) : Int)) ∧ (4 ≤ ((E.2.2.2.2.2 1).2 (i + 2)) ∧ ((E.2.2.2.2.2 1).2 (i + 2)) ≤ 25) ∧ (0 ≤ ((E.2.2.2.2.2 1).2 (i + 3)) ∧ ((E.2.2.2.2.2 1).2 (i + 3)) ≤ 10000)) ∧ (-1 ≤ ((E.2.2.2.2.2 1).2 (i + 4)) ∧ ((E.2.2.2.2.2 1).2 (i + 4)) < (pcn ((E.2.2.2.2.2 1).2 (i + 1)).toNat : Int))) (orR v ((E.2.2.2.2.2 1).2 (i + 1)).toNat ((E.2.2.2.2.2 1).2 (i + 2)) ((E.2.2.2.2.2 1).2 (i + 3)) ((E.2.2.2.2.2 1).2 (i + 4))) [96, 103, 108, 109, 110] m m3 r3 → (m3 96 0 = c ∧ (c = 0 → m3 111 0 = r32 r3)) ∧ xX E (("law", some .boolean, []), (25, 600000, 7000000), P, PX) RL cL_law 7 kk nn 2309 [(0, vr E 1), (1, vr E 40), (2, vr E 96), (3, vr E 111), (4, vi (i : Int))] [] (gS f D n) m3) : xX E (("law", some .boolean, []), (25, 600000, 7000000), P, PX) RL cL_law 7 kk nn 2114 [(0, vr E 1), (1, vr E 40), (2, vr E 96), (3, vr E 111), (4, vi (i : Int))] [vi c] (gS f D n) m := by
  refine x_istore dL_law_2114 ?_
  refine x_aload_n dL_law_2116 rfl ?_
  refine x_aload_n dL_law_2117 rfl ?_
  refine x_iload dL_law_2118 rfl ?_
  refine x_iconst dL_law_2120 ?_
  refine x_iadd dL_law_2121 ?_
  refine x_siald (j := i + 1) dL_law_2122 (by decide) (by decide) (by omega) (by omega) (by omega) ?_
  refine x_aload_n dL_law_2123 rfl ?_
  refine x_iload dL_law_2124 rfl ?_
  refine x_iconst dL_law_2126 ?_
  refine x_iadd dL_law_2127 ?_
  refine x_siald (j := i + 2) dL_law_2128 (by decide) (by decide) (by omega) (by omega) (by omega) ?_
  refine x_aload_n dL_law_2129 rfl ?_
  refine x_iload dL_law_2130 rfl ?_
  refine x_iconst dL_law_2132 ?_
  refine x_iadd dL_law_2133 ?_
  refine x_siald (j := i + 3) dL_law_2134 (by decide) (by decide) (by omega) (by omega) (by omega) ?_
  refine x_aload_n dL_law_2135 rfl ?_
  refine x_iload dL_law_2136 rfl ?_
  refine x_iconst dL_law_2138 ?_
  refine x_iadd dL_law_2139 ?_
  refine x_siald (j := i + 4) dL_law_2140 (by decide) (by decide) (by omega) (by omega) (by omega) ?_
  refine x_callV (as := [vi ((E.2.2.2.2.2 1).2 (i + 1)), vi ((E.2.2.2.2.2 1).2 (i + 2)), vi ((E.2.2.2.2.2 1).2 (i + 3)), vi ((E.2.2.2.2.2 1).2 (i + 4))]) (rest := []) (mc' := 0) (ms' := 0) mL_201 dL_law_2141 rfl rfl rfl (by decide) (by decide) hkk hnn (s_morder hv hN (hsc _) (hsc _) (hsc _) (hsc _) (fun m3 r3 ho => ?_))
  obtain ⟨⟨e0, e1⟩, hX9⟩ := hQ m3 r3 ho
  refine x_istore dL_law_2144 ?_
  refine x_aload_n dL_law_2146 rfl ?_
  refine x_callV (as := []) (rest := []) (mc' := 0) (ms' := 0) mL_113 dL_law_2147 rfl rfl rfl (by decide) (by decide) hkk hnn (s_mthrown ?_)
  refine x_ci e0 ?_
  refine x_iload dL_law_2150 rfl ?_
  refine x_icmp_T (tgt := 2157) dL_law_2152 (by decide) ?_
  refine x_iload dL_law_2157 rfl ?_
  refine x_if_ne (tgt := 2174) dL_law_2159 (by decide) (by omega) (fun _ => ?_) (fun hc0 => ?_)
  · refine x_goto (tgt := 2309) dL_law_2174 (by decide) ?_
    exact x_loc (lv' := [(0, vr E 1), (1, vr E 40), (2, vr E 96), (3, vr E 111), (4, vi (i : Int))]) ⟨rfl, rfl, rfl, rfl, rfl, trivial⟩ hX9
  · refine x_aload_n dL_law_2162 rfl ?_
    refine x_iconst dL_law_2163 ?_
    refine x_lald (j := 0) dL_law_2164 rfl rfl (by show 0 < 1; decide) (by decide) ?_
    refine x_topl (e1 hc0) ?_
    refine x_iload dL_law_2165 rfl ?_
    refine x_i2lz dL_law_2167 ?_
    refine x_leq_T (tgt := 2174) dL_law_2168 dL_law_2169 (by decide) ?_
    refine x_goto (tgt := 2309) dL_law_2174 (by decide) ?_
    exact x_loc (lv' := [(0, vr E 1), (1, vr E 40), (2, vr E 96), (3, vr E 111), (4, vi (i : Int))]) ⟨rfl, rfl, rfl, rfl, rfl, trivial⟩ hX9

theorem wl_order : Cond.methodLink RL 199 yL_order ∈ xTb := xTb_of 1096 (by decide +kernel) (by decide +kernel)
theorem ws_order : Cond.static yL_order ∈ xTb := xTb_of 1097 (by decide +kernel) (by decide +kernel)
theorem wc_order : Cond.codeWith yL_order cL_order 7 (some .int) [(0, 14, 17, 13), (0, 14, 21, 19)] ∈ xTb := xTb_of 1098 (by decide +kernel) (by decide +kernel)
set_option maxRecDepth 20000 in
theorem lw_order {E : xE} {f : Nat → Nat} {D : Nat → Nat × Nat} {n : Nat} {m : xM} {P : xPo} {PX : xPx} {v : Nat → Int} {h : List (Nat → Int)} {i kk nn : Nat} (hE : eOk E) (hI : tI v h f D n m) (hlen : i + 6 < (E.2.2.2.2.2 1).1) (hl31 : (E.2.2.2.2.2 1).1 < 2147483648) (hsc : ∀ j, -2147483648 ≤ (E.2.2.2.2.2 1).2 j ∧ (E.2.2.2.2.2 1).2 j ≤ 2147483647) (hkk : kk + 8 ≤ 600000) (hnn : nn + 640 ≤ 7000000) (hK : ∀ v' h' f' D' n' m', tI v' h' f' D' n' m' → m' 40 7 ≤ m 40 7 + 1 → xX E (("law", some .boolean, []), (25, 600000, 7000000), P, PX) RL cL_law 7 (kk + 8) (nn + 640) 2309 [(0, vr E 1), (1, vr E 40), (2, vr E 96), (3, vr E 111), (4, vi (i : Int))] [] (gS f' D' n') m') : xX E (("law", some .boolean, []), (25, 600000, 7000000), P, PX) RL cL_law 7 kk nn 2085 [(0, vr E 1), (1, vr E 40), (2, vr E 96), (3, vr E 111), (4, vi (i : Int))] [] (gS f D n) m := by
  have hu9 : uq (rf2 ((1 ≤ ((E.2.2.2.2.2 1).2 (i + 1)) ∧ ((E.2.2.2.2.2 1).2 (i + 1)) < ((2 ^ (v 5).toNat : Nat) : Int)) ∧ (4 ≤ ((E.2.2.2.2.2 1).2 (i + 2)) ∧ ((E.2.2.2.2.2 1).2 (i + 2)) ≤ 25) ∧ (0 ≤ ((E.2.2.2.2.2 1).2 (i + 3)) ∧ ((E.2.2.2.2.2 1).2 (i + 3)) ≤ 10000)) (-1 ≤ ((E.2.2.2.2.2 1).2 (i + 4)) ∧ ((E.2.2.2.2.2 1).2 (i + 4)) < (pcn ((E.2.2.2.2.2 1).2 (i + 1)).toNat : Int)) 1 0) (((1 ≤ ((E.2.2.2.2.2 1).2 (i + 1)) ∧ ((E.2.2.2.2.2 1).2 (i + 1)) < ((2 ^ (v 5).toNat : Nat) : Int)) ∧ (4 ≤ ((E.2.2.2.2.2 1).2 (i + 2)) ∧ ((E.2.2.2.2.2 1).2 (i + 2)) ≤ 25) ∧ (0 ≤ ((E.2.2.2.2.2 1).2 (i + 3)) ∧ ((E.2.2.2.2.2 1).2 (i + 3)) ≤ 10000)) ∧ (-1 ≤ ((E.2.2.2.2.2 1).2 (i + 4)) ∧ ((E.2.2.2.2.2 1).2 (i + 4)) < (pcn ((E.2.2.2.2.2 1).2 (i + 1)).toNat : Int))) (orR v ((E.2.2.2.2.2 1).2 (i + 1)).toNat ((E.2.2.2.2.2 1).2 (i + 2)) ((E.2.2.2.2.2 1).2 (i + 3)) ((E.2.2.2.2.2 1).2 (i + 4))) := uq2 (by decide) (by decide) (fun r r' ok a b => orR_u (set_ok hI.1.1.1.1.2.2.2.2.2.1 (by have := ok.1.1; omega)).1 ok.2 a b)
  refine x_aload_n dL_law_2085 rfl ?_
  refine x_aload_n dL_law_2086 rfl ?_
  refine x_iload dL_law_2087 rfl ?_
  refine x_iconst dL_law_2089 ?_
  refine x_iadd dL_law_2090 ?_
  refine x_siald (j := i + 1) dL_law_2091 (by decide) (by decide) (by omega) (by omega) (by omega) ?_
  refine x_aload_n dL_law_2092 rfl ?_
  refine x_iload dL_law_2093 rfl ?_
  refine x_iconst dL_law_2095 ?_
  refine x_iadd dL_law_2096 ?_
  refine x_siald (j := i + 2) dL_law_2097 (by decide) (by decide) (by omega) (by omega) (by omega) ?_
  refine x_aload_n dL_law_2098 rfl ?_
  refine x_iload dL_law_2099 rfl ?_
  refine x_iconst dL_law_2101 ?_
  refine x_iadd dL_law_2102 ?_
  refine x_siald (j := i + 3) dL_law_2103 (by decide) (by decide) (by omega) (by omega) (by omega) ?_
  refine x_aload_n dL_law_2104 rfl ?_
  refine x_iload dL_law_2105 rfl ?_
  refine x_iconst dL_law_2107 ?_
  refine x_iadd dL_law_2108 ?_
  refine x_siald (j := i + 4) dL_law_2109 (by decide) (by decide) (by omega) (by omega) (by omega) ?_
  refine x_aload_n dL_law_2110 rfl ?_
  refine x_callSH (na := 6) (as := [vr E 40, vi ((E.2.2.2.2.2 1).2 (i + 1)), vi ((E.2.2.2.2.2 1).2 (i + 2)), vi ((E.2.2.2.2.2 1).2 (i + 3)), vi ((E.2.2.2.2.2 1).2 (i + 4)), vr E 111]) (rest := []) (hy := [(0, 14, 17, 13), (0, 14, 21, 19)]) wl_order ws_order wc_order qSL (by decide) (by decide +kernel) (by decide) dL_law_2111 rfl rfl (by decide) (by decide) (by omega) (by omega) (s_worder (PX := PX) hE hI.1 (hsc _) (hsc _) (hsc _) (hsc _) (fun k9 q9 n' m' hr hc hk hu => ?_) (fun m' r hok hR hc hk h111 => ?_))
  · have hk3 := (hu9.2.2.2 _ _ hr).1
    refine af_order (h := h) hI.1.1.1 (hI.N hk) hlen hl31 hsc (by omega) (by omega) (by omega) (fun m3 r3 ho => ?_)
    · have h9 := tw_ref hu9 hr hI hc hk hu (ho.mr (by decide) (hI.N hk) (hI.H hk))
      exact ⟨⟨h9.2.1, fun z => by omega⟩, x_wide (Nat.le_refl _) (by omega) (hK _ _ _ _ _ _ h9.1 (by rw [h9.2.2, hk.2.2 7 (by simp; omega)]; omega))⟩
  · refine af_order (h := h) hI.1.1.1 (hI.N hk) hlen hl31 hsc (by omega) (by omega) (by omega) (fun m3 r3 ho => ?_)
    · have h9 := tw_ans hu9 hok hR hI hc hk (ho.mr (by decide) (hI.N hk) (hI.H hk))
      obtain ⟨⟨g1, g2, g3, g4⟩, rfl⟩ := h9
      exact ⟨⟨g2, fun _ => by rw [g3]; exact h111⟩, x_wide (Nat.le_refl _) (by omega) (hK _ _ _ _ _ _ g1 (by rw [g4, hk.2.2 7 (by simp)]; omega))⟩

set_option maxRecDepth 20000 in
theorem af_close {E : xE} {f : Nat → Nat} {D : Nat → Nat × Nat} {n : Nat} {m : xM} {P : xPo} {PX : xPx} {v : Nat → Int} {h : List (Nat → Int)} {i kk nn : Nat} {c : Int} (hv : vOk v) (hN : mN v m) (hlen : i + 6 < (E.2.2.2.2.2 1).1) (hl31 : (E.2.2.2.2.2 1).1 < 2147483648) (hsc : ∀ j, -2147483648 ≤ (E.2.2.2.2.2 1).2 j ∧ (E.2.2.2.2.2 1).2 j ≤ 2147483647) (hc : 0 ≤ c ∧ c ≤ 3) (hkk : kk ≤ 600000) (hnn : nn ≤ 7000000) (hQ : ∀ m3 r3, moR (rf2 (0 ≤ ((E.2.2.2.2.2 1).2 (i + 1)) ∧ ((E.2.2.2.2.2 1).2 (i + 1)) < v 5) ((0 ≤ ((E.2.2.2.2.2 1).2 (i + 2)) ∧ ((E.2.2.2.2.2 1).2 (i + 2)) ≤ 10000) ∧ (4 ≤ ((E.2.2.2.2.2 1).2 (i + 3)) ∧ ((E.2.2.2.2.2 1).2 (i + 3)) ≤ 25)) 0 1) ((0 ≤ ((E.2.2.2.2.2 1).2 (i + 1)) ∧ ((E.2.2.2.2.2 1).2 (i + 1)) < v 5) ∧ ((0 ≤ ((E.2.2.2.2.2 1).2 (i + 2)) ∧ ((E.2.2.2.2.2 1).2 (i + 2)) ≤ 10000) ∧ (4 ≤ ((E.2.2.2.2.2 1).2 (i + 3)) ∧ ((E.2.2.2.2.2 1).2 (i + 3)) ≤ 25))) (fun r => r = ((cset (cls v ((E.2.2.2.2.2 1).2 (i + 1)).toNat ((E.2.2.2.2.2 1).2 (i + 2)) ((E.2.2.2.2.2 1).2 (i + 3))) (v 5).toNat : Nat) : Int)) [] m m3 r3 → (m3 96 0 = c ∧ (c = 0 → m3 111 0 = r32 r3)) ∧ xX E (("law", some .boolean, []), (25, 600000, 7000000), P, PX) RL cL_law 7 kk nn 2309 [(0, vr E 1), (1, vr E 40), (2, vr E 96), (3, vr E 111), (4, vi (i : Int))] [] (gS f D n) m3) : xX E (("law", some .boolean, []), (25, 600000, 7000000), P, PX) RL cL_law 7 kk nn 2200 [(0, vr E 1), (1, vr E 40), (2, vr E 96), (3, vr E 111), (4, vi (i : Int))] [vi c] (gS f D n) m := by
  refine x_istore dL_law_2200 ?_
  refine x_aload_n dL_law_2202 rfl ?_
  refine x_aload_n dL_law_2203 rfl ?_
  refine x_iload dL_law_2204 rfl ?_
  refine x_iconst dL_law_2206 ?_
  refine x_iadd dL_law_2207 ?_
  refine x_siald (j := i + 1) dL_law_2208 (by decide) (by decide) (by omega) (by omega) (by omega) ?_
  refine x_aload_n dL_law_2209 rfl ?_
  refine x_iload dL_law_2210 rfl ?_
  refine x_iconst dL_law_2212 ?_
  refine x_iadd dL_law_2213 ?_
  refine x_siald (j := i + 2) dL_law_2214 (by decide) (by decide) (by omega) (by omega) (by omega) ?_
  refine x_aload_n dL_law_2215 rfl ?_
  refine x_iload dL_law_2216 rfl ?_
  refine x_iconst dL_law_2218 ?_
  refine x_iadd dL_law_2219 ?_
  refine x_siald (j := i + 3) dL_law_2220 (by decide) (by decide) (by omega) (by omega) (by omega) ?_
  refine x_callV (as := [vi ((E.2.2.2.2.2 1).2 (i + 1)), vi ((E.2.2.2.2.2 1).2 (i + 2)), vi ((E.2.2.2.2.2 1).2 (i + 3))]) (rest := []) (mc' := 0) (ms' := 0) mL_204 dL_law_2221 rfl rfl rfl (by decide) (by decide) hkk hnn (s_mclose hv hN (hsc _) (hsc _) (hsc _) (fun m3 r3 ho => ?_))
  obtain ⟨⟨e0, e1⟩, hX9⟩ := hQ m3 r3 ho
  refine x_istore dL_law_2224 ?_
  refine x_aload_n dL_law_2226 rfl ?_
  refine x_callV (as := []) (rest := []) (mc' := 0) (ms' := 0) mL_113 dL_law_2227 rfl rfl rfl (by decide) (by decide) hkk hnn (s_mthrown ?_)
  refine x_ci e0 ?_
  refine x_iload dL_law_2230 rfl ?_
  refine x_icmp_T (tgt := 2237) dL_law_2232 (by decide) ?_
  refine x_iload dL_law_2237 rfl ?_
  refine x_if_ne (tgt := 2254) dL_law_2239 (by decide) (by omega) (fun _ => ?_) (fun hc0 => ?_)
  · refine x_goto (tgt := 2309) dL_law_2254 (by decide) ?_
    exact x_loc (lv' := [(0, vr E 1), (1, vr E 40), (2, vr E 96), (3, vr E 111), (4, vi (i : Int))]) ⟨rfl, rfl, rfl, rfl, rfl, trivial⟩ hX9
  · refine x_aload_n dL_law_2242 rfl ?_
    refine x_iconst dL_law_2243 ?_
    refine x_lald (j := 0) dL_law_2244 rfl rfl (by show 0 < 1; decide) (by decide) ?_
    refine x_topl (e1 hc0) ?_
    refine x_iload dL_law_2245 rfl ?_
    refine x_i2lz dL_law_2247 ?_
    refine x_leq_T (tgt := 2254) dL_law_2248 dL_law_2249 (by decide) ?_
    refine x_goto (tgt := 2309) dL_law_2254 (by decide) ?_
    exact x_loc (lv' := [(0, vr E 1), (1, vr E 40), (2, vr E 96), (3, vr E 111), (4, vi (i : Int))]) ⟨rfl, rfl, rfl, rfl, rfl, trivial⟩ hX9

theorem wl_close : Cond.methodLink RL 202 yL_close ∈ xTb := xTb_of 1112 (by decide +kernel) (by decide +kernel)
theorem ws_close : Cond.static yL_close ∈ xTb := xTb_of 1113 (by decide +kernel) (by decide +kernel)
theorem wc_close : Cond.codeWith yL_close cL_close 6 (some .int) [(0, 12, 15, 19), (0, 12, 19, 13)] ∈ xTb := xTb_of 1114 (by decide +kernel) (by decide +kernel)
set_option maxRecDepth 20000 in
theorem lw_close {E : xE} {f : Nat → Nat} {D : Nat → Nat × Nat} {n : Nat} {m : xM} {P : xPo} {PX : xPx} {v : Nat → Int} {h : List (Nat → Int)} {i kk nn : Nat} (hE : eOk E) (hI : tI v h f D n m) (hlen : i + 6 < (E.2.2.2.2.2 1).1) (hl31 : (E.2.2.2.2.2 1).1 < 2147483648) (hsc : ∀ j, -2147483648 ≤ (E.2.2.2.2.2 1).2 j ∧ (E.2.2.2.2.2 1).2 j ≤ 2147483647) (hkk : kk + 8 ≤ 600000) (hnn : nn + 640 ≤ 7000000) (hK : ∀ v' h' f' D' n' m', tI v' h' f' D' n' m' → m' 40 7 ≤ m 40 7 + 1 → xX E (("law", some .boolean, []), (25, 600000, 7000000), P, PX) RL cL_law 7 (kk + 8) (nn + 640) 2309 [(0, vr E 1), (1, vr E 40), (2, vr E 96), (3, vr E 111), (4, vi (i : Int))] [] (gS f' D' n') m') : xX E (("law", some .boolean, []), (25, 600000, 7000000), P, PX) RL cL_law 7 kk nn 2177 [(0, vr E 1), (1, vr E 40), (2, vr E 96), (3, vr E 111), (4, vi (i : Int))] [] (gS f D n) m := by
  have hu9 : uq (rf2 (0 ≤ ((E.2.2.2.2.2 1).2 (i + 1)) ∧ ((E.2.2.2.2.2 1).2 (i + 1)) < v 5) ((0 ≤ ((E.2.2.2.2.2 1).2 (i + 2)) ∧ ((E.2.2.2.2.2 1).2 (i + 2)) ≤ 10000) ∧ (4 ≤ ((E.2.2.2.2.2 1).2 (i + 3)) ∧ ((E.2.2.2.2.2 1).2 (i + 3)) ≤ 25)) 0 1) ((0 ≤ ((E.2.2.2.2.2 1).2 (i + 1)) ∧ ((E.2.2.2.2.2 1).2 (i + 1)) < v 5) ∧ ((0 ≤ ((E.2.2.2.2.2 1).2 (i + 2)) ∧ ((E.2.2.2.2.2 1).2 (i + 2)) ≤ 10000) ∧ (4 ≤ ((E.2.2.2.2.2 1).2 (i + 3)) ∧ ((E.2.2.2.2.2 1).2 (i + 3)) ≤ 25))) (fun r => r = ((cset (cls v ((E.2.2.2.2.2 1).2 (i + 1)).toNat ((E.2.2.2.2.2 1).2 (i + 2)) ((E.2.2.2.2.2 1).2 (i + 3))) (v 5).toNat : Nat) : Int)) := uq2 (by decide) (by decide) (fun r r' _ a b => a.trans b.symm)
  refine x_aload_n dL_law_2177 rfl ?_
  refine x_aload_n dL_law_2178 rfl ?_
  refine x_iload dL_law_2179 rfl ?_
  refine x_iconst dL_law_2181 ?_
  refine x_iadd dL_law_2182 ?_
  refine x_siald (j := i + 1) dL_law_2183 (by decide) (by decide) (by omega) (by omega) (by omega) ?_
  refine x_aload_n dL_law_2184 rfl ?_
  refine x_iload dL_law_2185 rfl ?_
  refine x_iconst dL_law_2187 ?_
  refine x_iadd dL_law_2188 ?_
  refine x_siald (j := i + 2) dL_law_2189 (by decide) (by decide) (by omega) (by omega) (by omega) ?_
  refine x_aload_n dL_law_2190 rfl ?_
  refine x_iload dL_law_2191 rfl ?_
  refine x_iconst dL_law_2193 ?_
  refine x_iadd dL_law_2194 ?_
  refine x_siald (j := i + 3) dL_law_2195 (by decide) (by decide) (by omega) (by omega) (by omega) ?_
  refine x_aload_n dL_law_2196 rfl ?_
  refine x_callSH (na := 5) (as := [vr E 40, vi ((E.2.2.2.2.2 1).2 (i + 1)), vi ((E.2.2.2.2.2 1).2 (i + 2)), vi ((E.2.2.2.2.2 1).2 (i + 3)), vr E 111]) (rest := []) (hy := [(0, 12, 15, 19), (0, 12, 19, 13)]) wl_close ws_close wc_close qSL (by decide) (by decide +kernel) (by decide) dL_law_2197 rfl rfl (by decide) (by decide) (by omega) (by omega) (s_wclose (PX := PX) hE hI.1 (hsc _) (hsc _) (hsc _) (fun k9 q9 n' m' hr hc hk hu => ?_) (fun m' r hok hR hc hk h111 => ?_))
  · have hk3 := (hu9.2.2.2 _ _ hr).1
    refine af_close (h := h) hI.1.1.1 (hI.N hk) hlen hl31 hsc (by omega) (by omega) (by omega) (fun m3 r3 ho => ?_)
    · have h9 := tw_ref hu9 hr hI hc hk hu (ho.mr (by decide) (hI.N hk) (hI.H hk))
      exact ⟨⟨h9.2.1, fun z => by omega⟩, x_wide (Nat.le_refl _) (by omega) (hK _ _ _ _ _ _ h9.1 (by rw [h9.2.2, hk.2.2 7 (by simp; omega)]; omega))⟩
  · refine af_close (h := h) hI.1.1.1 (hI.N hk) hlen hl31 hsc (by omega) (by omega) (by omega) (fun m3 r3 ho => ?_)
    · have h9 := tw_ans hu9 hok hR hI hc hk (ho.mr (by decide) (hI.N hk) (hI.H hk))
      obtain ⟨⟨g1, g2, g3, g4⟩, rfl⟩ := h9
      exact ⟨⟨g2, fun _ => by rw [g3]; exact h111⟩, x_wide (Nat.le_refl _) (by omega) (hK _ _ _ _ _ _ g1 (by rw [g4, hk.2.2 7 (by simp)]; omega))⟩

set_option maxRecDepth 20000 in
theorem af_sound {E : xE} {f : Nat → Nat} {D : Nat → Nat × Nat} {n : Nat} {m : xM} {P : xPo} {PX : xPx} {v : Nat → Int} {h : List (Nat → Int)} {i kk nn : Nat} {c : Int} (hv : vOk v) (hN : mN v m) (hH : mH h m) (hlen : i + 6 < (E.2.2.2.2.2 1).1) (hl31 : (E.2.2.2.2.2 1).1 < 2147483648) (hsc : ∀ j, -2147483648 ≤ (E.2.2.2.2.2 1).2 j ∧ (E.2.2.2.2.2 1).2 j ≤ 2147483647) (hc : 0 ≤ c ∧ c ≤ 3) (hkk : kk ≤ 600000) (hnn : nn ≤ 7000000) (hQ : ∀ m3 r3, moA (rf2 (0 ≤ ((E.2.2.2.2.2 1).2 (i + 1)) ∧ ((E.2.2.2.2.2 1).2 (i + 1)) < v 4) (100 ≤ ((E.2.2.2.2.2 1).2 (i + 2)) ∧ ((E.2.2.2.2.2 1).2 (i + 2)) ≤ 3000) 0 1) ((0 ≤ ((E.2.2.2.2.2 1).2 (i + 1)) ∧ ((E.2.2.2.2.2 1).2 (i + 1)) < v 4) ∧ (100 ≤ ((E.2.2.2.2.2 1).2 (i + 2)) ∧ ((E.2.2.2.2.2 1).2 (i + 2)) ≤ 3000)) (fun r => r = br v ((E.2.2.2.2.2 1).2 (i + 1)).toNat 1) (vup v (24 + 6 * ((E.2.2.2.2.2 1).2 (i + 1)).toNat + 1) ((E.2.2.2.2.2 1).2 (i + 2))) (psh h v) m m3 r3 → (m3 96 0 = c ∧ (c = 0 → m3 111 0 = r32 r3)) ∧ xX E (("law", some .boolean, []), (25, 600000, 7000000), P, PX) RL cL_law 7 kk nn 2309 [(0, vr E 1), (1, vr E 40), (2, vr E 96), (3, vr E 111), (4, vi (i : Int))] [] (gS f D n) m3) : xX E (("law", some .boolean, []), (25, 600000, 7000000), P, PX) RL cL_law 7 kk nn 343 [(0, vr E 1), (1, vr E 40), (2, vr E 96), (3, vr E 111), (4, vi (i : Int))] [vi c] (gS f D n) m := by
  refine x_istore dL_law_343 ?_
  refine x_aload_n dL_law_345 rfl ?_
  refine x_aload_n dL_law_346 rfl ?_
  refine x_iload dL_law_347 rfl ?_
  refine x_iconst dL_law_349 ?_
  refine x_iadd dL_law_350 ?_
  refine x_siald (j := i + 1) dL_law_351 (by decide) (by decide) (by omega) (by omega) (by omega) ?_
  refine x_aload_n dL_law_352 rfl ?_
  refine x_iload dL_law_353 rfl ?_
  refine x_iconst dL_law_355 ?_
  refine x_iadd dL_law_356 ?_
  refine x_siald (j := i + 2) dL_law_357 (by decide) (by decide) (by omega) (by omega) (by omega) ?_
  refine x_callV (as := [vi ((E.2.2.2.2.2 1).2 (i + 1)), vi ((E.2.2.2.2.2 1).2 (i + 2))]) (rest := []) (mc' := 0) (ms' := 0) mL_124 dL_law_358 rfl rfl rfl (by decide) (by decide) hkk hnn (s_msound hv hN hH (hsc _) (hsc _) (fun m3 r3 ho => ?_))
  obtain ⟨⟨e0, e1⟩, hX9⟩ := hQ m3 r3 ho
  refine x_istore dL_law_361 ?_
  refine x_aload_n dL_law_363 rfl ?_
  refine x_callV (as := []) (rest := []) (mc' := 0) (ms' := 0) mL_113 dL_law_364 rfl rfl rfl (by decide) (by decide) hkk hnn (s_mthrown ?_)
  refine x_ci e0 ?_
  refine x_iload dL_law_367 rfl ?_
  refine x_icmp_T (tgt := 374) dL_law_369 (by decide) ?_
  refine x_iload dL_law_374 rfl ?_
  refine x_if_ne (tgt := 391) dL_law_376 (by decide) (by omega) (fun _ => ?_) (fun hc0 => ?_)
  · refine x_goto (tgt := 2309) dL_law_391 (by decide) ?_
    exact x_loc (lv' := [(0, vr E 1), (1, vr E 40), (2, vr E 96), (3, vr E 111), (4, vi (i : Int))]) ⟨rfl, rfl, rfl, rfl, rfl, trivial⟩ hX9
  · refine x_aload_n dL_law_379 rfl ?_
    refine x_iconst dL_law_380 ?_
    refine x_lald (j := 0) dL_law_381 rfl rfl (by show 0 < 1; decide) (by decide) ?_
    refine x_topl (e1 hc0) ?_
    refine x_iload dL_law_382 rfl ?_
    refine x_i2lz dL_law_384 ?_
    refine x_leq_T (tgt := 391) dL_law_385 dL_law_386 (by decide) ?_
    refine x_goto (tgt := 2309) dL_law_391 (by decide) ?_
    exact x_loc (lv' := [(0, vr E 1), (1, vr E 40), (2, vr E 96), (3, vr E 111), (4, vi (i : Int))]) ⟨rfl, rfl, rfl, rfl, rfl, trivial⟩ hX9

theorem wl_sound : Cond.methodLink RL 121 yL_sound ∈ xTb := xTb_of 760 (by decide +kernel) (by decide +kernel)
theorem ws_sound : Cond.static yL_sound ∈ xTb := xTb_of 761 (by decide +kernel) (by decide +kernel)
theorem wc_sound : Cond.codeWith yL_sound cL_sound 5 (some .int) [(0, 10, 13, 19), (0, 10, 17, 13)] ∈ xTb := xTb_of 762 (by decide +kernel) (by decide +kernel)
set_option maxRecDepth 20000 in
theorem lw_sound {E : xE} {f : Nat → Nat} {D : Nat → Nat × Nat} {n : Nat} {m : xM} {P : xPo} {PX : xPx} {v : Nat → Int} {h : List (Nat → Int)} {i kk nn : Nat} (hE : eOk E) (hI : tI v h f D n m) (hlen : i + 6 < (E.2.2.2.2.2 1).1) (hl31 : (E.2.2.2.2.2 1).1 < 2147483648) (hsc : ∀ j, -2147483648 ≤ (E.2.2.2.2.2 1).2 j ∧ (E.2.2.2.2.2 1).2 j ≤ 2147483647) (hkk : kk + 8 ≤ 600000) (hnn : nn + 640 ≤ 7000000) (hK : ∀ v' h' f' D' n' m', tI v' h' f' D' n' m' → m' 40 7 ≤ m 40 7 + 1 → xX E (("law", some .boolean, []), (25, 600000, 7000000), P, PX) RL cL_law 7 (kk + 8) (nn + 640) 2309 [(0, vr E 1), (1, vr E 40), (2, vr E 96), (3, vr E 111), (4, vi (i : Int))] [] (gS f' D' n') m') : xX E (("law", some .boolean, []), (25, 600000, 7000000), P, PX) RL cL_law 7 kk nn 326 [(0, vr E 1), (1, vr E 40), (2, vr E 96), (3, vr E 111), (4, vi (i : Int))] [] (gS f D n) m := by
  have hu9 : uq (rf2 (0 ≤ ((E.2.2.2.2.2 1).2 (i + 1)) ∧ ((E.2.2.2.2.2 1).2 (i + 1)) < v 4) (100 ≤ ((E.2.2.2.2.2 1).2 (i + 2)) ∧ ((E.2.2.2.2.2 1).2 (i + 2)) ≤ 3000) 0 1) ((0 ≤ ((E.2.2.2.2.2 1).2 (i + 1)) ∧ ((E.2.2.2.2.2 1).2 (i + 1)) < v 4) ∧ (100 ≤ ((E.2.2.2.2.2 1).2 (i + 2)) ∧ ((E.2.2.2.2.2 1).2 (i + 2)) ≤ 3000)) (fun r => r = br v ((E.2.2.2.2.2 1).2 (i + 1)).toNat 1) := uq2 (by decide) (by decide) (fun r r' _ a b => a.trans b.symm)
  refine x_aload_n dL_law_326 rfl ?_
  refine x_aload_n dL_law_327 rfl ?_
  refine x_iload dL_law_328 rfl ?_
  refine x_iconst dL_law_330 ?_
  refine x_iadd dL_law_331 ?_
  refine x_siald (j := i + 1) dL_law_332 (by decide) (by decide) (by omega) (by omega) (by omega) ?_
  refine x_aload_n dL_law_333 rfl ?_
  refine x_iload dL_law_334 rfl ?_
  refine x_iconst dL_law_336 ?_
  refine x_iadd dL_law_337 ?_
  refine x_siald (j := i + 2) dL_law_338 (by decide) (by decide) (by omega) (by omega) (by omega) ?_
  refine x_aload_n dL_law_339 rfl ?_
  refine x_callSH (na := 4) (as := [vr E 40, vi ((E.2.2.2.2.2 1).2 (i + 1)), vi ((E.2.2.2.2.2 1).2 (i + 2)), vr E 111]) (rest := []) (hy := [(0, 10, 13, 19), (0, 10, 17, 13)]) wl_sound ws_sound wc_sound qSL (by decide) (by decide +kernel) (by decide) dL_law_340 rfl rfl (by decide) (by decide) (by omega) (by omega) (s_wsound (PX := PX) hE hI.1 (hsc _) (hsc _) (fun k9 q9 n' m' hr hc hk hu => ?_) (fun f' m' r hok hR hc hk h111 => ?_))
  · have hk3 := (hu9.2.2.2 _ _ hr).1
    refine af_sound (h := h) hI.1.1.1 (hI.N hk) (hI.H hk) hlen hl31 hsc (by omega) (by omega) (by omega) (fun m3 r3 ho => ?_)
    · have h9 := tw_ref hu9 hr hI hc hk hu (ho.mr)
      exact ⟨⟨h9.2.1, fun z => by omega⟩, x_wide (Nat.le_refl _) (by omega) (hK _ _ _ _ _ _ h9.1 (by rw [h9.2.2, hk.2.2 7 (by simp; omega)]; omega))⟩
  · refine af_sound (h := h) hI.1.1.1 (hI.N hk) (hI.H hk) hlen hl31 hsc (by omega) (by omega) (by omega) (fun m3 r3 ho => ?_)
    · have h9 := tw_ans hu9 hok hR hI hc hk (ho.mr)
      obtain ⟨⟨g1, g2, g3, g4⟩, rfl⟩ := h9
      exact ⟨⟨g2, fun _ => by rw [g3]; exact h111⟩, x_wide (Nat.le_refl _) (by omega) (hK _ _ _ _ _ _ g1 (by rw [g4, hk.2.2 7 (by simp)]; omega))⟩

set_option maxRecDepth 20000 in
theorem af_load {E : xE} {f : Nat → Nat} {D : Nat → Nat × Nat} {n : Nat} {m : xM} {P : xPo} {PX : xPx} {v : Nat → Int} {h : List (Nat → Int)} {i kk nn : Nat} {c : Int} (hv : vOk v) (hN : mN v m) (hH : mH h m) (hlen : i + 6 < (E.2.2.2.2.2 1).1) (hl31 : (E.2.2.2.2.2 1).1 < 2147483648) (hsc : ∀ j, -2147483648 ≤ (E.2.2.2.2.2 1).2 j ∧ (E.2.2.2.2.2 1).2 j ≤ 2147483647) (hc : 0 ≤ c ∧ c ≤ 3) (hkk : kk ≤ 600000) (hnn : nn ≤ 7000000) (hQ : ∀ m3 r3, moA (rf2 (0 ≤ ((E.2.2.2.2.2 1).2 (i + 1)) ∧ ((E.2.2.2.2.2 1).2 (i + 1)) < v 5) (100 ≤ ((E.2.2.2.2.2 1).2 (i + 2)) ∧ ((E.2.2.2.2.2 1).2 (i + 2)) ≤ 2500) 0 1) ((0 ≤ ((E.2.2.2.2.2 1).2 (i + 1)) ∧ ((E.2.2.2.2.2 1).2 (i + 1)) < v 5) ∧ (100 ≤ ((E.2.2.2.2.2 1).2 (i + 2)) ∧ ((E.2.2.2.2.2 1).2 (i + 2)) ≤ 2500)) (fun r => r = sh v ((E.2.2.2.2.2 1).2 (i + 1)).toNat 0) (vup v (60 + 8 * ((E.2.2.2.2.2 1).2 (i + 1)).toNat + 0) ((E.2.2.2.2.2 1).2 (i + 2))) (psh h v) m m3 r3 → (m3 96 0 = c ∧ (c = 0 → m3 111 0 = r32 r3)) ∧ xX E (("law", some .boolean, []), (25, 600000, 7000000), P, PX) RL cL_law 7 kk nn 2309 [(0, vr E 1), (1, vr E 40), (2, vr E 96), (3, vr E 111), (4, vi (i : Int))] [] (gS f D n) m3) : xX E (("law", some .boolean, []), (25, 600000, 7000000), P, PX) RL cL_law 7 kk nn 411 [(0, vr E 1), (1, vr E 40), (2, vr E 96), (3, vr E 111), (4, vi (i : Int))] [vi c] (gS f D n) m := by
  refine x_istore dL_law_411 ?_
  refine x_aload_n dL_law_413 rfl ?_
  refine x_aload_n dL_law_414 rfl ?_
  refine x_iload dL_law_415 rfl ?_
  refine x_iconst dL_law_417 ?_
  refine x_iadd dL_law_418 ?_
  refine x_siald (j := i + 1) dL_law_419 (by decide) (by decide) (by omega) (by omega) (by omega) ?_
  refine x_aload_n dL_law_420 rfl ?_
  refine x_iload dL_law_421 rfl ?_
  refine x_iconst dL_law_423 ?_
  refine x_iadd dL_law_424 ?_
  refine x_siald (j := i + 2) dL_law_425 (by decide) (by decide) (by omega) (by omega) (by omega) ?_
  refine x_callV (as := [vi ((E.2.2.2.2.2 1).2 (i + 1)), vi ((E.2.2.2.2.2 1).2 (i + 2))]) (rest := []) (mc' := 0) (ms' := 0) mL_127 dL_law_426 rfl rfl rfl (by decide) (by decide) hkk hnn (s_mload hv hN hH (hsc _) (hsc _) (fun m3 r3 ho => ?_))
  obtain ⟨⟨e0, e1⟩, hX9⟩ := hQ m3 r3 ho
  refine x_istore dL_law_429 ?_
  refine x_aload_n dL_law_431 rfl ?_
  refine x_callV (as := []) (rest := []) (mc' := 0) (ms' := 0) mL_113 dL_law_432 rfl rfl rfl (by decide) (by decide) hkk hnn (s_mthrown ?_)
  refine x_ci e0 ?_
  refine x_iload dL_law_435 rfl ?_
  refine x_icmp_T (tgt := 442) dL_law_437 (by decide) ?_
  refine x_iload dL_law_442 rfl ?_
  refine x_if_ne (tgt := 459) dL_law_444 (by decide) (by omega) (fun _ => ?_) (fun hc0 => ?_)
  · refine x_goto (tgt := 2309) dL_law_459 (by decide) ?_
    exact x_loc (lv' := [(0, vr E 1), (1, vr E 40), (2, vr E 96), (3, vr E 111), (4, vi (i : Int))]) ⟨rfl, rfl, rfl, rfl, rfl, trivial⟩ hX9
  · refine x_aload_n dL_law_447 rfl ?_
    refine x_iconst dL_law_448 ?_
    refine x_lald (j := 0) dL_law_449 rfl rfl (by show 0 < 1; decide) (by decide) ?_
    refine x_topl (e1 hc0) ?_
    refine x_iload dL_law_450 rfl ?_
    refine x_i2lz dL_law_452 ?_
    refine x_leq_T (tgt := 459) dL_law_453 dL_law_454 (by decide) ?_
    refine x_goto (tgt := 2309) dL_law_459 (by decide) ?_
    exact x_loc (lv' := [(0, vr E 1), (1, vr E 40), (2, vr E 96), (3, vr E 111), (4, vi (i : Int))]) ⟨rfl, rfl, rfl, rfl, rfl, trivial⟩ hX9

theorem wl_load : Cond.methodLink RL 125 yL_load ∈ xTb := xTb_of 792 (by decide +kernel) (by decide +kernel)
theorem ws_load : Cond.static yL_load ∈ xTb := xTb_of 793 (by decide +kernel) (by decide +kernel)
theorem wc_load : Cond.codeWith yL_load cL_load 5 (some .int) [(0, 10, 13, 19), (0, 10, 17, 13)] ∈ xTb := xTb_of 794 (by decide +kernel) (by decide +kernel)
set_option maxRecDepth 20000 in
theorem lw_load {E : xE} {f : Nat → Nat} {D : Nat → Nat × Nat} {n : Nat} {m : xM} {P : xPo} {PX : xPx} {v : Nat → Int} {h : List (Nat → Int)} {i kk nn : Nat} (hE : eOk E) (hI : tI v h f D n m) (hlen : i + 6 < (E.2.2.2.2.2 1).1) (hl31 : (E.2.2.2.2.2 1).1 < 2147483648) (hsc : ∀ j, -2147483648 ≤ (E.2.2.2.2.2 1).2 j ∧ (E.2.2.2.2.2 1).2 j ≤ 2147483647) (hkk : kk + 8 ≤ 600000) (hnn : nn + 640 ≤ 7000000) (hK : ∀ v' h' f' D' n' m', tI v' h' f' D' n' m' → m' 40 7 ≤ m 40 7 + 1 → xX E (("law", some .boolean, []), (25, 600000, 7000000), P, PX) RL cL_law 7 (kk + 8) (nn + 640) 2309 [(0, vr E 1), (1, vr E 40), (2, vr E 96), (3, vr E 111), (4, vi (i : Int))] [] (gS f' D' n') m') : xX E (("law", some .boolean, []), (25, 600000, 7000000), P, PX) RL cL_law 7 kk nn 394 [(0, vr E 1), (1, vr E 40), (2, vr E 96), (3, vr E 111), (4, vi (i : Int))] [] (gS f D n) m := by
  have hu9 : uq (rf2 (0 ≤ ((E.2.2.2.2.2 1).2 (i + 1)) ∧ ((E.2.2.2.2.2 1).2 (i + 1)) < v 5) (100 ≤ ((E.2.2.2.2.2 1).2 (i + 2)) ∧ ((E.2.2.2.2.2 1).2 (i + 2)) ≤ 2500) 0 1) ((0 ≤ ((E.2.2.2.2.2 1).2 (i + 1)) ∧ ((E.2.2.2.2.2 1).2 (i + 1)) < v 5) ∧ (100 ≤ ((E.2.2.2.2.2 1).2 (i + 2)) ∧ ((E.2.2.2.2.2 1).2 (i + 2)) ≤ 2500)) (fun r => r = sh v ((E.2.2.2.2.2 1).2 (i + 1)).toNat 0) := uq2 (by decide) (by decide) (fun r r' _ a b => a.trans b.symm)
  refine x_aload_n dL_law_394 rfl ?_
  refine x_aload_n dL_law_395 rfl ?_
  refine x_iload dL_law_396 rfl ?_
  refine x_iconst dL_law_398 ?_
  refine x_iadd dL_law_399 ?_
  refine x_siald (j := i + 1) dL_law_400 (by decide) (by decide) (by omega) (by omega) (by omega) ?_
  refine x_aload_n dL_law_401 rfl ?_
  refine x_iload dL_law_402 rfl ?_
  refine x_iconst dL_law_404 ?_
  refine x_iadd dL_law_405 ?_
  refine x_siald (j := i + 2) dL_law_406 (by decide) (by decide) (by omega) (by omega) (by omega) ?_
  refine x_aload_n dL_law_407 rfl ?_
  refine x_callSH (na := 4) (as := [vr E 40, vi ((E.2.2.2.2.2 1).2 (i + 1)), vi ((E.2.2.2.2.2 1).2 (i + 2)), vr E 111]) (rest := []) (hy := [(0, 10, 13, 19), (0, 10, 17, 13)]) wl_load ws_load wc_load qSL (by decide) (by decide +kernel) (by decide) dL_law_408 rfl rfl (by decide) (by decide) (by omega) (by omega) (s_wload (PX := PX) hE hI.1 (hsc _) (hsc _) (fun k9 q9 n' m' hr hc hk hu => ?_) (fun f' m' r hok hR hc hk h111 => ?_))
  · have hk3 := (hu9.2.2.2 _ _ hr).1
    refine af_load (h := h) hI.1.1.1 (hI.N hk) (hI.H hk) hlen hl31 hsc (by omega) (by omega) (by omega) (fun m3 r3 ho => ?_)
    · have h9 := tw_ref hu9 hr hI hc hk hu (ho.mr)
      exact ⟨⟨h9.2.1, fun z => by omega⟩, x_wide (Nat.le_refl _) (by omega) (hK _ _ _ _ _ _ h9.1 (by rw [h9.2.2, hk.2.2 7 (by simp; omega)]; omega))⟩
  · refine af_load (h := h) hI.1.1.1 (hI.N hk) (hI.H hk) hlen hl31 hsc (by omega) (by omega) (by omega) (fun m3 r3 ho => ?_)
    · have h9 := tw_ans hu9 hok hR hI hc hk (ho.mr)
      obtain ⟨⟨g1, g2, g3, g4⟩, rfl⟩ := h9
      exact ⟨⟨g2, fun _ => by rw [g3]; exact h111⟩, x_wide (Nat.le_refl _) (by omega) (hK _ _ _ _ _ _ g1 (by rw [g4, hk.2.2 7 (by simp)]; omega))⟩

set_option maxRecDepth 20000 in
theorem af_surge {E : xE} {f : Nat → Nat} {D : Nat → Nat × Nat} {n : Nat} {m : xM} {P : xPo} {PX : xPx} {v : Nat → Int} {h : List (Nat → Int)} {i kk nn : Nat} {c : Int} (hv : vOk v) (hN : mN v m) (hH : mH h m) (hlen : i + 6 < (E.2.2.2.2.2 1).1) (hl31 : (E.2.2.2.2.2 1).1 < 2147483648) (hsc : ∀ j, -2147483648 ≤ (E.2.2.2.2.2 1).2 j ∧ (E.2.2.2.2.2 1).2 j ≤ 2147483647) (hc : 0 ≤ c ∧ c ≤ 3) (hkk : kk ≤ 600000) (hnn : nn ≤ 7000000) (hQ : ∀ m3 r3, moA (rf1 (-300 ≤ ((E.2.2.2.2.2 1).2 (i + 1)) ∧ ((E.2.2.2.2.2 1).2 (i + 1)) ≤ 300) 1) (-300 ≤ ((E.2.2.2.2.2 1).2 (i + 1)) ∧ ((E.2.2.2.2.2 1).2 (i + 1)) ≤ 300) (fun r => r = v 2) (vup v 2 ((E.2.2.2.2.2 1).2 (i + 1))) (psh h v) m m3 r3 → (m3 96 0 = c ∧ (c = 0 → m3 111 0 = r32 r3)) ∧ xX E (("law", some .boolean, []), (25, 600000, 7000000), P, PX) RL cL_law 7 kk nn 2309 [(0, vr E 1), (1, vr E 40), (2, vr E 96), (3, vr E 111), (4, vi (i : Int))] [] (gS f D n) m3) : xX E (("law", some .boolean, []), (25, 600000, 7000000), P, PX) RL cL_law 7 kk nn 473 [(0, vr E 1), (1, vr E 40), (2, vr E 96), (3, vr E 111), (4, vi (i : Int))] [vi c] (gS f D n) m := by
  refine x_istore dL_law_473 ?_
  refine x_aload_n dL_law_475 rfl ?_
  refine x_aload_n dL_law_476 rfl ?_
  refine x_iload dL_law_477 rfl ?_
  refine x_iconst dL_law_479 ?_
  refine x_iadd dL_law_480 ?_
  refine x_siald (j := i + 1) dL_law_481 (by decide) (by decide) (by omega) (by omega) (by omega) ?_
  refine x_callV (as := [vi ((E.2.2.2.2.2 1).2 (i + 1))]) (rest := []) (mc' := 0) (ms' := 0) mL_130 dL_law_482 rfl rfl rfl (by decide) (by decide) hkk hnn (s_msurge hv hN hH (hsc _) (fun m3 r3 ho => ?_))
  obtain ⟨⟨e0, e1⟩, hX9⟩ := hQ m3 r3 ho
  refine x_istore dL_law_485 ?_
  refine x_aload_n dL_law_487 rfl ?_
  refine x_callV (as := []) (rest := []) (mc' := 0) (ms' := 0) mL_113 dL_law_488 rfl rfl rfl (by decide) (by decide) hkk hnn (s_mthrown ?_)
  refine x_ci e0 ?_
  refine x_iload dL_law_491 rfl ?_
  refine x_icmp_T (tgt := 498) dL_law_493 (by decide) ?_
  refine x_iload dL_law_498 rfl ?_
  refine x_if_ne (tgt := 515) dL_law_500 (by decide) (by omega) (fun _ => ?_) (fun hc0 => ?_)
  · refine x_goto (tgt := 2309) dL_law_515 (by decide) ?_
    exact x_loc (lv' := [(0, vr E 1), (1, vr E 40), (2, vr E 96), (3, vr E 111), (4, vi (i : Int))]) ⟨rfl, rfl, rfl, rfl, rfl, trivial⟩ hX9
  · refine x_aload_n dL_law_503 rfl ?_
    refine x_iconst dL_law_504 ?_
    refine x_lald (j := 0) dL_law_505 rfl rfl (by show 0 < 1; decide) (by decide) ?_
    refine x_topl (e1 hc0) ?_
    refine x_iload dL_law_506 rfl ?_
    refine x_i2lz dL_law_508 ?_
    refine x_leq_T (tgt := 515) dL_law_509 dL_law_510 (by decide) ?_
    refine x_goto (tgt := 2309) dL_law_515 (by decide) ?_
    exact x_loc (lv' := [(0, vr E 1), (1, vr E 40), (2, vr E 96), (3, vr E 111), (4, vi (i : Int))]) ⟨rfl, rfl, rfl, rfl, rfl, trivial⟩ hX9

theorem wl_surge : Cond.methodLink RL 128 yL_surge ∈ xTb := xTb_of 803 (by decide +kernel) (by decide +kernel)
theorem ws_surge : Cond.static yL_surge ∈ xTb := xTb_of 804 (by decide +kernel) (by decide +kernel)
theorem wc_surge : Cond.codeWith yL_surge cL_surge 4 (some .int) [(0, 9, 12, 13)] ∈ xTb := xTb_of 805 (by decide +kernel) (by decide +kernel)
set_option maxRecDepth 20000 in
theorem lw_surge {E : xE} {f : Nat → Nat} {D : Nat → Nat × Nat} {n : Nat} {m : xM} {P : xPo} {PX : xPx} {v : Nat → Int} {h : List (Nat → Int)} {i kk nn : Nat} (hE : eOk E) (hI : tI v h f D n m) (hlen : i + 6 < (E.2.2.2.2.2 1).1) (hl31 : (E.2.2.2.2.2 1).1 < 2147483648) (hsc : ∀ j, -2147483648 ≤ (E.2.2.2.2.2 1).2 j ∧ (E.2.2.2.2.2 1).2 j ≤ 2147483647) (hkk : kk + 8 ≤ 600000) (hnn : nn + 640 ≤ 7000000) (hK : ∀ v' h' f' D' n' m', tI v' h' f' D' n' m' → m' 40 7 ≤ m 40 7 + 1 → xX E (("law", some .boolean, []), (25, 600000, 7000000), P, PX) RL cL_law 7 (kk + 8) (nn + 640) 2309 [(0, vr E 1), (1, vr E 40), (2, vr E 96), (3, vr E 111), (4, vi (i : Int))] [] (gS f' D' n') m') : xX E (("law", some .boolean, []), (25, 600000, 7000000), P, PX) RL cL_law 7 kk nn 462 [(0, vr E 1), (1, vr E 40), (2, vr E 96), (3, vr E 111), (4, vi (i : Int))] [] (gS f D n) m := by
  have hu9 : uq (rf1 (-300 ≤ ((E.2.2.2.2.2 1).2 (i + 1)) ∧ ((E.2.2.2.2.2 1).2 (i + 1)) ≤ 300) 1) (-300 ≤ ((E.2.2.2.2.2 1).2 (i + 1)) ∧ ((E.2.2.2.2.2 1).2 (i + 1)) ≤ 300) (fun r => r = v 2) := uq1 (by decide) (fun r r' _ a b => a.trans b.symm)
  refine x_aload_n dL_law_462 rfl ?_
  refine x_aload_n dL_law_463 rfl ?_
  refine x_iload dL_law_464 rfl ?_
  refine x_iconst dL_law_466 ?_
  refine x_iadd dL_law_467 ?_
  refine x_siald (j := i + 1) dL_law_468 (by decide) (by decide) (by omega) (by omega) (by omega) ?_
  refine x_aload_n dL_law_469 rfl ?_
  refine x_callSH (na := 3) (as := [vr E 40, vi ((E.2.2.2.2.2 1).2 (i + 1)), vr E 111]) (rest := []) (hy := [(0, 9, 12, 13)]) wl_surge ws_surge wc_surge qSL (by decide) (by decide +kernel) (by decide) dL_law_470 rfl rfl (by decide) (by decide) (by omega) (by omega) (s_wsurge (PX := PX) hE hI.1 (hsc _) (fun k9 q9 n' m' hr hc hk hu => ?_) (fun f' m' r hok hR hc hk h111 => ?_))
  · have hk3 := (hu9.2.2.2 _ _ hr).1
    refine af_surge (h := h) hI.1.1.1 (hI.N hk) (hI.H hk) hlen hl31 hsc (by omega) (by omega) (by omega) (fun m3 r3 ho => ?_)
    · have h9 := tw_ref hu9 hr hI hc hk hu (ho.mr)
      exact ⟨⟨h9.2.1, fun z => by omega⟩, x_wide (Nat.le_refl _) (by omega) (hK _ _ _ _ _ _ h9.1 (by rw [h9.2.2, hk.2.2 7 (by simp; omega)]; omega))⟩
  · refine af_surge (h := h) hI.1.1.1 (hI.N hk) (hI.H hk) hlen hl31 hsc (by omega) (by omega) (by omega) (fun m3 r3 ho => ?_)
    · have h9 := tw_ans hu9 hok hR hI hc hk (ho.mr)
      obtain ⟨⟨g1, g2, g3, g4⟩, rfl⟩ := h9
      exact ⟨⟨g2, fun _ => by rw [g3]; exact h111⟩, x_wide (Nat.le_refl _) (by omega) (hK _ _ _ _ _ _ g1 (by rw [g4, hk.2.2 7 (by simp)]; omega))⟩

set_option maxRecDepth 20000 in
theorem af_book {E : xE} {f : Nat → Nat} {D : Nat → Nat × Nat} {n : Nat} {m : xM} {P : xPo} {PX : xPx} {v : Nat → Int} {h : List (Nat → Int)} {i kk nn : Nat} {c : Int} (hv : vOk v) (hN : mN v m) (hH : mH h m) (hlen : i + 6 < (E.2.2.2.2.2 1).1) (hl31 : (E.2.2.2.2.2 1).1 < 2147483648) (hsc : ∀ j, -2147483648 ≤ (E.2.2.2.2.2 1).2 j ∧ (E.2.2.2.2.2 1).2 j ≤ 2147483647) (hc : 0 ≤ c ∧ c ≤ 3) (hkk : kk ≤ 600000) (hnn : nn ≤ 7000000) (hQ : ∀ m3 r3, moA (rf3 (0 ≤ ((E.2.2.2.2.2 1).2 (i + 1)) ∧ ((E.2.2.2.2.2 1).2 (i + 1)) < v 5) ((0 ≤ ((E.2.2.2.2.2 1).2 (i + 2)) ∧ ((E.2.2.2.2.2 1).2 (i + 2)) ≤ 2000) ∧ (sh v ((E.2.2.2.2.2 1).2 (i + 1)).toNat 3 ≤ ((E.2.2.2.2.2 1).2 (i + 3)) ∧ ((E.2.2.2.2.2 1).2 (i + 3)) ≤ sh v ((E.2.2.2.2.2 1).2 (i + 1)).toNat 4)) (¬ bk v ((E.2.2.2.2.2 1).2 (i + 1)).toNat ∧ good v ((E.2.2.2.2.2 1).2 (i + 1)).toNat (sh v ((E.2.2.2.2.2 1).2 (i + 1)).toNat 0) ((E.2.2.2.2.2 1).2 (i + 2)) ((E.2.2.2.2.2 1).2 (i + 3)) ∧ cset (cls v ((E.2.2.2.2.2 1).2 (i + 1)).toNat ((E.2.2.2.2.2 1).2 (i + 2)) ((E.2.2.2.2.2 1).2 (i + 3))) (v 5).toNat = 0)) ((0 ≤ ((E.2.2.2.2.2 1).2 (i + 1)) ∧ ((E.2.2.2.2.2 1).2 (i + 1)) < v 5) ∧ ((0 ≤ ((E.2.2.2.2.2 1).2 (i + 2)) ∧ ((E.2.2.2.2.2 1).2 (i + 2)) ≤ 2000) ∧ (sh v ((E.2.2.2.2.2 1).2 (i + 1)).toNat 3 ≤ ((E.2.2.2.2.2 1).2 (i + 3)) ∧ ((E.2.2.2.2.2 1).2 (i + 3)) ≤ sh v ((E.2.2.2.2.2 1).2 (i + 1)).toNat 4)) ∧ (¬ bk v ((E.2.2.2.2.2 1).2 (i + 1)).toNat ∧ good v ((E.2.2.2.2.2 1).2 (i + 1)).toNat (sh v ((E.2.2.2.2.2 1).2 (i + 1)).toNat 0) ((E.2.2.2.2.2 1).2 (i + 2)) ((E.2.2.2.2.2 1).2 (i + 3)) ∧ cset (cls v ((E.2.2.2.2.2 1).2 (i + 1)).toNat ((E.2.2.2.2.2 1).2 (i + 2)) ((E.2.2.2.2.2 1).2 (i + 3))) (v 5).toNat = 0)) (fun r => r = ((E.2.2.2.2.2 1).2 (i + 2)) + pt v ((E.2.2.2.2.2 1).2 (i + 1)).toNat ((E.2.2.2.2.2 1).2 (i + 3))) (vbk v ((E.2.2.2.2.2 1).2 (i + 1)).toNat ((E.2.2.2.2.2 1).2 (i + 2)) ((E.2.2.2.2.2 1).2 (i + 3))) (psh h v) m m3 r3 → (m3 96 0 = c ∧ (c = 0 → m3 111 0 = r32 r3)) ∧ xX E (("law", some .boolean, []), (25, 600000, 7000000), P, PX) RL cL_law 7 kk nn 2309 [(0, vr E 1), (1, vr E 40), (2, vr E 96), (3, vr E 111), (4, vi (i : Int))] [] (gS f D n) m3) : xX E (("law", some .boolean, []), (25, 600000, 7000000), P, PX) RL cL_law 7 kk nn 541 [(0, vr E 1), (1, vr E 40), (2, vr E 96), (3, vr E 111), (4, vi (i : Int))] [vi c] (gS f D n) m := by
  refine x_istore dL_law_541 ?_
  refine x_aload_n dL_law_543 rfl ?_
  refine x_aload_n dL_law_544 rfl ?_
  refine x_iload dL_law_545 rfl ?_
  refine x_iconst dL_law_547 ?_
  refine x_iadd dL_law_548 ?_
  refine x_siald (j := i + 1) dL_law_549 (by decide) (by decide) (by omega) (by omega) (by omega) ?_
  refine x_aload_n dL_law_550 rfl ?_
  refine x_iload dL_law_551 rfl ?_
  refine x_iconst dL_law_553 ?_
  refine x_iadd dL_law_554 ?_
  refine x_siald (j := i + 2) dL_law_555 (by decide) (by decide) (by omega) (by omega) (by omega) ?_
  refine x_aload_n dL_law_556 rfl ?_
  refine x_iload dL_law_557 rfl ?_
  refine x_iconst dL_law_559 ?_
  refine x_iadd dL_law_560 ?_
  refine x_siald (j := i + 3) dL_law_561 (by decide) (by decide) (by omega) (by omega) (by omega) ?_
  refine x_callV (as := [vi ((E.2.2.2.2.2 1).2 (i + 1)), vi ((E.2.2.2.2.2 1).2 (i + 2)), vi ((E.2.2.2.2.2 1).2 (i + 3))]) (rest := []) (mc' := 0) (ms' := 0) mL_134 dL_law_562 rfl rfl rfl (by decide) (by decide) hkk hnn (s_mbook hv hN hH (hsc _) (hsc _) (hsc _) (fun m3 r3 ho => ?_))
  obtain ⟨⟨e0, e1⟩, hX9⟩ := hQ m3 r3 ho
  refine x_istore dL_law_565 ?_
  refine x_aload_n dL_law_567 rfl ?_
  refine x_callV (as := []) (rest := []) (mc' := 0) (ms' := 0) mL_113 dL_law_568 rfl rfl rfl (by decide) (by decide) hkk hnn (s_mthrown ?_)
  refine x_ci e0 ?_
  refine x_iload dL_law_571 rfl ?_
  refine x_icmp_T (tgt := 578) dL_law_573 (by decide) ?_
  refine x_iload dL_law_578 rfl ?_
  refine x_if_ne (tgt := 595) dL_law_580 (by decide) (by omega) (fun _ => ?_) (fun hc0 => ?_)
  · refine x_goto (tgt := 2309) dL_law_595 (by decide) ?_
    exact x_loc (lv' := [(0, vr E 1), (1, vr E 40), (2, vr E 96), (3, vr E 111), (4, vi (i : Int))]) ⟨rfl, rfl, rfl, rfl, rfl, trivial⟩ hX9
  · refine x_aload_n dL_law_583 rfl ?_
    refine x_iconst dL_law_584 ?_
    refine x_lald (j := 0) dL_law_585 rfl rfl (by show 0 < 1; decide) (by decide) ?_
    refine x_topl (e1 hc0) ?_
    refine x_iload dL_law_586 rfl ?_
    refine x_i2lz dL_law_588 ?_
    refine x_leq_T (tgt := 595) dL_law_589 dL_law_590 (by decide) ?_
    refine x_goto (tgt := 2309) dL_law_595 (by decide) ?_
    exact x_loc (lv' := [(0, vr E 1), (1, vr E 40), (2, vr E 96), (3, vr E 111), (4, vi (i : Int))]) ⟨rfl, rfl, rfl, rfl, rfl, trivial⟩ hX9

theorem wl_book : Cond.methodLink RL 131 yL_book ∈ xTb := xTb_of 810 (by decide +kernel) (by decide +kernel)
theorem ws_book : Cond.static yL_book ∈ xTb := xTb_of 811 (by decide +kernel) (by decide +kernel)
theorem wc_book : Cond.codeWith yL_book cL_book 6 (some .int) [(0, 12, 15, 19), (0, 12, 19, 13), (0, 12, 23, 31)] ∈ xTb := xTb_of 812 (by decide +kernel) (by decide +kernel)
set_option maxRecDepth 20000 in
theorem lw_book {E : xE} {f : Nat → Nat} {D : Nat → Nat × Nat} {n : Nat} {m : xM} {P : xPo} {PX : xPx} {v : Nat → Int} {h : List (Nat → Int)} {i kk nn : Nat} (hE : eOk E) (hI : tI v h f D n m) (hlen : i + 6 < (E.2.2.2.2.2 1).1) (hl31 : (E.2.2.2.2.2 1).1 < 2147483648) (hsc : ∀ j, -2147483648 ≤ (E.2.2.2.2.2 1).2 j ∧ (E.2.2.2.2.2 1).2 j ≤ 2147483647) (hkk : kk + 8 ≤ 600000) (hnn : nn + 640 ≤ 7000000) (hK : ∀ v' h' f' D' n' m', tI v' h' f' D' n' m' → m' 40 7 ≤ m 40 7 + 1 → xX E (("law", some .boolean, []), (25, 600000, 7000000), P, PX) RL cL_law 7 (kk + 8) (nn + 640) 2309 [(0, vr E 1), (1, vr E 40), (2, vr E 96), (3, vr E 111), (4, vi (i : Int))] [] (gS f' D' n') m') : xX E (("law", some .boolean, []), (25, 600000, 7000000), P, PX) RL cL_law 7 kk nn 518 [(0, vr E 1), (1, vr E 40), (2, vr E 96), (3, vr E 111), (4, vi (i : Int))] [] (gS f D n) m := by
  have hu9 : uq (rf3 (0 ≤ ((E.2.2.2.2.2 1).2 (i + 1)) ∧ ((E.2.2.2.2.2 1).2 (i + 1)) < v 5) ((0 ≤ ((E.2.2.2.2.2 1).2 (i + 2)) ∧ ((E.2.2.2.2.2 1).2 (i + 2)) ≤ 2000) ∧ (sh v ((E.2.2.2.2.2 1).2 (i + 1)).toNat 3 ≤ ((E.2.2.2.2.2 1).2 (i + 3)) ∧ ((E.2.2.2.2.2 1).2 (i + 3)) ≤ sh v ((E.2.2.2.2.2 1).2 (i + 1)).toNat 4)) (¬ bk v ((E.2.2.2.2.2 1).2 (i + 1)).toNat ∧ good v ((E.2.2.2.2.2 1).2 (i + 1)).toNat (sh v ((E.2.2.2.2.2 1).2 (i + 1)).toNat 0) ((E.2.2.2.2.2 1).2 (i + 2)) ((E.2.2.2.2.2 1).2 (i + 3)) ∧ cset (cls v ((E.2.2.2.2.2 1).2 (i + 1)).toNat ((E.2.2.2.2.2 1).2 (i + 2)) ((E.2.2.2.2.2 1).2 (i + 3))) (v 5).toNat = 0)) ((0 ≤ ((E.2.2.2.2.2 1).2 (i + 1)) ∧ ((E.2.2.2.2.2 1).2 (i + 1)) < v 5) ∧ ((0 ≤ ((E.2.2.2.2.2 1).2 (i + 2)) ∧ ((E.2.2.2.2.2 1).2 (i + 2)) ≤ 2000) ∧ (sh v ((E.2.2.2.2.2 1).2 (i + 1)).toNat 3 ≤ ((E.2.2.2.2.2 1).2 (i + 3)) ∧ ((E.2.2.2.2.2 1).2 (i + 3)) ≤ sh v ((E.2.2.2.2.2 1).2 (i + 1)).toNat 4)) ∧ (¬ bk v ((E.2.2.2.2.2 1).2 (i + 1)).toNat ∧ good v ((E.2.2.2.2.2 1).2 (i + 1)).toNat (sh v ((E.2.2.2.2.2 1).2 (i + 1)).toNat 0) ((E.2.2.2.2.2 1).2 (i + 2)) ((E.2.2.2.2.2 1).2 (i + 3)) ∧ cset (cls v ((E.2.2.2.2.2 1).2 (i + 1)).toNat ((E.2.2.2.2.2 1).2 (i + 2)) ((E.2.2.2.2.2 1).2 (i + 3))) (v 5).toNat = 0)) (fun r => r = ((E.2.2.2.2.2 1).2 (i + 2)) + pt v ((E.2.2.2.2.2 1).2 (i + 1)).toNat ((E.2.2.2.2.2 1).2 (i + 3))) := uq3 (fun r r' _ a b => a.trans b.symm)
  refine x_aload_n dL_law_518 rfl ?_
  refine x_aload_n dL_law_519 rfl ?_
  refine x_iload dL_law_520 rfl ?_
  refine x_iconst dL_law_522 ?_
  refine x_iadd dL_law_523 ?_
  refine x_siald (j := i + 1) dL_law_524 (by decide) (by decide) (by omega) (by omega) (by omega) ?_
  refine x_aload_n dL_law_525 rfl ?_
  refine x_iload dL_law_526 rfl ?_
  refine x_iconst dL_law_528 ?_
  refine x_iadd dL_law_529 ?_
  refine x_siald (j := i + 2) dL_law_530 (by decide) (by decide) (by omega) (by omega) (by omega) ?_
  refine x_aload_n dL_law_531 rfl ?_
  refine x_iload dL_law_532 rfl ?_
  refine x_iconst dL_law_534 ?_
  refine x_iadd dL_law_535 ?_
  refine x_siald (j := i + 3) dL_law_536 (by decide) (by decide) (by omega) (by omega) (by omega) ?_
  refine x_aload_n dL_law_537 rfl ?_
  refine x_callSH (na := 5) (as := [vr E 40, vi ((E.2.2.2.2.2 1).2 (i + 1)), vi ((E.2.2.2.2.2 1).2 (i + 2)), vi ((E.2.2.2.2.2 1).2 (i + 3)), vr E 111]) (rest := []) (hy := [(0, 12, 15, 19), (0, 12, 19, 13), (0, 12, 23, 31)]) wl_book ws_book wc_book qSL (by decide) (by decide +kernel) (by decide) dL_law_538 rfl rfl (by decide) (by decide) (by omega) (by omega) (s_wbook (PX := PX) hE hI.1 (hsc _) (hsc _) (hsc _) (fun k9 q9 n' m' hr hc hk hu => ?_) (fun f' m' r hok hR hc hk h111 => ?_))
  · have hk3 := (hu9.2.2.2 _ _ hr).1
    refine af_book (h := h) hI.1.1.1 (hI.N hk) (hI.H hk) hlen hl31 hsc (by omega) (by omega) (by omega) (fun m3 r3 ho => ?_)
    · have h9 := tw_ref hu9 hr hI hc hk hu (ho.mr)
      exact ⟨⟨h9.2.1, fun z => by omega⟩, x_wide (Nat.le_refl _) (by omega) (hK _ _ _ _ _ _ h9.1 (by rw [h9.2.2, hk.2.2 7 (by simp; omega)]; omega))⟩
  · refine af_book (h := h) hI.1.1.1 (hI.N hk) (hI.H hk) hlen hl31 hsc (by omega) (by omega) (by omega) (fun m3 r3 ho => ?_)
    · have h9 := tw_ans hu9 hok hR hI hc hk (ho.mr)
      obtain ⟨⟨g1, g2, g3, g4⟩, rfl⟩ := h9
      exact ⟨⟨g2, fun _ => by rw [g3]; exact h111⟩, x_wide (Nat.le_refl _) (by omega) (hK _ _ _ _ _ _ g1 (by rw [g4, hk.2.2 7 (by simp)]; omega))⟩

set_option maxRecDepth 20000 in
theorem af_cancel {E : xE} {f : Nat → Nat} {D : Nat → Nat × Nat} {n : Nat} {m : xM} {P : xPo} {PX : xPx} {v : Nat → Int} {h : List (Nat → Int)} {i kk nn : Nat} {c : Int} (hv : vOk v) (hN : mN v m) (hH : mH h m) (hlen : i + 6 < (E.2.2.2.2.2 1).1) (hl31 : (E.2.2.2.2.2 1).1 < 2147483648) (hsc : ∀ j, -2147483648 ≤ (E.2.2.2.2.2 1).2 j ∧ (E.2.2.2.2.2 1).2 j ≤ 2147483647) (hc : 0 ≤ c ∧ c ≤ 3) (hkk : kk ≤ 600000) (hnn : nn ≤ 7000000) (hQ : ∀ m3 r3, moA (rf2 (0 ≤ ((E.2.2.2.2.2 1).2 (i + 1)) ∧ ((E.2.2.2.2.2 1).2 (i + 1)) < v 5) (bk v ((E.2.2.2.2.2 1).2 (i + 1)).toNat) 0 2) ((0 ≤ ((E.2.2.2.2.2 1).2 (i + 1)) ∧ ((E.2.2.2.2.2 1).2 (i + 1)) < v 5) ∧ (bk v ((E.2.2.2.2.2 1).2 (i + 1)).toNat)) (fun r => r = sh v ((E.2.2.2.2.2 1).2 (i + 1)).toNat 6) (vup (vup v (60 + 8 * ((E.2.2.2.2.2 1).2 (i + 1)).toNat + 6) (-1)) (60 + 8 * ((E.2.2.2.2.2 1).2 (i + 1)).toNat + 7) (-1)) (psh h v) m m3 r3 → (m3 96 0 = c ∧ (c = 0 → m3 111 0 = r32 r3)) ∧ xX E (("law", some .boolean, []), (25, 600000, 7000000), P, PX) RL cL_law 7 kk nn 2309 [(0, vr E 1), (1, vr E 40), (2, vr E 96), (3, vr E 111), (4, vi (i : Int))] [] (gS f D n) m3) : xX E (("law", some .boolean, []), (25, 600000, 7000000), P, PX) RL cL_law 7 kk nn 609 [(0, vr E 1), (1, vr E 40), (2, vr E 96), (3, vr E 111), (4, vi (i : Int))] [vi c] (gS f D n) m := by
  refine x_istore dL_law_609 ?_
  refine x_aload_n dL_law_611 rfl ?_
  refine x_aload_n dL_law_612 rfl ?_
  refine x_iload dL_law_613 rfl ?_
  refine x_iconst dL_law_615 ?_
  refine x_iadd dL_law_616 ?_
  refine x_siald (j := i + 1) dL_law_617 (by decide) (by decide) (by omega) (by omega) (by omega) ?_
  refine x_callV (as := [vi ((E.2.2.2.2.2 1).2 (i + 1))]) (rest := []) (mc' := 0) (ms' := 0) mL_137 dL_law_618 rfl rfl rfl (by decide) (by decide) hkk hnn (s_mcancel hv hN hH (hsc _) (fun m3 r3 ho => ?_))
  obtain ⟨⟨e0, e1⟩, hX9⟩ := hQ m3 r3 ho
  refine x_istore dL_law_621 ?_
  refine x_aload_n dL_law_623 rfl ?_
  refine x_callV (as := []) (rest := []) (mc' := 0) (ms' := 0) mL_113 dL_law_624 rfl rfl rfl (by decide) (by decide) hkk hnn (s_mthrown ?_)
  refine x_ci e0 ?_
  refine x_iload dL_law_627 rfl ?_
  refine x_icmp_T (tgt := 634) dL_law_629 (by decide) ?_
  refine x_iload dL_law_634 rfl ?_
  refine x_if_ne (tgt := 651) dL_law_636 (by decide) (by omega) (fun _ => ?_) (fun hc0 => ?_)
  · refine x_goto (tgt := 2309) dL_law_651 (by decide) ?_
    exact x_loc (lv' := [(0, vr E 1), (1, vr E 40), (2, vr E 96), (3, vr E 111), (4, vi (i : Int))]) ⟨rfl, rfl, rfl, rfl, rfl, trivial⟩ hX9
  · refine x_aload_n dL_law_639 rfl ?_
    refine x_iconst dL_law_640 ?_
    refine x_lald (j := 0) dL_law_641 rfl rfl (by show 0 < 1; decide) (by decide) ?_
    refine x_topl (e1 hc0) ?_
    refine x_iload dL_law_642 rfl ?_
    refine x_i2lz dL_law_644 ?_
    refine x_leq_T (tgt := 651) dL_law_645 dL_law_646 (by decide) ?_
    refine x_goto (tgt := 2309) dL_law_651 (by decide) ?_
    exact x_loc (lv' := [(0, vr E 1), (1, vr E 40), (2, vr E 96), (3, vr E 111), (4, vi (i : Int))]) ⟨rfl, rfl, rfl, rfl, rfl, trivial⟩ hX9

theorem wl_cancel : Cond.methodLink RL 135 yL_cancel ∈ xTb := xTb_of 853 (by decide +kernel) (by decide +kernel)
theorem ws_cancel : Cond.static yL_cancel ∈ xTb := xTb_of 854 (by decide +kernel) (by decide +kernel)
theorem wc_cancel : Cond.codeWith yL_cancel cL_cancel 4 (some .int) [(0, 9, 12, 19), (0, 9, 15, 31)] ∈ xTb := xTb_of 855 (by decide +kernel) (by decide +kernel)
set_option maxRecDepth 20000 in
theorem lw_cancel {E : xE} {f : Nat → Nat} {D : Nat → Nat × Nat} {n : Nat} {m : xM} {P : xPo} {PX : xPx} {v : Nat → Int} {h : List (Nat → Int)} {i kk nn : Nat} (hE : eOk E) (hI : tI v h f D n m) (hlen : i + 6 < (E.2.2.2.2.2 1).1) (hl31 : (E.2.2.2.2.2 1).1 < 2147483648) (hsc : ∀ j, -2147483648 ≤ (E.2.2.2.2.2 1).2 j ∧ (E.2.2.2.2.2 1).2 j ≤ 2147483647) (hkk : kk + 8 ≤ 600000) (hnn : nn + 640 ≤ 7000000) (hK : ∀ v' h' f' D' n' m', tI v' h' f' D' n' m' → m' 40 7 ≤ m 40 7 + 1 → xX E (("law", some .boolean, []), (25, 600000, 7000000), P, PX) RL cL_law 7 (kk + 8) (nn + 640) 2309 [(0, vr E 1), (1, vr E 40), (2, vr E 96), (3, vr E 111), (4, vi (i : Int))] [] (gS f' D' n') m') : xX E (("law", some .boolean, []), (25, 600000, 7000000), P, PX) RL cL_law 7 kk nn 598 [(0, vr E 1), (1, vr E 40), (2, vr E 96), (3, vr E 111), (4, vi (i : Int))] [] (gS f D n) m := by
  have hu9 : uq (rf2 (0 ≤ ((E.2.2.2.2.2 1).2 (i + 1)) ∧ ((E.2.2.2.2.2 1).2 (i + 1)) < v 5) (bk v ((E.2.2.2.2.2 1).2 (i + 1)).toNat) 0 2) ((0 ≤ ((E.2.2.2.2.2 1).2 (i + 1)) ∧ ((E.2.2.2.2.2 1).2 (i + 1)) < v 5) ∧ (bk v ((E.2.2.2.2.2 1).2 (i + 1)).toNat)) (fun r => r = sh v ((E.2.2.2.2.2 1).2 (i + 1)).toNat 6) := uq2 (by decide) (by decide) (fun r r' _ a b => a.trans b.symm)
  refine x_aload_n dL_law_598 rfl ?_
  refine x_aload_n dL_law_599 rfl ?_
  refine x_iload dL_law_600 rfl ?_
  refine x_iconst dL_law_602 ?_
  refine x_iadd dL_law_603 ?_
  refine x_siald (j := i + 1) dL_law_604 (by decide) (by decide) (by omega) (by omega) (by omega) ?_
  refine x_aload_n dL_law_605 rfl ?_
  refine x_callSH (na := 3) (as := [vr E 40, vi ((E.2.2.2.2.2 1).2 (i + 1)), vr E 111]) (rest := []) (hy := [(0, 9, 12, 19), (0, 9, 15, 31)]) wl_cancel ws_cancel wc_cancel qSL (by decide) (by decide +kernel) (by decide) dL_law_606 rfl rfl (by decide) (by decide) (by omega) (by omega) (s_wcancel (PX := PX) hE hI.1 (hsc _) (fun k9 q9 n' m' hr hc hk hu => ?_) (fun f' m' r hok hR hc hk h111 => ?_))
  · have hk3 := (hu9.2.2.2 _ _ hr).1
    refine af_cancel (h := h) hI.1.1.1 (hI.N hk) (hI.H hk) hlen hl31 hsc (by omega) (by omega) (by omega) (fun m3 r3 ho => ?_)
    · have h9 := tw_ref hu9 hr hI hc hk hu (ho.mr)
      exact ⟨⟨h9.2.1, fun z => by omega⟩, x_wide (Nat.le_refl _) (by omega) (hK _ _ _ _ _ _ h9.1 (by rw [h9.2.2, hk.2.2 7 (by simp; omega)]; omega))⟩
  · refine af_cancel (h := h) hI.1.1.1 (hI.N hk) (hI.H hk) hlen hl31 hsc (by omega) (by omega) (by omega) (fun m3 r3 ho => ?_)
    · have h9 := tw_ans hu9 hok hR hI hc hk (ho.mr)
      obtain ⟨⟨g1, g2, g3, g4⟩, rfl⟩ := h9
      exact ⟨⟨g2, fun _ => by rw [g3]; exact h111⟩, x_wide (Nat.le_refl _) (by omega) (hK _ _ _ _ _ _ g1 (by rw [g4, hk.2.2 7 (by simp)]; omega))⟩

end LW
