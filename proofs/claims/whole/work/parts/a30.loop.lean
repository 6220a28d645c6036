section LL
theorem and31 (a : Int) : ∃ z : Nat, z < 32 ∧ Int32.ofInt a &&& Int32.ofInt 31 = Int32.ofInt (z : Int) := by
  refine ⟨((Int32.ofInt a).toBitVec &&& 31#32).toNat, ?_, ?_⟩
  · rw [BitVec.toNat_and]
    exact Nat.lt_of_le_of_lt Nat.and_le_right (by decide)
  · apply Int32.toBitVec_inj.mp
    rw [Int32.toBitVec_and]
    show _ = BitVec.ofInt 32 _
    rw [BitVec.ofInt_natCast, BitVec.ofNat_toNat]
    simp
set_option maxRecDepth 20000 in
theorem law_loop {E : xE} {P : xPo} {PX : xPx} (hL : eL E) (hmax : (E.2.2.2.2.2 1).1 ≤ 3584) (hsc : ∀ j, -2147483648 ≤ (E.2.2.2.2.2 1).2 j ∧ (E.2.2.2.2.2 1).2 j ≤ 2147483647) (hP : ∀ g m, P (some (vi 1)) g m) :
    ∀ (j i : Nat) (v : Nat → Int) (h : List (Nat → Int)) (f : Nat → Nat) (D : Nat → Nat × Nat) (n : Nat) (m : xM) (kk nn : Nat), 4000 < i + 7 * j → i ≤ 3600 → tI v h f D n m → m 40 7 ≤ (i : Int) → 7 * kk ≤ 1000 + 8 * i → 7 * nn ≤ 1000000 + 640 * i → xX E (("law", some .boolean, []), (25, 600000, 7000000), P, PX) RL cL_law 7 kk nn 23 [(0, vr E 1), (1, vr E 40), (2, vr E 96), (3, vr E 111), (4, vi (i : Int))] [] (gS f D n) m := by
  have hl31 : (E.2.2.2.2.2 1).1 < 2147483648 := by omega
  intro j
  induction j with
  | zero => intro i v h f D n m kk nn h1 h2; omega
  | succ j ih =>
    intro i v h f D n m kk nn h1 h2 hI h7 hk hn
    refine x_iload dL_law_23 rfl ?_
    refine x_aload_n dL_law_25 rfl ?_
    refine x_salen dL_law_26 (by decide) (by decide) ?_
    refine x_bipush dL_law_27 (h := ?_)
    refine x_isub dL_law_29 ?_
    refine x_icmp_gt (tgt := 2315) dL_law_30 (by decide) (by omega) (fun _ => ?_) (fun h30 => ?_)
    · refine x_iconst dL_law_2315 ?_
      exact x_zret dL_law_2316 (Or.inr rfl) (hP _ _) (by omega) (by omega)
    · have hlen : i + 6 < (E.2.2.2.2.2 1).1 := by omega
      have hK : ∀ v' h' f' D' n' m', tI v' h' f' D' n' m' → m' 40 7 ≤ m 40 7 + 1 → xX E (("law", some .boolean, []), (25, 600000, 7000000), P, PX) RL cL_law 7 (kk + 8) (nn + 640) 2309 [(0, vr E 1), (1, vr E 40), (2, vr E 96), (3, vr E 111), (4, vi (i : Int))] [] (gS f' D' n') m' := by
        intro v' h' f' D' n' m' hI' h7'
        refine x_iinc dL_law_2309 rfl ?_
        refine x_goto (tgt := 23) dL_law_2312 (by decide) ?_
        exact x_loc (lv' := [(0, vr E 1), (1, vr E 40), (2, vr E 96), (3, vr E 111), (4, vi ((i + 7 : Nat) : Int))]) ⟨rfl, rfl, rfl, rfl, xl_i rfl (by omega), trivial⟩ (ih (i + 7) _ _ _ _ _ _ _ _ (by omega) (by omega) hI' (by omega) (by omega) (by omega))
      refine x_aload_n dL_law_33 rfl ?_
      refine x_iload dL_law_34 rfl ?_
      refine x_siald (j := i) dL_law_36 (by decide) (by decide) rfl (by omega) (by omega) ?_
      refine x_bipush dL_law_37 (h := ?_)
      obtain ⟨z, hz, he⟩ := and31 ((E.2.2.2.2.2 1).2 i)
      refine x_iand dL_law_39 he ?_
      rcases (by omega : z = 0 ∨ z = 1 ∨ z = 2 ∨ z = 3 ∨ z = 4 ∨ z = 5 ∨ z = 6 ∨ z = 7 ∨ z = 8 ∨ z = 9 ∨ z = 10 ∨ z = 11 ∨ z = 12 ∨ z = 13 ∨ z = 14 ∨ z = 15 ∨ z = 16 ∨ z = 17 ∨ z = 18 ∨ z = 19 ∨ z = 20 ∨ z = 21 ∨ z = 22 ∨ z = 23 ∨ z = 24 ∨ z = 25 ∨ z = 26 ∨ z = 27 ∨ z = 28 ∨ z = 29 ∨ z = 30 ∨ z = 31) with rfl | rfl | rfl | rfl | rfl | rfl | rfl | rfl | rfl | rfl | rfl | rfl | rfl | rfl | rfl | rfl | rfl | rfl | rfl | rfl | rfl | rfl | rfl | rfl | rfl | rfl | rfl | rfl | rfl | rfl | rfl | rfl
      · exact x_tswIn (off := 144) (tgt := 184) dL_law_40 (by decide) (by decide) (by decide) (by decide) (by decide) (lw_feed hL.1 hI hlen hl31 hsc (by omega) (by omega) hK)
      · exact x_tswIn (off := 217) (tgt := 257) dL_law_40 (by decide) (by decide) (by decide) (by decide) (by decide) (lw_text hL hI (by omega) hlen hl31 hsc (by omega) (by omega) hK)
      · exact x_tswIn (off := 273) (tgt := 313) dL_law_40 (by decide) (by decide) (by decide) (by decide) (by decide) (lw_fault hL.1 hI hlen hl31 hsc (by omega) (by omega) hK)
      · exact x_tswIn (off := 286) (tgt := 326) dL_law_40 (by decide) (by decide) (by decide) (by decide) (by decide) (lw_sound hL.1 hI hlen hl31 hsc (by omega) (by omega) hK)
      · exact x_tswIn (off := 354) (tgt := 394) dL_law_40 (by decide) (by decide) (by decide) (by decide) (by decide) (lw_load hL.1 hI hlen hl31 hsc (by omega) (by omega) hK)
      · exact x_tswIn (off := 422) (tgt := 462) dL_law_40 (by decide) (by decide) (by decide) (by decide) (by decide) (lw_surge hL.1 hI hlen hl31 hsc (by omega) (by omega) hK)
      · exact x_tswIn (off := 478) (tgt := 518) dL_law_40 (by decide) (by decide) (by decide) (by decide) (by decide) (lw_book hL.1 hI hlen hl31 hsc (by omega) (by omega) hK)
      · exact x_tswIn (off := 558) (tgt := 598) dL_law_40 (by decide) (by decide) (by decide) (by decide) (by decide) (lw_cancel hL.1 hI hlen hl31 hsc (by omega) (by omega) hK)
      · exact x_tswIn (off := 614) (tgt := 654) dL_law_40 (by decide) (by decide) (by decide) (by decide) (by decide) (lw_undo hL.1 hI hlen hl31 hsc (by omega) (by omega) hK)
      · exact x_tswIn (off := 627) (tgt := 667) dL_law_40 (by decide) (by decide) (by decide) (by decide) (by decide) (lw_told hL.1 hI hlen hl31 hsc (by omega) (by omega) hK)
      · exact x_tswIn (off := 683) (tgt := 723) dL_law_40 (by decide) (by decide) (by decide) (by decide) (by decide) (lw_wave hL.1 hI hlen hl31 hsc (by omega) (by omega) hK)
      · exact x_tswIn (off := 751) (tgt := 791) dL_law_40 (by decide) (by decide) (by decide) (by decide) (by decide) (lw_bar hL.1 hI hlen hl31 hsc (by omega) (by omega) hK)
      · exact x_tswIn (off := 819) (tgt := 859) dL_law_40 (by decide) (by decide) (by decide) (by decide) (by decide) (lw_ship hL.1 hI hlen hl31 hsc (by omega) (by omega) hK)
      · exact x_tswIn (off := 887) (tgt := 927) dL_law_40 (by decide) (by decide) (by decide) (by decide) (by decide) (lw_height hL.1 hI hlen hl31 hsc (by omega) (by omega) hK)
      · exact x_tswIn (off := 943) (tgt := 983) dL_law_40 (by decide) (by decide) (by decide) (by decide) (by decide) (lw_peak hL.1 hI hlen hl31 hsc (by omega) (by omega) hK)
      · exact x_tswIn (off := 1023) (tgt := 1063) dL_law_40 (by decide) (by decide) (by decide) (by decide) (by decide) (lw_water hL.1 hI hlen hl31 hsc (by omega) (by omega) hK)
      · exact x_tswIn (off := 1091) (tgt := 1131) dL_law_40 (by decide) (by decide) (by decide) (by decide) (by decide) (lw_above hL.1 hI hlen hl31 hsc (by omega) (by omega) hK)
      · exact x_tswIn (off := 1183) (tgt := 1223) dL_law_40 (by decide) (by decide) (by decide) (by decide) (by decide) (lw_squat hL.1 hI hlen hl31 hsc (by omega) (by omega) hK)
      · exact x_tswIn (off := 1275) (tgt := 1315) dL_law_40 (by decide) (by decide) (by decide) (by decide) (by decide) (lw_left hL.1 hI hlen hl31 hsc (by omega) (by omega) hK)
      · exact x_tswIn (off := 1367) (tgt := 1407) dL_law_40 (by decide) (by decide) (by decide) (by decide) (by decide) (lw_fastest hL.1 hI hlen hl31 hsc (by omega) (by omega) hK)
      · exact x_tswIn (off := 1447) (tgt := 1487) dL_law_40 (by decide) (by decide) (by decide) (by decide) (by decide) (lw_window hL.1 hI hlen hl31 hsc (by omega) (by omega) hK)
      · exact x_tswIn (off := 1565) (tgt := 1605) dL_law_40 (by decide) (by decide) (by decide) (by decide) (by decide) (lw_joined hL.1 hI hlen hl31 hsc (by omega) (by omega) hK)
      · exact x_tswIn (off := 1669) (tgt := 1709) dL_law_40 (by decide) (by decide) (by decide) (by decide) (by decide) (lw_lasts hL.1 hI hlen hl31 hsc (by omega) (by omega) hK)
      · exact x_tswIn (off := 1737) (tgt := 1777) dL_law_40 (by decide) (by decide) (by decide) (by decide) (by decide) (lw_least hL.1 hI hlen hl31 hsc (by omega) (by omega) hK)
      · exact x_tswIn (off := 1817) (tgt := 1857) dL_law_40 (by decide) (by decide) (by decide) (by decide) (by decide) (lw_deepest hL.1 hI hlen hl31 hsc (by omega) (by omega) hK)
      · exact x_tswIn (off := 1897) (tgt := 1937) dL_law_40 (by decide) (by decide) (by decide) (by decide) (by decide) (lw_soonest hL.1 hI hlen hl31 hsc (by omega) (by omega) hK)
      · exact x_tswIn (off := 1965) (tgt := 2005) dL_law_40 (by decide) (by decide) (by decide) (by decide) (by decide) (lw_convoy hL.1 hI hlen hl31 hsc (by omega) (by omega) hK)
      · exact x_tswIn (off := 2045) (tgt := 2085) dL_law_40 (by decide) (by decide) (by decide) (by decide) (by decide) (lw_order hL.1 hI hlen hl31 hsc (by omega) (by omega) hK)
      · exact x_tswIn (off := 2137) (tgt := 2177) dL_law_40 (by decide) (by decide) (by decide) (by decide) (by decide) (lw_close hL.1 hI hlen hl31 hsc (by omega) (by omega) hK)
      · exact x_tswIn (off := 2217) (tgt := 2257) dL_law_40 (by decide) (by decide) (by decide) (by decide) (by decide) (lw_aground hL.1 hI hlen hl31 hsc (by omega) (by omega) hK)
      · exact x_tswIn (off := 2230) (tgt := 2270) dL_law_40 (by decide) (by decide) (by decide) (by decide) (by decide) (lw_print hL.1 hI hlen hl31 hsc (by omega) (by omega) hK)
      · exact x_tswIn (off := 2244) (tgt := 2284) dL_law_40 (by decide) (by decide) (by decide) (by decide) (by decide) (lw_status hL.1 hI hlen hl31 hsc (by omega) (by omega) hK)

end LL
