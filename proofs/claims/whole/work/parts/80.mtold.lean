section MJ
/-- what told tells -/
noncomputable def tdv (v : Nat → Int) (tp ac : Int) (x : Int) : Int := if x = 0 then v 3 else if x = 1 then v 4 else if x = 2 then v 5 else if x = 3 then v 0 else if x = 4 then v 1 else if x = 5 then v 2 else if x = 6 then ((cset (bk v) (v 5).toNat : Nat) : Int) else if x = 7 then tp else ac
theorem b_or0 : ∀ x : Nat, x < 64 → Int32.ofInt (x : Int) ||| Int32.ofInt 0 = Int32.ofInt (x : Int) := by decide +kernel
set_option maxRecDepth 20000 in
theorem told_6 {E : xE} {f : Nat → Nat} {D : Nat → Nat × Nat} {n : Nat} {m : xM} {P : xPo} {PX : xPx} {v : Nat → Int} (hv : vOk v) (hN : mN v m) (hK : P (some (vi ((cset (bk v) (v 5).toNat : Nat) : Int))) (gS f D n) m) :
    ∀ (j u : Nat), v 5 < (u : Int) + j → (u : Int) ≤ v 5 → xX E (("told", some .int, []), (2, 0, 0), P, PX) RX6 cX6_told 4 0 0 118 [(0, vr E 96), (2, vi ((cset (bk v) u : Nat) : Int)), (3, vi (u : Int))] [] (gS f D n) m := by
  have hv5 := hv.1.2.2.2.2.2.1
  intro j
  induction j with
  | zero => intro u h1 h2; omega
  | succ j ih =>
    intro u h1 h2
    refine x_iload_n dX6_told_118 rfl ?_
    refine x_aload_n dX6_told_119 rfl ?_
    refine x_getR (r := 98) fX6_17 dX6_told_120 rfl rfl ?_
    refine x_iconst dX6_told_123 ?_
    refine x_iald (j := 5) dX6_told_124 rfl rfl (show 5 < 709 by omega) (by omega) ?_
    refine x_top (hN 5 (by omega)) ?_
    refine x_icmp_ge (tgt := 152) dX6_told_125 (by decide) (by omega) (fun h125 => ?_) (fun h125 => ?_)
    · refine x_iload_n dX6_told_152 rfl ?_
      exact x_iret dX6_told_153  (by rw [show u = (v 5).toNat by omega]; exact hK)
    · have hu : (u : Int) < v 5 := by omega
      refine x_iload_n dX6_told_128 rfl ?_
      refine x_aload_n dX6_told_129 rfl ?_
      refine x_iload_n dX6_told_130 rfl ?_
      refine x_V1 mX6_309 dX6_told_131 rfl (s_misBooked hv hN hu ?_)
      refine x_if_eq (tgt := 143) dX6_told_134 (by decide) (zi_r _) (fun h134 => ?_) (fun h134 => ?_)
      · have hb := zi_0.mp h134
        refine x_iconst dX6_told_143 ?_
        refine x_ior (z := ((cset (bk v) u : Nat) : Int)) dX6_told_144 (b_or0 _ (cset_6 _ (by omega))) ?_
        refine x_istore_n dX6_told_145 ?_
        refine x_iinc dX6_told_146 rfl ?_
        refine x_goto (tgt := 118) dX6_told_149 (by decide) ?_
        exact x_loc (lv' := [(0, vr E 96), (2, vi ((cset (bk v) (u + 1) : Nat) : Int)), (3, vi ((u + 1 : Nat) : Int))]) ⟨rfl, xl_i rfl (by rw [cset_f hb]), xl_i rfl (by omega), trivial⟩ (ih (u + 1) (by omega) (by omega))
      · have hb := zi_1.mp h134
        refine x_iconst dX6_told_137 ?_
        refine x_iload_n dX6_told_138 rfl ?_
        refine x_ishl (z := ((2 ^ u : Nat) : Int)) dX6_told_139 (b_shl1 u (by omega)) ?_
        refine x_goto (tgt := 144) dX6_told_140 (by decide) ?_
        refine x_ior (z := ((cset (bk v) u + 2 ^ u : Nat) : Int)) dX6_told_144 (b_or u (by omega) _ (cset_b _ u)) ?_
        refine x_istore_n dX6_told_145 ?_
        refine x_iinc dX6_told_146 rfl ?_
        refine x_goto (tgt := 118) dX6_told_149 (by decide) ?_
        exact x_loc (lv' := [(0, vr E 96), (2, vi ((cset (bk v) (u + 1) : Nat) : Int)), (3, vi ((u + 1 : Nat) : Int))]) ⟨rfl, xl_i rfl (by rw [cset_t hb]), xl_i rfl (by omega), trivial⟩ (ih (u + 1) (by omega) (by omega))

set_option maxRecDepth 20000 in
theorem s_mtold {E : xE} {f : Nat → Nat} {D : Nat → Nat × Nat} {n : Nat} {m : xM} {P : xPo} {PX : xPx} {v : Nat → Int} {x : Int} (hv : vOk v) (hN : mN v m) (hx : -2147483648 ≤ x ∧ x ≤ 2147483647) (hP : ∀ m' r, moR (rf1 (0 ≤ x ∧ x ≤ 8) 1) (0 ≤ x ∧ x ≤ 8) (fun r => r = tdv v (m 96 8) (m 96 5) x) [] m m' r → P (some (vi r)) (gS f D n) m') : xC E (yX6_told, cX6_told, 4, some .int) 2 0 0 [vr E 96, vi x] (gS f D n) m P PX := by
  refine x_enter (by decide) rfl rfl (Nat.le_of_ble_eq_true rfl) ?_
  have hv5 := hv.1.2.2.2.2.2.1
  have hv4 := hv.1.2.2.2.2.1.1
  have hv3 := hv.1.2.2.2.1.1
  refine x_aload_n dX6_told_0 rfl ?_
  refine x_iconst dX6_told_1 ?_
  refine x_putI fX6_1 dX6_told_2 rfl (by decide) rfl rfl ?_
  refine x_aload_n dX6_told_5 rfl ?_
  refine x_iload_n dX6_told_6 rfl ?_
  refine x_i2l dX6_told_7 (by omega) ?_
  refine x_lconst0 dX6_told_8 ?_
  refine x_ldc2_w kX6_328 dX6_told_9 ?_
  refine x_S3 mX6_122 dX6_told_12 (s_lies (by omega) ?_)
  refine x_iconst dX6_told_15 ?_
  refine x_iconst dX6_told_16 ?_
  refine x_V3 mX6_196 dX6_told_17 rfl (s_isFine (p := 0 ≤ x ∧ x ≤ 8) (c := 1) (k := 1) th_0 (by omega) (by omega) (fun m1 r1 hf1 => ?_))
  refine x_if_ne (tgt := 25) dX6_told_20 (by decide) hf1.r (fun h20 => ?_) (fun h20 => ?_)
  · obtain ⟨hp1, rfl⟩ := hf1.t h20
    refine x_iload_n dX6_told_25 rfl ?_
    rcases (by omega : x = 0 ∨ x = 1 ∨ x = 2 ∨ x = 3 ∨ x = 4 ∨ x = 5 ∨ x = 6 ∨ x = 7 ∨ x = 8) with rfl | rfl | rfl | rfl | rfl | rfl | rfl | rfl | rfl
    · refine x_tswIn (off := 46) (tgt := 72) dX6_told_26 (by decide) (by decide) (by decide) (by decide) (by decide) ?_
      refine x_aload_n dX6_told_72 rfl ?_
      refine x_getR (r := 98) fX6_17 dX6_told_73 rfl rfl ?_
      refine x_iconst dX6_told_76 ?_
      refine x_iald (j := 3) dX6_told_77 rfl rfl (show 3 < 709 by omega) (by omega) ?_
      refine x_top (hN.z 3 (by omega)) ?_
      exact x_iret dX6_told_78  (hP _ _ (Or.inr ⟨hp1, rfl, ag.rf⟩))
    · refine x_tswIn (off := 53) (tgt := 79) dX6_told_26 (by decide) (by decide) (by decide) (by decide) (by decide) ?_
      refine x_aload_n dX6_told_79 rfl ?_
      refine x_getR (r := 98) fX6_17 dX6_told_80 rfl rfl ?_
      refine x_iconst dX6_told_83 ?_
      refine x_iald (j := 4) dX6_told_84 rfl rfl (show 4 < 709 by omega) (by omega) ?_
      refine x_top (hN.z 4 (by omega)) ?_
      exact x_iret dX6_told_85  (hP _ _ (Or.inr ⟨hp1, rfl, ag.rf⟩))
    · refine x_tswIn (off := 60) (tgt := 86) dX6_told_26 (by decide) (by decide) (by decide) (by decide) (by decide) ?_
      refine x_aload_n dX6_told_86 rfl ?_
      refine x_getR (r := 98) fX6_17 dX6_told_87 rfl rfl ?_
      refine x_iconst dX6_told_90 ?_
      refine x_iald (j := 5) dX6_told_91 rfl rfl (show 5 < 709 by omega) (by omega) ?_
      refine x_top (hN.z 5 (by omega)) ?_
      exact x_iret dX6_told_92  (hP _ _ (Or.inr ⟨hp1, rfl, ag.rf⟩))
    · refine x_tswIn (off := 67) (tgt := 93) dX6_told_26 (by decide) (by decide) (by decide) (by decide) (by decide) ?_
      refine x_aload_n dX6_told_93 rfl ?_
      refine x_getR (r := 98) fX6_17 dX6_told_94 rfl rfl ?_
      refine x_iconst dX6_told_97 ?_
      refine x_iald (j := 0) dX6_told_98 rfl rfl (show 0 < 709 by omega) (by omega) ?_
      refine x_top (hN.z 0 (by omega)) ?_
      exact x_iret dX6_told_99  (hP _ _ (Or.inr ⟨hp1, rfl, ag.rf⟩))
    · refine x_tswIn (off := 74) (tgt := 100) dX6_told_26 (by decide) (by decide) (by decide) (by decide) (by decide) ?_
      refine x_aload_n dX6_told_100 rfl ?_
      refine x_getR (r := 98) fX6_17 dX6_told_101 rfl rfl ?_
      refine x_iconst dX6_told_104 ?_
      refine x_iald (j := 1) dX6_told_105 rfl rfl (show 1 < 709 by omega) (by omega) ?_
      refine x_top (hN.z 1 (by omega)) ?_
      exact x_iret dX6_told_106  (hP _ _ (Or.inr ⟨hp1, rfl, ag.rf⟩))
    · refine x_tswIn (off := 81) (tgt := 107) dX6_told_26 (by decide) (by decide) (by decide) (by decide) (by decide) ?_
      refine x_aload_n dX6_told_107 rfl ?_
      refine x_getR (r := 98) fX6_17 dX6_told_108 rfl rfl ?_
      refine x_iconst dX6_told_111 ?_
      refine x_iald (j := 2) dX6_told_112 rfl rfl (show 2 < 709 by omega) (by omega) ?_
      refine x_top (hN.z 2 (by omega)) ?_
      exact x_iret dX6_told_113  (hP _ _ (Or.inr ⟨hp1, rfl, ag.rf⟩))
    · refine x_tswIn (off := 88) (tgt := 114) dX6_told_26 (by decide) (by decide) (by decide) (by decide) (by decide) ?_
      refine x_iconst dX6_told_114 ?_
      refine x_istore_n dX6_told_115 ?_
      refine x_iconst dX6_told_116 ?_
      refine x_istore_n dX6_told_117 ?_
      exact x_loc (lv' := [(0, vr E 96), (2, vi ((cset (bk v) 0 : Nat) : Int)), (3, vi ((0 : Nat) : Int))]) ⟨rfl, rfl, rfl, trivial⟩ (told_6 hv hN.z (hP _ _ (Or.inr ⟨hp1, rfl, ag.rf⟩)) 7 0 (by omega) (by omega))
    · refine x_tswIn (off := 128) (tgt := 154) dX6_told_26 (by decide) (by decide) (by decide) (by decide) (by decide) ?_
      refine x_aload_n dX6_told_154 rfl ?_
      refine x_getI fX6_65 dX6_told_155 rfl ?_
      refine x_top (show xu m 96 0 0 96 8 = m 96 8 by rw [xu_if, if_neg (by omega)]) ?_
      exact x_iret dX6_told_158  (hP _ _ (Or.inr ⟨hp1, rfl, ag.rf⟩))
    · refine x_tswOut (tgt := 159) dX6_told_26 (by decide) (by decide) (by decide) ?_
      refine x_aload_n dX6_told_159 rfl ?_
      refine x_getI fX6_62 dX6_told_160 rfl ?_
      refine x_top (show xu m 96 0 0 96 5 = m 96 5 by rw [xu_if, if_neg (by omega)]) ?_
      exact x_iret dX6_told_163  (hP _ _ (Or.inr ⟨hp1, rfl, ag.rf⟩))
  · obtain ⟨hp1, rfl⟩ := hf1.f h20
    refine x_iconst dX6_told_23 ?_
    exact x_iret dX6_told_24  (hP _ 0 (Or.inl ⟨1, _, ⟨hp1, rfl, rfl⟩, rfl⟩))

end MJ
