section MFM
/-- the reader of the model beside the pure one -/
def moO (r : Nat → Int) (m : xM) : Prop := (∀ k, k < 709 → m 99 k = r k) ∧ m 96 16 = r 900 + 2 * r 901 + 4 * r 902
def MR (q : Nat → Int) (N : Nat) (X : pX) (m : xM) : Prop := lM q N X m ∧ (X.1 = 0 → moO X.2.2.2 m)
/-- what a reading may change in the model -/
def frM (m m' : xM) : Prop := ag [96, 99] m m' ∧ ∀ j, j ∉ [10, 11, 12, 14, 15, 16] → m' 96 j = m 96 j
theorem frM.rf {m : xM} : frM m m := ⟨ag.rf, fun _ _ => rfl⟩
theorem frM.tr {m m' m'' : xM} (h : frM m m') (h2 : frM m' m'') : frM m m'' := ⟨h.1.tr1 h2.1, fun j hj => (h2.2 j hj).trans (h.2 j hj)⟩
theorem frM.cg {m m' : xM} {J : List Nat} (h : cg 96 J m m') (hJ : ∀ j ∈ J, j ∈ [10, 11, 12, 14, 15, 16]) : frM m m' := ⟨h.1.wk (by decide), fun j hj => h.2 j (fun z => hj (hJ j z))⟩
theorem frM.u9 {m m' : xM} {k : Nat} {z : Int} (h : frM m m') : frM m (xu m' 99 k z) := ⟨h.1.u (by decide), fun j hj => by rw [xu_ne (by decide)]; exact h.2 j hj⟩
section A
variable {q : Nat → Int} {N : Nat} {X X' : pX} {m m' : xM}
theorem MR.leaf (h : MR q N X m) (hS : lM q N X' m') (hc : cg 96 [10, 11, 12, 14] m m') (hr : X'.2.2.2 = X.2.2.2) (h0 : X'.1 = 0 → X.1 = 0) : MR q N X' m' := ⟨hS, fun z => by rw [hr]; exact ⟨fun k hk => by rw [hc.1 99 (by decide)]; exact (h.2 (h0 z)).1 k hk, by rw [hc.2 16 (by decide)]; exact (h.2 (h0 z)).2⟩⟩
theorem MR.st (h : MR q N X m) {k : Nat} (hk : k < 709) {z z' : Int} (hz : X.1 = 0 → z' = z) : MR q N (pset k z X) (xu m 99 k z') := by
  refine ⟨(h.1.mv (S := [99]) (ag.u ag.rf (by decide)) (by decide) (by decide)).c rfl rfl rfl, fun hX => ⟨fun i hi => ?_, ?_⟩⟩
  · by_cases e : i = k
    · subst e; rw [xu_s, pset_eq]; exact hz hX
    · rw [xu_n (Or.inr e), pset_ne e]; exact (h.2 hX).1 i hi
  · rw [xu_ne (by decide), pset_ne (by omega), pset_ne (by omega), pset_ne (by omega)]; exact (h.2 hX).2
theorem MR.op (h : MR q N X m) {z : Int} : MR q N X (xu m 96 15 z) := ⟨h.1.kp (J := [15]) (cg.rf.u (by decide)) (by decide) (by decide) (by decide) (by decide) (by decide), fun hX => ⟨fun i hi => by rw [xu_ne (by decide)]; exact (h.2 hX).1 i hi, by rw [xu_n (Or.inr (by decide))]; exact (h.2 hX).2⟩⟩
theorem MR.cd (h : MR q N X m) {k : Nat} {z z' : Int} (hk : m 99 108 = (k : Int)) (hk6 : k < 600) (hz : X.1 = 0 → z' = z) : MR q N (pcd z X) (xu (xu m 99 (109 + k) z') 99 108 ((k + 1 : Nat) : Int)) := by
  by_cases h0 : X.1 = 0
  · have e : X.2.2.2 108 = (k : Int) := by rw [← (h.2 h0).1 108 (by omega)]; exact hk
    have h1 : MR q N (pset (109 + k) z X) (xu m 99 (109 + k) z') := h.st (by omega) hz
    have h2 := h1.st (k := 108) (z := X.2.2.2 108 + 1) (z' := ((k + 1 : Nat) : Int)) (by omega) (fun _ => by rw [e]; omega)
    unfold pcd
    rw [e, Int.toNat_natCast]
    rw [e] at h2
    exact h2
  · exact ⟨((h.1.mv (S := [99]) (m' := xu m 99 (109 + k) z') (ag.u ag.rf (by decide)) (by decide) (by decide)).mv (S := [99]) (ag.u ag.rf (by decide)) (by decide) (by decide)).c rfl rfl rfl, fun z => absurd z h0⟩
def slq (N s : Nat) (X : pX) : Prop := X.2.2.1 ≤ N ∧ 0 ≤ X.2.2.2 108 ∧ X.2.2.2 108 + N + s ≤ 600 + X.2.2.1
theorem slq.to {s : Nat} (h : slq N s X) {k : Nat} (hc : cP N k X X') (h0 : X'.1 = 0) : slq N (s + k) X' := by
  obtain ⟨x, p1, p2, p3, p4⟩ := hc h0
  obtain ⟨s1, s2, s3⟩ := h
  exact ⟨p2, by omega, by omega⟩
theorem lp_h {Y Z : pX} {j k : Nat} (h : 600 ≤ j + 1 + Y.2.2.1) (w : cP N (1 + k) Y Z) (z : Z.1 = 0) : 600 ≤ j + Z.2.2.1 := by
  obtain ⟨-, w1, -, w3, w4⟩ := w z
  omega
theorem pskip_e (h : N ≤ X.2.2.1) : pskip q N X = X := by
  by_cases e : X.1 = 0
  · rw [pskip_0 e, skp_e (by omega)]; rfl
  · exact pskip_n e
theorem psT_e {c : Int} (hN : X.2.2.1 ≤ N) (h : N ≤ X.2.2.1) : ¬ psT q N c X := fun z => by
  have := z.2.1
  rw [skp_e (by omega)] at this
  omega
end A
/-- the contracts of a unit, a product, a sum in the model -/
def uM (E : xE) (f : Nat → Nat) (D : Nat → Nat × Nat) (n : Nat) (q : Nat → Int) (N : Nat) (y : MethodName) (cy : ByteArray) (ml dd k : Nat) (S : pX → pX) : Prop :=
  ∀ (X : pX) (m : xM) (P : xPo) (PX : xPx) (s : Nat), X.1 = 0 → 2 ≤ s → slq N s X → MR q N X m → m 96 15 = 4 - (k : Int) → (∀ m', frM m m' → m' 96 15 = m 96 15 → MR q N (S X) m' → ((S X).1 ≠ 0 → 0 ≤ m' 99 108 ∧ m' 99 108 + s ≤ 601) → P none (gS f D n) m') → xC E (y, cy, ml, none) dd 0 0 [vr E 96] (gS f D n) m P PX
set_option maxRecDepth 20000 in
theorem s_productRead {E : xE} {f : Nat → Nat} {D : Nat → Nat × Nat} {n : Nat} {q : Nat → Int} {N : Nat} {k : Nat} (hU : uM E f D n q N yX6_partRead cX6_partRead 3 (6 + 3 * k) k (pun q N k)) (hcS : ∀ X : pX, X.1 = 0 → X.2.2.1 ≤ N → cP N 0 X ((pun q N k) X)) : uM E f D n q N yX6_productRead cX6_productRead 2 (7 + 3 * k) k (ppr q N (pun q N k)) := by
  intro X m P PX s hX hs2 hsk0 hR0 h150 hP
  refine x_enter (by decide) rfl rfl (Nat.le_of_ble_eq_true rfl) ?_
  have loop : ∀ (j : Nat) (Y : pX) (m5 : xM), MR q N Y m5 → (Y.1 = 0 → slq N s Y) → (Y.1 = 0 → 600 ≤ j + Y.2.2.1) → plp q N 42 47 (-13) (-14) (pun q N k) j Y = ppr q N (pun q N k) X → (Y.1 ≠ 0 → 0 ≤ m5 99 108 ∧ m5 99 108 + s ≤ 601) → frM m m5 → m5 96 15 = 4 - (k : Int) → xX E (("productRead", none, []), (7 + 3 * k, 0, 0), P, PX) RX6 cX6_productRead 2 0 0 4 [(0, vr E 96)] [] (gS f D n) m5 := by
    intro j
    induction j with
    | zero =>
      intro Y m5 hR hsl hfu hfin hcb hfr h15
      refine x_aload_n dX6_productRead_4 rfl ?_
      refine x_getI fX6_72 dX6_productRead_5 rfl ?_
      refine x_top (hR.1.2.2.1) ?_
      refine x_if_ne (tgt := 58) dX6_productRead_8 (by decide) (by have := hR.1.2.2.2.2.1; omega) (fun h8 => ?_) (fun h8 => ?_)
      · have h0 : Y.1 ≠ 0 := by omega
        exact x_vret dX6_productRead_58 (hP m5 hfr (h15.trans h150.symm) (by rw [← hfin]; exact hR) (fun z => hcb h0))
      · have h0 : Y.1 = 0 := by omega
        refine x_aload_n dX6_productRead_11 rfl ?_
        refine x_bipush dX6_productRead_12 (h := ?_)
        refine x_V1 mX6_129 dX6_productRead_14 rfl (s_passesSign (by omega) hR.1 (fun m1 hc1 hS1 => ?_)) (hdp := by omega)
        have hR1 : MR q N (psX q N 42 Y) m1 := hR.leaf hS1 (hc1.wk (by decide)) psX_r (fun z => psX_0.symm.trans z)
        have hf1 : frM m5 m1 := frM.cg hc1 (by decide)
        have hf15 : m1 96 15 = m5 96 15 := hc1.2 15 (by decide)
        have hy1 : ¬ psT q N 42 Y := psT_e (hsl h0).1 (by have := hfu h0; have := hR.1.2.2.2.2.2.1; omega)
        have hy2 : ¬ psT q N 47 Y := psT_e (hsl h0).1 (by have := hfu h0; have := hR.1.2.2.2.2.2.1; omega)
        refine x_if_eq (tgt := 25) dX6_productRead_17 (by decide) (zi_r _) (fun h17 => ?_) (fun h17 => absurd (zi_f (psT_e (hsl h0).1 (by have := hfu h0; have := hR.1.2.2.2.2.2.1; omega))) h17)
        rw [psX_f hy1] at hS1
        refine x_aload_n dX6_productRead_25 rfl ?_
        refine x_bipush dX6_productRead_26 (h := ?_)
        refine x_V1 mX6_129 dX6_productRead_28 rfl (s_passesSign (by omega) hS1 (fun m2 hc2 hS2 => ?_)) (hdp := by omega)
        rw [psX_s h0 (hsl h0).1] at hS2
        have hR2 : MR q N (psX q N 47 Y) m2 := hR1.leaf hS2 (hc2.wk (by decide)) (psX_r.trans psX_r.symm) (fun z => psX_0.trans (psX_0.symm.trans z))
        have hf2 : frM m5 m2 := hf1.tr (frM.cg hc2 (by decide))
        have hf25 : m2 96 15 = m5 96 15 := (hc2.2 15 (by decide)).trans hf15
        refine x_if_eq (tgt := 39) dX6_productRead_31 (by decide) (zi_r _) (fun h31 => ?_) (fun h31 => absurd (zi_f (fun z => psT_e (hsl h0).1 (by have := hfu h0; have := hR.1.2.2.2.2.2.1; omega) ((psT_s h0 (hsl h0).1).mp z))) h31)
        refine x_iconst dX6_productRead_39 ?_
        refine x_istore_n dX6_productRead_40 ?_
        refine x_iload_n dX6_productRead_41 rfl ?_
        refine x_if_ne (tgt := 46) dX6_productRead_42 (by decide) (by omega) (fun h42 => absurd h42 (by omega)) (fun h42 => ?_)
        exact x_vret dX6_productRead_45 (hP m2 (hfr.tr hf2) (hf25.trans (h15.trans h150.symm)) (by rw [← hfin]; show MR q N Y m2; rw [psX_f hy2, pskip_e (by have := hfu h0; have := hR.1.2.2.2.2.2.1; omega)] at hR2; exact hR2) (fun z => absurd (by rw [← hfin]; exact h0) z))
    | succ j ih =>
      intro Y m5 hR hsl hfu hfin hcb hfr h15
      refine x_aload_n dX6_productRead_4 rfl ?_
      refine x_getI fX6_72 dX6_productRead_5 rfl ?_
      refine x_top (hR.1.2.2.1) ?_
      refine x_if_ne (tgt := 58) dX6_productRead_8 (by decide) (by have := hR.1.2.2.2.2.1; omega) (fun h8 => ?_) (fun h8 => ?_)
      · have h0 : Y.1 ≠ 0 := by omega
        exact x_vret dX6_productRead_58 (hP m5 hfr (h15.trans h150.symm) (by rw [← hfin, plp_n h0]; exact hR) (fun z => hcb h0))
      · have h0 : Y.1 = 0 := by omega
        refine x_aload_n dX6_productRead_11 rfl ?_
        refine x_bipush dX6_productRead_12 (h := ?_)
        refine x_V1 mX6_129 dX6_productRead_14 rfl (s_passesSign (by omega) hR.1 (fun m1 hc1 hS1 => ?_)) (hdp := by omega)
        have hR1 : MR q N (psX q N 42 Y) m1 := hR.leaf hS1 (hc1.wk (by decide)) psX_r (fun z => psX_0.symm.trans z)
        have hf1 : frM m5 m1 := frM.cg hc1 (by decide)
        have hf15 : m1 96 15 = m5 96 15 := hc1.2 15 (by decide)
        refine x_if_eq (tgt := 25) dX6_productRead_17 (by decide) (zi_r _) (fun h17 => ?_) (fun h17 => ?_)
        · have hy1 := zi_0.mp h17
          rw [psX_f hy1] at hS1
          refine x_aload_n dX6_productRead_25 rfl ?_
          refine x_bipush dX6_productRead_26 (h := ?_)
          refine x_V1 mX6_129 dX6_productRead_28 rfl (s_passesSign (by omega) hS1 (fun m2 hc2 hS2 => ?_)) (hdp := by omega)
          rw [psX_s h0 (hsl h0).1] at hS2
          have hR2 : MR q N (psX q N 47 Y) m2 := hR1.leaf hS2 (hc2.wk (by decide)) (psX_r.trans psX_r.symm) (fun z => psX_0.trans (psX_0.symm.trans z))
          have hf2 : frM m5 m2 := hf1.tr (frM.cg hc2 (by decide))
          have hf25 : m2 96 15 = m5 96 15 := (hc2.2 15 (by decide)).trans hf15
          refine x_if_eq (tgt := 39) dX6_productRead_31 (by decide) (zi_r _) (fun h31 => ?_) (fun h31 => ?_)
          · have hy2 := fun z => zi_0.mp h31 ((psT_s h0 (hsl h0).1).mpr z)
            refine x_iconst dX6_productRead_39 ?_
            refine x_istore_n dX6_productRead_40 ?_
            refine x_iload_n dX6_productRead_41 rfl ?_
            refine x_if_ne (tgt := 46) dX6_productRead_42 (by decide) (by omega) (fun h42 => absurd h42 (by omega)) (fun h42 => ?_)
            exact x_vret dX6_productRead_45 (hP m2 (hfr.tr hf2) (hf25.trans (h15.trans h150.symm)) (by rw [← hfin, plp_3 h0 hy1 hy2, ← psX_f hy2]; exact hR2) (fun z => absurd (by rw [← hfin, plp_3 h0 hy1 hy2]; exact pskip_1.trans h0) z))
          · have hy2 := (psT_s h0 (hsl h0).1).mp (zi_1.mp h31)
            refine x_bipush dX6_productRead_34 (h := ?_)
            refine x_goto (tgt := 40) dX6_productRead_36 (by decide) ?_
            refine x_istore_n dX6_productRead_40 ?_
            refine x_iload_n dX6_productRead_41 rfl ?_
            refine x_if_ne (tgt := 46) dX6_productRead_42 (by decide) (by omega) (fun h42 => ?_) (fun h42 => absurd h42 (by omega))
            refine x_aload_n dX6_productRead_46 rfl ?_
            refine x_V0 mX6_135 dX6_productRead_47 rfl (hU (psX q N 47 Y) m2 _ _ (s + 1) (psX_0.trans h0) (by omega) ((hsl h0).to (psX_c hy2 (hsl h0).1) (psX_0.trans h0)) hR2 (by rw [hf25]; exact h15) (fun m3 hf3 h315 hR3 hb3 => ?_)) (hdp := by omega)
            have hcU := hcS (psX q N 47 Y) (psX_0.trans h0) ((hsl h0).to (psX_c hy2 (hsl h0).1) (psX_0.trans h0)).1
            have hsS := fun z => ((hsl h0).to (psX_c hy2 (hsl h0).1) (psX_0.trans h0)).to hcU z
            have hcnt : 0 ≤ m3 99 108 ∧ m3 99 108 + (s + 1 : Nat) ≤ 601 := by
              by_cases z : ((pun q N k) (psX q N 47 Y)).1 = 0
              · rw [(hR3.2 z).1 108 (by omega)]; have w := hsS z; have := w.1; have := w.2.1; have := w.2.2; omega
              · exact hb3 z
            obtain ⟨kk, hkk⟩ : ∃ kk : Nat, m3 99 108 = (kk : Int) := ⟨(m3 99 108).toNat, by omega⟩
            refine x_aload_n dX6_productRead_50 rfl ?_
            refine x_iload_n dX6_productRead_51 rfl ?_
            refine x_V1 mX6_132 dX6_productRead_52 rfl (s_code hkk (by omega) ?_) (hdp := by omega)
            have hR4 : MR q N (pcd (-14) ((pun q N k) (psX q N 47 Y))) _ := hR3.cd hkk (by omega) (fun _ => rfl)
            refine x_goto (tgt := 4) dX6_productRead_55 (by decide) ?_
            exact x_loc (lv' := [(0, vr E 96)]) ⟨rfl, trivial⟩ (ih _ _ hR4 (fun z => ((hsl h0).to (cP.cd (a := 0) (((psX_c hy2 (hsl h0).1).tr hcU).wk (by omega))) z)) (fun z => lp_h (Z := (pun q N k) (psX q N 47 Y)) (hfu h0) ((psX_c hy2 (hsl h0).1).tr hcU) z) (by rw [← hfin, plp_2 hy1 hy2]) (fun z => by rw [xu_s]; omega) ((hfr.tr (hf2.tr hf3)).u9.u9) (by rw [xu_ne (by decide), xu_ne (by decide), h315, hf25]; exact h15))
        · have hy1 := zi_1.mp h17
          refine x_bipush dX6_productRead_20 (h := ?_)
          refine x_goto (tgt := 40) dX6_productRead_22 (by decide) ?_
          refine x_istore_n dX6_productRead_40 ?_
          refine x_iload_n dX6_productRead_41 rfl ?_
          refine x_if_ne (tgt := 46) dX6_productRead_42 (by decide) (by omega) (fun h42 => ?_) (fun h42 => absurd h42 (by omega))
          refine x_aload_n dX6_productRead_46 rfl ?_
          refine x_V0 mX6_135 dX6_productRead_47 rfl (hU (psX q N 42 Y) m1 _ _ (s + 1) (psX_0.trans h0) (by omega) ((hsl h0).to (psX_c hy1 (hsl h0).1) (psX_0.trans h0)) hR1 (by rw [hf15]; exact h15) (fun m3 hf3 h315 hR3 hb3 => ?_)) (hdp := by omega)
          have hcU := hcS (psX q N 42 Y) (psX_0.trans h0) ((hsl h0).to (psX_c hy1 (hsl h0).1) (psX_0.trans h0)).1
          have hsS := fun z => ((hsl h0).to (psX_c hy1 (hsl h0).1) (psX_0.trans h0)).to hcU z
          have hcnt : 0 ≤ m3 99 108 ∧ m3 99 108 + (s + 1 : Nat) ≤ 601 := by
            by_cases z : ((pun q N k) (psX q N 42 Y)).1 = 0
            · rw [(hR3.2 z).1 108 (by omega)]; have w := hsS z; have := w.1; have := w.2.1; have := w.2.2; omega
            · exact hb3 z
          obtain ⟨kk, hkk⟩ : ∃ kk : Nat, m3 99 108 = (kk : Int) := ⟨(m3 99 108).toNat, by omega⟩
          refine x_aload_n dX6_productRead_50 rfl ?_
          refine x_iload_n dX6_productRead_51 rfl ?_
          refine x_V1 mX6_132 dX6_productRead_52 rfl (s_code hkk (by omega) ?_) (hdp := by omega)
          have hR4 : MR q N (pcd (-13) ((pun q N k) (psX q N 42 Y))) _ := hR3.cd hkk (by omega) (fun _ => rfl)
          refine x_goto (tgt := 4) dX6_productRead_55 (by decide) ?_
          exact x_loc (lv' := [(0, vr E 96)]) ⟨rfl, trivial⟩ (ih _ _ hR4 (fun z => ((hsl h0).to (cP.cd (a := 0) (((psX_c hy1 (hsl h0).1).tr hcU).wk (by omega))) z)) (fun z => lp_h (Z := (pun q N k) (psX q N 42 Y)) (hfu h0) ((psX_c hy1 (hsl h0).1).tr hcU) z) (by rw [← hfin, plp_1 hy1]) (fun z => by rw [xu_s]; omega) ((hfr.tr (hf1.tr hf3)).u9.u9) (by rw [xu_ne (by decide), xu_ne (by decide), h315, hf15]; exact h15))
  refine x_aload_n dX6_productRead_0 rfl ?_
  refine x_V0 mX6_135 dX6_productRead_1 rfl (hU X m _ _ s hX hs2 hsk0 hR0 h150 (fun m1 hf1 h115 hR1 hb1 => ?_)) (hdp := by omega)
  exact loop 600 _ m1 hR1 (fun z => (hsk0.to (hcS X hX hsk0.1) z)) (fun _ => by omega) rfl hb1 hf1 (h115.trans h150)

set_option maxRecDepth 20000 in
theorem s_sumRead {E : xE} {f : Nat → Nat} {D : Nat → Nat × Nat} {n : Nat} {q : Nat → Int} {N : Nat} {k : Nat} (hU : uM E f D n q N yX6_productRead cX6_productRead 2 (7 + 3 * k) k (ppr q N (pun q N k))) (hcS : ∀ X : pX, X.1 = 0 → X.2.2.1 ≤ N → cP N 0 X ((ppr q N (pun q N k)) X)) : uM E f D n q N yX6_sumRead cX6_sumRead 2 (8 + 3 * k) k (psm q N (pun q N k)) := by
  intro X m P PX s hX hs2 hsk0 hR0 h150 hP
  refine x_enter (by decide) rfl rfl (Nat.le_of_ble_eq_true rfl) ?_
  have loop : ∀ (j : Nat) (Y : pX) (m5 : xM), MR q N Y m5 → (Y.1 = 0 → slq N s Y) → (Y.1 = 0 → 600 ≤ j + Y.2.2.1) → plp q N 43 45 (-11) (-12) (ppr q N (pun q N k)) j Y = psm q N (pun q N k) X → (Y.1 ≠ 0 → 0 ≤ m5 99 108 ∧ m5 99 108 + s ≤ 601) → frM m m5 → m5 96 15 = 4 - (k : Int) → xX E (("sumRead", none, []), (8 + 3 * k, 0, 0), P, PX) RX6 cX6_sumRead 2 0 0 4 [(0, vr E 96)] [] (gS f D n) m5 := by
    intro j
    induction j with
    | zero =>
      intro Y m5 hR hsl hfu hfin hcb hfr h15
      refine x_aload_n dX6_sumRead_4 rfl ?_
      refine x_getI fX6_72 dX6_sumRead_5 rfl ?_
      refine x_top (hR.1.2.2.1) ?_
      refine x_if_ne (tgt := 58) dX6_sumRead_8 (by decide) (by have := hR.1.2.2.2.2.1; omega) (fun h8 => ?_) (fun h8 => ?_)
      · have h0 : Y.1 ≠ 0 := by omega
        exact x_vret dX6_sumRead_58 (hP m5 hfr (h15.trans h150.symm) (by rw [← hfin]; exact hR) (fun z => hcb h0))
      · have h0 : Y.1 = 0 := by omega
        refine x_aload_n dX6_sumRead_11 rfl ?_
        refine x_bipush dX6_sumRead_12 (h := ?_)
        refine x_V1 mX6_129 dX6_sumRead_14 rfl (s_passesSign (by omega) hR.1 (fun m1 hc1 hS1 => ?_)) (hdp := by omega)
        have hR1 : MR q N (psX q N 43 Y) m1 := hR.leaf hS1 (hc1.wk (by decide)) psX_r (fun z => psX_0.symm.trans z)
        have hf1 : frM m5 m1 := frM.cg hc1 (by decide)
        have hf15 : m1 96 15 = m5 96 15 := hc1.2 15 (by decide)
        have hy1 : ¬ psT q N 43 Y := psT_e (hsl h0).1 (by have := hfu h0; have := hR.1.2.2.2.2.2.1; omega)
        have hy2 : ¬ psT q N 45 Y := psT_e (hsl h0).1 (by have := hfu h0; have := hR.1.2.2.2.2.2.1; omega)
        refine x_if_eq (tgt := 25) dX6_sumRead_17 (by decide) (zi_r _) (fun h17 => ?_) (fun h17 => absurd (zi_f (psT_e (hsl h0).1 (by have := hfu h0; have := hR.1.2.2.2.2.2.1; omega))) h17)
        rw [psX_f hy1] at hS1
        refine x_aload_n dX6_sumRead_25 rfl ?_
        refine x_bipush dX6_sumRead_26 (h := ?_)
        refine x_V1 mX6_129 dX6_sumRead_28 rfl (s_passesSign (by omega) hS1 (fun m2 hc2 hS2 => ?_)) (hdp := by omega)
        rw [psX_s h0 (hsl h0).1] at hS2
        have hR2 : MR q N (psX q N 45 Y) m2 := hR1.leaf hS2 (hc2.wk (by decide)) (psX_r.trans psX_r.symm) (fun z => psX_0.trans (psX_0.symm.trans z))
        have hf2 : frM m5 m2 := hf1.tr (frM.cg hc2 (by decide))
        have hf25 : m2 96 15 = m5 96 15 := (hc2.2 15 (by decide)).trans hf15
        refine x_if_eq (tgt := 39) dX6_sumRead_31 (by decide) (zi_r _) (fun h31 => ?_) (fun h31 => absurd (zi_f (fun z => psT_e (hsl h0).1 (by have := hfu h0; have := hR.1.2.2.2.2.2.1; omega) ((psT_s h0 (hsl h0).1).mp z))) h31)
        refine x_iconst dX6_sumRead_39 ?_
        refine x_istore_n dX6_sumRead_40 ?_
        refine x_iload_n dX6_sumRead_41 rfl ?_
        refine x_if_ne (tgt := 46) dX6_sumRead_42 (by decide) (by omega) (fun h42 => absurd h42 (by omega)) (fun h42 => ?_)
        exact x_vret dX6_sumRead_45 (hP m2 (hfr.tr hf2) (hf25.trans (h15.trans h150.symm)) (by rw [← hfin]; show MR q N Y m2; rw [psX_f hy2, pskip_e (by have := hfu h0; have := hR.1.2.2.2.2.2.1; omega)] at hR2; exact hR2) (fun z => absurd (by rw [← hfin]; exact h0) z))
    | succ j ih =>
      intro Y m5 hR hsl hfu hfin hcb hfr h15
      refine x_aload_n dX6_sumRead_4 rfl ?_
      refine x_getI fX6_72 dX6_sumRead_5 rfl ?_
      refine x_top (hR.1.2.2.1) ?_
      refine x_if_ne (tgt := 58) dX6_sumRead_8 (by decide) (by have := hR.1.2.2.2.2.1; omega) (fun h8 => ?_) (fun h8 => ?_)
      · have h0 : Y.1 ≠ 0 := by omega
        exact x_vret dX6_sumRead_58 (hP m5 hfr (h15.trans h150.symm) (by rw [← hfin, plp_n h0]; exact hR) (fun z => hcb h0))
      · have h0 : Y.1 = 0 := by omega
        refine x_aload_n dX6_sumRead_11 rfl ?_
        refine x_bipush dX6_sumRead_12 (h := ?_)
        refine x_V1 mX6_129 dX6_sumRead_14 rfl (s_passesSign (by omega) hR.1 (fun m1 hc1 hS1 => ?_)) (hdp := by omega)
        have hR1 : MR q N (psX q N 43 Y) m1 := hR.leaf hS1 (hc1.wk (by decide)) psX_r (fun z => psX_0.symm.trans z)
        have hf1 : frM m5 m1 := frM.cg hc1 (by decide)
        have hf15 : m1 96 15 = m5 96 15 := hc1.2 15 (by decide)
        refine x_if_eq (tgt := 25) dX6_sumRead_17 (by decide) (zi_r _) (fun h17 => ?_) (fun h17 => ?_)
        · have hy1 := zi_0.mp h17
          rw [psX_f hy1] at hS1
          refine x_aload_n dX6_sumRead_25 rfl ?_
          refine x_bipush dX6_sumRead_26 (h := ?_)
          refine x_V1 mX6_129 dX6_sumRead_28 rfl (s_passesSign (by omega) hS1 (fun m2 hc2 hS2 => ?_)) (hdp := by omega)
          rw [psX_s h0 (hsl h0).1] at hS2
          have hR2 : MR q N (psX q N 45 Y) m2 := hR1.leaf hS2 (hc2.wk (by decide)) (psX_r.trans psX_r.symm) (fun z => psX_0.trans (psX_0.symm.trans z))
          have hf2 : frM m5 m2 := hf1.tr (frM.cg hc2 (by decide))
          have hf25 : m2 96 15 = m5 96 15 := (hc2.2 15 (by decide)).trans hf15
          refine x_if_eq (tgt := 39) dX6_sumRead_31 (by decide) (zi_r _) (fun h31 => ?_) (fun h31 => ?_)
          · have hy2 := fun z => zi_0.mp h31 ((psT_s h0 (hsl h0).1).mpr z)
            refine x_iconst dX6_sumRead_39 ?_
            refine x_istore_n dX6_sumRead_40 ?_
            refine x_iload_n dX6_sumRead_41 rfl ?_
            refine x_if_ne (tgt := 46) dX6_sumRead_42 (by decide) (by omega) (fun h42 => absurd h42 (by omega)) (fun h42 => ?_)
            exact x_vret dX6_sumRead_45 (hP m2 (hfr.tr hf2) (hf25.trans (h15.trans h150.symm)) (by rw [← hfin, plp_3 h0 hy1 hy2, ← psX_f hy2]; exact hR2) (fun z => absurd (by rw [← hfin, plp_3 h0 hy1 hy2]; exact pskip_1.trans h0) z))
          · have hy2 := (psT_s h0 (hsl h0).1).mp (zi_1.mp h31)
            refine x_bipush dX6_sumRead_34 (h := ?_)
            refine x_goto (tgt := 40) dX6_sumRead_36 (by decide) ?_
            refine x_istore_n dX6_sumRead_40 ?_
            refine x_iload_n dX6_sumRead_41 rfl ?_
            refine x_if_ne (tgt := 46) dX6_sumRead_42 (by decide) (by omega) (fun h42 => ?_) (fun h42 => absurd h42 (by omega))
            refine x_aload_n dX6_sumRead_46 rfl ?_
            refine x_V0 mX6_126 dX6_sumRead_47 rfl (hU (psX q N 45 Y) m2 _ _ (s + 1) (psX_0.trans h0) (by omega) ((hsl h0).to (psX_c hy2 (hsl h0).1) (psX_0.trans h0)) hR2 (by rw [hf25]; exact h15) (fun m3 hf3 h315 hR3 hb3 => ?_)) (hdp := by omega)
            have hcU := hcS (psX q N 45 Y) (psX_0.trans h0) ((hsl h0).to (psX_c hy2 (hsl h0).1) (psX_0.trans h0)).1
            have hsS := fun z => ((hsl h0).to (psX_c hy2 (hsl h0).1) (psX_0.trans h0)).to hcU z
            have hcnt : 0 ≤ m3 99 108 ∧ m3 99 108 + (s + 1 : Nat) ≤ 601 := by
              by_cases z : ((ppr q N (pun q N k)) (psX q N 45 Y)).1 = 0
              · rw [(hR3.2 z).1 108 (by omega)]; have w := hsS z; have := w.1; have := w.2.1; have := w.2.2; omega
              · exact hb3 z
            obtain ⟨kk, hkk⟩ : ∃ kk : Nat, m3 99 108 = (kk : Int) := ⟨(m3 99 108).toNat, by omega⟩
            refine x_aload_n dX6_sumRead_50 rfl ?_
            refine x_iload_n dX6_sumRead_51 rfl ?_
            refine x_V1 mX6_132 dX6_sumRead_52 rfl (s_code hkk (by omega) ?_) (hdp := by omega)
            have hR4 : MR q N (pcd (-12) ((ppr q N (pun q N k)) (psX q N 45 Y))) _ := hR3.cd hkk (by omega) (fun _ => rfl)
            refine x_goto (tgt := 4) dX6_sumRead_55 (by decide) ?_
            exact x_loc (lv' := [(0, vr E 96)]) ⟨rfl, trivial⟩ (ih _ _ hR4 (fun z => ((hsl h0).to (cP.cd (a := 0) (((psX_c hy2 (hsl h0).1).tr hcU).wk (by omega))) z)) (fun z => lp_h (Z := (ppr q N (pun q N k)) (psX q N 45 Y)) (hfu h0) ((psX_c hy2 (hsl h0).1).tr hcU) z) (by rw [← hfin, plp_2 hy1 hy2]) (fun z => by rw [xu_s]; omega) ((hfr.tr (hf2.tr hf3)).u9.u9) (by rw [xu_ne (by decide), xu_ne (by decide), h315, hf25]; exact h15))
        · have hy1 := zi_1.mp h17
          refine x_bipush dX6_sumRead_20 (h := ?_)
          refine x_goto (tgt := 40) dX6_sumRead_22 (by decide) ?_
          refine x_istore_n dX6_sumRead_40 ?_
          refine x_iload_n dX6_sumRead_41 rfl ?_
          refine x_if_ne (tgt := 46) dX6_sumRead_42 (by decide) (by omega) (fun h42 => ?_) (fun h42 => absurd h42 (by omega))
          refine x_aload_n dX6_sumRead_46 rfl ?_
          refine x_V0 mX6_126 dX6_sumRead_47 rfl (hU (psX q N 43 Y) m1 _ _ (s + 1) (psX_0.trans h0) (by omega) ((hsl h0).to (psX_c hy1 (hsl h0).1) (psX_0.trans h0)) hR1 (by rw [hf15]; exact h15) (fun m3 hf3 h315 hR3 hb3 => ?_)) (hdp := by omega)
          have hcU := hcS (psX q N 43 Y) (psX_0.trans h0) ((hsl h0).to (psX_c hy1 (hsl h0).1) (psX_0.trans h0)).1
          have hsS := fun z => ((hsl h0).to (psX_c hy1 (hsl h0).1) (psX_0.trans h0)).to hcU z
          have hcnt : 0 ≤ m3 99 108 ∧ m3 99 108 + (s + 1 : Nat) ≤ 601 := by
            by_cases z : ((ppr q N (pun q N k)) (psX q N 43 Y)).1 = 0
            · rw [(hR3.2 z).1 108 (by omega)]; have w := hsS z; have := w.1; have := w.2.1; have := w.2.2; omega
            · exact hb3 z
          obtain ⟨kk, hkk⟩ : ∃ kk : Nat, m3 99 108 = (kk : Int) := ⟨(m3 99 108).toNat, by omega⟩
          refine x_aload_n dX6_sumRead_50 rfl ?_
          refine x_iload_n dX6_sumRead_51 rfl ?_
          refine x_V1 mX6_132 dX6_sumRead_52 rfl (s_code hkk (by omega) ?_) (hdp := by omega)
          have hR4 : MR q N (pcd (-11) ((ppr q N (pun q N k)) (psX q N 43 Y))) _ := hR3.cd hkk (by omega) (fun _ => rfl)
          refine x_goto (tgt := 4) dX6_sumRead_55 (by decide) ?_
          exact x_loc (lv' := [(0, vr E 96)]) ⟨rfl, trivial⟩ (ih _ _ hR4 (fun z => ((hsl h0).to (cP.cd (a := 0) (((psX_c hy1 (hsl h0).1).tr hcU).wk (by omega))) z)) (fun z => lp_h (Z := (ppr q N (pun q N k)) (psX q N 43 Y)) (hfu h0) ((psX_c hy1 (hsl h0).1).tr hcU) z) (by rw [← hfin, plp_1 hy1]) (fun z => by rw [xu_s]; omega) ((hfr.tr (hf1.tr hf3)).u9.u9) (by rw [xu_ne (by decide), xu_ne (by decide), h315, hf15]; exact h15))
  refine x_aload_n dX6_sumRead_0 rfl ?_
  refine x_V0 mX6_126 dX6_sumRead_1 rfl (hU X m _ _ s hX hs2 hsk0 hR0 h150 (fun m1 hf1 h115 hR1 hb1 => ?_)) (hdp := by omega)
  exact loop 600 _ m1 hR1 (fun z => (hsk0.to (hcS X hX hsk0.1) z)) (fun _ => by omega) rfl hb1 hf1 (h115.trans h150)

end MFM
