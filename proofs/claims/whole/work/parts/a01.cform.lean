section CFM
/-- the contracts of a unit, a product, a sum in the class, k brackets may still be opened -/
def uC (E : xE) (f : Nat → Nat) (D : Nat → Nat × Nat) (n : Nat) (q : Nat → Int) (N : Nat) (y : MethodName) (cy : ByteArray) (ml dd k : Nat) (S : pX → pX) : Prop :=
  ∀ (X : pX) (a b c : Nat) (m : xM) (P : xPo) (PX : xPx), X.1 = 0 → slk N X → a ≤ 18 → b ≤ 36 → c ≤ 48 → RC q N X a b c m → (∀ m', ag [80, 81, 82] m m' → RC q N (S X) a b c m' → P none (gS f D n) m') → xC E (y, cy, ml, none) dd 0 0 [vr E 80, vi (4 - (k : Int))] (gS f D n) m P PX
set_option maxRecDepth 20000 in
theorem s_readProduct {E : xE} {f : Nat → Nat} {D : Nat → Nat × Nat} {n : Nat} {q : Nat → Int} {N : Nat} {k : Nat} (hU : uC E f D n q N yX3_readUnit cX3_readUnit 3 (5 + 3 * k) k (pun q N k)) (hcS : ∀ X : pX, X.1 = 0 → X.2.2.1 ≤ N → cP N 0 X ((pun q N k) X)) : uC E f D n q N yX3_readProduct cX3_readProduct 4 (6 + 3 * k) k (ppr q N (pun q N k)) := by
  intro X a b c m P PX hX hsl0 ha hb hc hR0 hP
  refine x_enter (by decide) rfl rfl (Nat.le_of_ble_eq_true rfl) ?_
  have loop : ∀ (j i : Nat) (Y : pX) (m5 : xM), j + i = 600 → RC q N Y a b c m5 → (Y.1 = 0 → slk N Y) → plp q N 42 47 (-13) (-14) (pun q N k) j Y = ppr q N (pun q N k) X → ag [80, 81, 82] m m5 → xX E (("readProduct", none, []), (6 + 3 * k, 0, 0), P, PX) RX3 cX3_readProduct 4 0 0 7 [(0, vr E 80), (1, vi (4 - (k : Int))), (2, vi (i : Int))] [] (gS f D n) m5 := by
    intro j
    induction j with
    | zero =>
      intro i Y m5 h1 hR hsl hfin ha1
      refine x_iload_n dX3_readProduct_7 rfl ?_
      refine x_sipush dX3_readProduct_8 (h := ?_)
      refine x_icmp_ge (tgt := 68) dX3_readProduct_11 (by decide) (by omega) (fun h11 => ?_) (fun h11 => absurd (by omega) h11)
      exact x_vret dX3_readProduct_68 (hP m5 ha1 (by rw [← hfin]; exact hR))
    | succ j ih =>
      intro i Y m5 h1 hR hsl hfin ha1
      refine x_iload_n dX3_readProduct_7 rfl ?_
      refine x_sipush dX3_readProduct_8 (h := ?_)
      refine x_icmp_ge (tgt := 68) dX3_readProduct_11 (by decide) (by omega) (fun h11 => absurd h11 (by omega)) (fun h11 => ?_)
      refine x_aload_n dX3_readProduct_14 rfl ?_
      refine x_getI fX3_39 dX3_readProduct_15 rfl ?_
      refine x_top (hR.1.2.2.1) ?_
      refine x_if_ne (tgt := 68) dX3_readProduct_18 (by decide) (by have := hR.1.2.2.2.2.1; omega) (fun h18 => ?_) (fun h18 => ?_)
      · have h0 : Y.1 ≠ 0 := by omega
        exact x_vret dX3_readProduct_68 (hP m5 ha1 (by rw [← hfin, plp_n h0]; exact hR))
      · have h0 : Y.1 = 0 := by omega
        refine x_aload_n dX3_readProduct_21 rfl ?_
        refine x_bipush dX3_readProduct_22 (h := ?_)
        refine x_V1 mX3_164 dX3_readProduct_24 rfl (s_takesSign (by omega) hR.1 (fun m1 hc1 hS1 => ?_)) (hdp := by omega)
        have hR1 : RC q N (psX q N 42 Y) a b c m1 := hR.leaf hS1 (hc1.wk (by decide)) psX_r (fun z => psX_0.symm.trans z)
        refine x_istore_n dX3_readProduct_27 ?_
        refine x_iload_n dX3_readProduct_28 rfl ?_
        refine x_if_ne (tgt := 42) dX3_readProduct_29 (by decide) (zi_r _) (fun h29 => ?_) (fun h29 => ?_)
        · have hy1 := zi_1.mp h29
          refine x_aload_n dX3_readProduct_42 rfl ?_
          refine x_iload_n dX3_readProduct_43 rfl ?_
          refine x_V1 mX3_176 dX3_readProduct_44 rfl (hU (psX q N 42 Y) a b c m1 _ _ (psX_0.trans h0) ((hsl h0).to (psX_c hy1 (hsl h0).1) (psX_0.trans h0)).1 ha hb hc hR1 (fun m3 ha3 hR3 => ?_)) (hdp := by omega)
          have hk9 := hR3.2.1
          obtain ⟨kk, hkk⟩ : ∃ kk : Nat, m3 80 2 = (kk : Int) := ⟨(m3 80 2).toNat, by omega⟩
          have hsX := (hsl h0).to (psX_c hy1 (hsl h0).1) (psX_0.trans h0)
          have hcU := hcS (psX q N 42 Y) (psX_0.trans h0) hsX.1.1
          refine x_aload_n dX3_readProduct_47 rfl ?_
          refine x_iload_n dX3_readProduct_48 rfl ?_
          refine x_if_eq (tgt := 57) dX3_readProduct_49 (by decide) (zi_r _) (fun h49 => absurd h49 (by have := (zi_t hy1); omega)) (fun h49 => ?_)
          refine x_bipush dX3_readProduct_52 (h := ?_)
          refine x_goto (tgt := 59) dX3_readProduct_54 (by decide) ?_
          refine x_V1 mX3_173 dX3_readProduct_59 rfl (s_putItem hkk (by omega) (fun m4 hm4 => ?_)) (hdp := by omega)
          have hR4 : RC q N (pcd (-13) ((pun q N k) (psX q N 42 Y))) a b c m4 := hR3.it ha hb hc hkk (fun z => by have w := hsX.1.to hcU z; exact ⟨by have := w.2; have := w.1.1; omega, by rw [cv_8.2.2.1], fun e => absurd e (by decide)⟩) hm4
          have ha4 : ag [80, 81, 82] m m4 := by
            rcases hm4 with ⟨-, rfl⟩ | ⟨-, rfl⟩
            · exact ((ha1.tr1 ((hc1.1.wk (by decide)).tr1 ha3)).u (by decide)).u (by decide)
            · exact ha1.tr1 ((hc1.1.wk (by decide)).tr1 ha3)
          refine x_iinc dX3_readProduct_62 rfl ?_
          refine x_goto (tgt := 7) dX3_readProduct_65 (by decide) ?_
          exact x_loc (lv' := [(0, vr E 80), (1, vi (4 - (k : Int))), (2, vi ((i + 1 : Nat) : Int))]) ⟨rfl, rfl, xl_i rfl (by omega), trivial⟩ (ih (i + 1) _ m4 (by omega) hR4 (fun z => (hsl h0).to (cP.cd (a := 0) (((psX_c hy1 (hsl h0).1).tr hcU).wk (by omega))) z |>.1) (by rw [← hfin, plp_1 hy1]) ha4)
        · have hy1 := zi_0.mp h29
          rw [psX_f hy1] at hS1
          refine x_aload_n dX3_readProduct_32 rfl ?_
          refine x_bipush dX3_readProduct_33 (h := ?_)
          refine x_V1 mX3_164 dX3_readProduct_35 rfl (s_takesSign (by omega) hS1 (fun m2 hc2 hS2 => ?_)) (hdp := by omega)
          rw [psX_s h0 (hsl h0).1] at hS2
          have hR2 : RC q N (psX q N 47 Y) a b c m2 := hR1.leaf hS2 (hc2.wk (by decide)) (psX_r.trans psX_r.symm) (fun z => psX_0.trans (psX_0.symm.trans z))
          refine x_if_ne (tgt := 42) dX3_readProduct_38 (by decide) (zi_r _) (fun h38 => ?_) (fun h38 => ?_)
          · have hy2 := (psT_s h0 (hsl h0).1).mp (zi_1.mp h38)
            refine x_aload_n dX3_readProduct_42 rfl ?_
            refine x_iload_n dX3_readProduct_43 rfl ?_
            refine x_V1 mX3_176 dX3_readProduct_44 rfl (hU (psX q N 47 Y) a b c m2 _ _ (psX_0.trans h0) ((hsl h0).to (psX_c hy2 (hsl h0).1) (psX_0.trans h0)).1 ha hb hc hR2 (fun m3 ha3 hR3 => ?_)) (hdp := by omega)
            have hk9 := hR3.2.1
            obtain ⟨kk, hkk⟩ : ∃ kk : Nat, m3 80 2 = (kk : Int) := ⟨(m3 80 2).toNat, by omega⟩
            have hsX := (hsl h0).to (psX_c hy2 (hsl h0).1) (psX_0.trans h0)
            have hcU := hcS (psX q N 47 Y) (psX_0.trans h0) hsX.1.1
            refine x_aload_n dX3_readProduct_47 rfl ?_
            refine x_iload_n dX3_readProduct_48 rfl ?_
            refine x_if_eq (tgt := 57) dX3_readProduct_49 (by decide) (zi_r _) (fun h49 => ?_) (fun h49 => absurd (zi_f hy1) h49)
            refine x_bipush dX3_readProduct_57 (h := ?_)
            refine x_V1 mX3_173 dX3_readProduct_59 rfl (s_putItem hkk (by omega) (fun m4 hm4 => ?_)) (hdp := by omega)
            have hR4 : RC q N (pcd (-14) ((pun q N k) (psX q N 47 Y))) a b c m4 := hR3.it ha hb hc hkk (fun z => by have w := hsX.1.to hcU z; exact ⟨by have := w.2; have := w.1.1; omega, by rw [cv_8.2.2.2.1], fun e => absurd e (by decide)⟩) hm4
            have ha4 : ag [80, 81, 82] m m4 := by
              rcases hm4 with ⟨-, rfl⟩ | ⟨-, rfl⟩
              · exact ((ha1.tr1 ((hc1.1.wk (by decide)).tr1 ((hc2.1.wk (by decide)).tr1 ha3))).u (by decide)).u (by decide)
              · exact ha1.tr1 ((hc1.1.wk (by decide)).tr1 ((hc2.1.wk (by decide)).tr1 ha3))
            refine x_iinc dX3_readProduct_62 rfl ?_
            refine x_goto (tgt := 7) dX3_readProduct_65 (by decide) ?_
            exact x_loc (lv' := [(0, vr E 80), (1, vi (4 - (k : Int))), (2, vi ((i + 1 : Nat) : Int))]) ⟨rfl, rfl, xl_i rfl (by omega), trivial⟩ (ih (i + 1) _ m4 (by omega) hR4 (fun z => (hsl h0).to (cP.cd (a := 0) (((psX_c hy2 (hsl h0).1).tr hcU).wk (by omega))) z |>.1) (by rw [← hfin, plp_2 hy1 hy2]) ha4)
          · have hy2 := fun z => zi_0.mp h38 ((psT_s h0 (hsl h0).1).mpr z)
            exact x_vret dX3_readProduct_41 (hP m2 (ha1.tr1 ((hc1.1.wk (by decide)).tr1 (hc2.1.wk (by decide)))) (by rw [← hfin, plp_3 h0 hy1 hy2, ← psX_f hy2]; exact hR2))
  refine x_aload_n dX3_readProduct_0 rfl ?_
  refine x_iload_n dX3_readProduct_1 rfl ?_
  refine x_V1 mX3_176 dX3_readProduct_2 rfl (hU X a b c m _ _ hX hsl0 ha hb hc hR0 (fun m1 ha1 hR1 => ?_)) (hdp := by omega)
  refine x_iconst dX3_readProduct_5 ?_
  refine x_istore_n dX3_readProduct_6 ?_
  exact x_loc (lv' := [(0, vr E 80), (1, vi (4 - (k : Int))), (2, vi ((0 : Nat) : Int))]) ⟨rfl, rfl, rfl, trivial⟩ (loop 600 0 _ m1 (by omega) hR1 (fun z => (hsl0.to (hcS X hX hsl0.1) z).1) rfl ha1)

set_option maxRecDepth 20000 in
theorem s_readSum {E : xE} {f : Nat → Nat} {D : Nat → Nat × Nat} {n : Nat} {q : Nat → Int} {N : Nat} {k : Nat} (hU : uC E f D n q N yX3_readProduct cX3_readProduct 4 (6 + 3 * k) k (ppr q N (pun q N k))) (hcS : ∀ X : pX, X.1 = 0 → X.2.2.1 ≤ N → cP N 0 X ((ppr q N (pun q N k)) X)) : uC E f D n q N yX3_readSum cX3_readSum 4 (7 + 3 * k) k (psm q N (pun q N k)) := by
  intro X a b c m P PX hX hsl0 ha hb hc hR0 hP
  refine x_enter (by decide) rfl rfl (Nat.le_of_ble_eq_true rfl) ?_
  have loop : ∀ (j i : Nat) (Y : pX) (m5 : xM), j + i = 600 → RC q N Y a b c m5 → (Y.1 = 0 → slk N Y) → plp q N 43 45 (-11) (-12) (ppr q N (pun q N k)) j Y = psm q N (pun q N k) X → ag [80, 81, 82] m m5 → xX E (("readSum", none, []), (7 + 3 * k, 0, 0), P, PX) RX3 cX3_readSum 4 0 0 7 [(0, vr E 80), (1, vi (4 - (k : Int))), (2, vi (i : Int))] [] (gS f D n) m5 := by
    intro j
    induction j with
    | zero =>
      intro i Y m5 h1 hR hsl hfin ha1
      refine x_iload_n dX3_readSum_7 rfl ?_
      refine x_sipush dX3_readSum_8 (h := ?_)
      refine x_icmp_ge (tgt := 68) dX3_readSum_11 (by decide) (by omega) (fun h11 => ?_) (fun h11 => absurd (by omega) h11)
      exact x_vret dX3_readSum_68 (hP m5 ha1 (by rw [← hfin]; exact hR))
    | succ j ih =>
      intro i Y m5 h1 hR hsl hfin ha1
      refine x_iload_n dX3_readSum_7 rfl ?_
      refine x_sipush dX3_readSum_8 (h := ?_)
      refine x_icmp_ge (tgt := 68) dX3_readSum_11 (by decide) (by omega) (fun h11 => absurd h11 (by omega)) (fun h11 => ?_)
      refine x_aload_n dX3_readSum_14 rfl ?_
      refine x_getI fX3_39 dX3_readSum_15 rfl ?_
      refine x_top (hR.1.2.2.1) ?_
      refine x_if_ne (tgt := 68) dX3_readSum_18 (by decide) (by have := hR.1.2.2.2.2.1; omega) (fun h18 => ?_) (fun h18 => ?_)
      · have h0 : Y.1 ≠ 0 := by omega
        exact x_vret dX3_readSum_68 (hP m5 ha1 (by rw [← hfin, plp_n h0]; exact hR))
      · have h0 : Y.1 = 0 := by omega
        refine x_aload_n dX3_readSum_21 rfl ?_
        refine x_bipush dX3_readSum_22 (h := ?_)
        refine x_V1 mX3_164 dX3_readSum_24 rfl (s_takesSign (by omega) hR.1 (fun m1 hc1 hS1 => ?_)) (hdp := by omega)
        have hR1 : RC q N (psX q N 43 Y) a b c m1 := hR.leaf hS1 (hc1.wk (by decide)) psX_r (fun z => psX_0.symm.trans z)
        refine x_istore_n dX3_readSum_27 ?_
        refine x_iload_n dX3_readSum_28 rfl ?_
        refine x_if_ne (tgt := 42) dX3_readSum_29 (by decide) (zi_r _) (fun h29 => ?_) (fun h29 => ?_)
        · have hy1 := zi_1.mp h29
          refine x_aload_n dX3_readSum_42 rfl ?_
          refine x_iload_n dX3_readSum_43 rfl ?_
          refine x_V1 mX3_170 dX3_readSum_44 rfl (hU (psX q N 43 Y) a b c m1 _ _ (psX_0.trans h0) ((hsl h0).to (psX_c hy1 (hsl h0).1) (psX_0.trans h0)).1 ha hb hc hR1 (fun m3 ha3 hR3 => ?_)) (hdp := by omega)
          have hk9 := hR3.2.1
          obtain ⟨kk, hkk⟩ : ∃ kk : Nat, m3 80 2 = (kk : Int) := ⟨(m3 80 2).toNat, by omega⟩
          have hsX := (hsl h0).to (psX_c hy1 (hsl h0).1) (psX_0.trans h0)
          have hcU := hcS (psX q N 43 Y) (psX_0.trans h0) hsX.1.1
          refine x_aload_n dX3_readSum_47 rfl ?_
          refine x_iload_n dX3_readSum_48 rfl ?_
          refine x_if_eq (tgt := 57) dX3_readSum_49 (by decide) (zi_r _) (fun h49 => absurd h49 (by have := (zi_t hy1); omega)) (fun h49 => ?_)
          refine x_bipush dX3_readSum_52 (h := ?_)
          refine x_goto (tgt := 59) dX3_readSum_54 (by decide) ?_
          refine x_V1 mX3_173 dX3_readSum_59 rfl (s_putItem hkk (by omega) (fun m4 hm4 => ?_)) (hdp := by omega)
          have hR4 : RC q N (pcd (-11) ((ppr q N (pun q N k)) (psX q N 43 Y))) a b c m4 := hR3.it ha hb hc hkk (fun z => by have w := hsX.1.to hcU z; exact ⟨by have := w.2; have := w.1.1; omega, by rw [cv_8.1], fun e => absurd e (by decide)⟩) hm4
          have ha4 : ag [80, 81, 82] m m4 := by
            rcases hm4 with ⟨-, rfl⟩ | ⟨-, rfl⟩
            · exact ((ha1.tr1 ((hc1.1.wk (by decide)).tr1 ha3)).u (by decide)).u (by decide)
            · exact ha1.tr1 ((hc1.1.wk (by decide)).tr1 ha3)
          refine x_iinc dX3_readSum_62 rfl ?_
          refine x_goto (tgt := 7) dX3_readSum_65 (by decide) ?_
          exact x_loc (lv' := [(0, vr E 80), (1, vi (4 - (k : Int))), (2, vi ((i + 1 : Nat) : Int))]) ⟨rfl, rfl, xl_i rfl (by omega), trivial⟩ (ih (i + 1) _ m4 (by omega) hR4 (fun z => (hsl h0).to (cP.cd (a := 0) (((psX_c hy1 (hsl h0).1).tr hcU).wk (by omega))) z |>.1) (by rw [← hfin, plp_1 hy1]) ha4)
        · have hy1 := zi_0.mp h29
          rw [psX_f hy1] at hS1
          refine x_aload_n dX3_readSum_32 rfl ?_
          refine x_bipush dX3_readSum_33 (h := ?_)
          refine x_V1 mX3_164 dX3_readSum_35 rfl (s_takesSign (by omega) hS1 (fun m2 hc2 hS2 => ?_)) (hdp := by omega)
          rw [psX_s h0 (hsl h0).1] at hS2
          have hR2 : RC q N (psX q N 45 Y) a b c m2 := hR1.leaf hS2 (hc2.wk (by decide)) (psX_r.trans psX_r.symm) (fun z => psX_0.trans (psX_0.symm.trans z))
          refine x_if_ne (tgt := 42) dX3_readSum_38 (by decide) (zi_r _) (fun h38 => ?_) (fun h38 => ?_)
          · have hy2 := (psT_s h0 (hsl h0).1).mp (zi_1.mp h38)
            refine x_aload_n dX3_readSum_42 rfl ?_
            refine x_iload_n dX3_readSum_43 rfl ?_
            refine x_V1 mX3_170 dX3_readSum_44 rfl (hU (psX q N 45 Y) a b c m2 _ _ (psX_0.trans h0) ((hsl h0).to (psX_c hy2 (hsl h0).1) (psX_0.trans h0)).1 ha hb hc hR2 (fun m3 ha3 hR3 => ?_)) (hdp := by omega)
            have hk9 := hR3.2.1
            obtain ⟨kk, hkk⟩ : ∃ kk : Nat, m3 80 2 = (kk : Int) := ⟨(m3 80 2).toNat, by omega⟩
            have hsX := (hsl h0).to (psX_c hy2 (hsl h0).1) (psX_0.trans h0)
            have hcU := hcS (psX q N 45 Y) (psX_0.trans h0) hsX.1.1
            refine x_aload_n dX3_readSum_47 rfl ?_
            refine x_iload_n dX3_readSum_48 rfl ?_
            refine x_if_eq (tgt := 57) dX3_readSum_49 (by decide) (zi_r _) (fun h49 => ?_) (fun h49 => absurd (zi_f hy1) h49)
            refine x_bipush dX3_readSum_57 (h := ?_)
            refine x_V1 mX3_173 dX3_readSum_59 rfl (s_putItem hkk (by omega) (fun m4 hm4 => ?_)) (hdp := by omega)
            have hR4 : RC q N (pcd (-12) ((ppr q N (pun q N k)) (psX q N 45 Y))) a b c m4 := hR3.it ha hb hc hkk (fun z => by have w := hsX.1.to hcU z; exact ⟨by have := w.2; have := w.1.1; omega, by rw [cv_8.2.1], fun e => absurd e (by decide)⟩) hm4
            have ha4 : ag [80, 81, 82] m m4 := by
              rcases hm4 with ⟨-, rfl⟩ | ⟨-, rfl⟩
              · exact ((ha1.tr1 ((hc1.1.wk (by decide)).tr1 ((hc2.1.wk (by decide)).tr1 ha3))).u (by decide)).u (by decide)
              · exact ha1.tr1 ((hc1.1.wk (by decide)).tr1 ((hc2.1.wk (by decide)).tr1 ha3))
            refine x_iinc dX3_readSum_62 rfl ?_
            refine x_goto (tgt := 7) dX3_readSum_65 (by decide) ?_
            exact x_loc (lv' := [(0, vr E 80), (1, vi (4 - (k : Int))), (2, vi ((i + 1 : Nat) : Int))]) ⟨rfl, rfl, xl_i rfl (by omega), trivial⟩ (ih (i + 1) _ m4 (by omega) hR4 (fun z => (hsl h0).to (cP.cd (a := 0) (((psX_c hy2 (hsl h0).1).tr hcU).wk (by omega))) z |>.1) (by rw [← hfin, plp_2 hy1 hy2]) ha4)
          · have hy2 := fun z => zi_0.mp h38 ((psT_s h0 (hsl h0).1).mpr z)
            exact x_vret dX3_readSum_41 (hP m2 (ha1.tr1 ((hc1.1.wk (by decide)).tr1 (hc2.1.wk (by decide)))) (by rw [← hfin, plp_3 h0 hy1 hy2, ← psX_f hy2]; exact hR2))
  refine x_aload_n dX3_readSum_0 rfl ?_
  refine x_iload_n dX3_readSum_1 rfl ?_
  refine x_V1 mX3_170 dX3_readSum_2 rfl (hU X a b c m _ _ hX hsl0 ha hb hc hR0 (fun m1 ha1 hR1 => ?_)) (hdp := by omega)
  refine x_iconst dX3_readSum_5 ?_
  refine x_istore_n dX3_readSum_6 ?_
  exact x_loc (lv' := [(0, vr E 80), (1, vi (4 - (k : Int))), (2, vi ((0 : Nat) : Int))]) ⟨rfl, rfl, rfl, trivial⟩ (loop 600 0 _ m1 (by omega) hR1 (fun z => (hsl0.to (hcS X hX hsl0.1) z).1) rfl ha1)

theorem kX3_74 : (RX3, 74, "mean", 8 + 1) ∈ xstr := by simp [xstr]
theorem kX3_96 : (RX3, 96, "wave", 9 + 1) ∈ xstr := by simp [xstr]
theorem kX3_101 : (RX3, 101, "bar", 10 + 1) ∈ xstr := by simp [xstr]
theorem kX3_147 : (RX3, 147, "lie", 11 + 1) ∈ xstr := by simp [xstr]
theorem kX3_106 : (RX3, 106, "ship", 12 + 1) ∈ xstr := by simp [xstr]
theorem kX3_158 : (RX3, 158, "out", 13 + 1) ∈ xstr := by simp [xstr]
theorem kX3_111 : (RX3, 111, "squat", 14 + 1) ∈ xstr := by simp [xstr]
theorem kX3_179 : (RX3, 179, "speed", 15 + 1) ∈ xstr := by simp [xstr]
theorem kX3_181 : (RX3, 181, "block", 16 + 1) ∈ xstr := by simp [xstr]
theorem kX3_183 : (RX3, 183, "draught", 17 + 1) ∈ xstr := by simp [xstr]
theorem kX3_185 : (RX3, 185, "water", 18 + 1) ∈ xstr := by simp [xstr]
theorem kX3_116 : (RX3, 116, "gap", 19 + 1) ∈ xstr := by simp [xstr]
theorem kX3_120 : (RX3, 120, "surge", 20 + 1) ∈ xstr := by simp [xstr]
theorem kX6_200 : (RX6, 200, "mean", 8 + 1) ∈ xstr := by simp [xstr]
theorem kX6_168 : (RX6, 168, "wave", 9 + 1) ∈ xstr := by simp [xstr]
theorem kX6_177 : (RX6, 177, "bar", 10 + 1) ∈ xstr := by simp [xstr]
theorem kX6_158 : (RX6, 158, "lie", 11 + 1) ∈ xstr := by simp [xstr]
theorem kX6_182 : (RX6, 182, "ship", 12 + 1) ∈ xstr := by simp [xstr]
theorem kX6_163 : (RX6, 163, "out", 13 + 1) ∈ xstr := by simp [xstr]
theorem kX6_187 : (RX6, 187, "squat", 14 + 1) ∈ xstr := by simp [xstr]
theorem kX6_144 : (RX6, 144, "speed", 15 + 1) ∈ xstr := by simp [xstr]
theorem kX6_149 : (RX6, 149, "block", 16 + 1) ∈ xstr := by simp [xstr]
theorem kX6_151 : (RX6, 151, "draught", 17 + 1) ∈ xstr := by simp [xstr]
theorem kX6_153 : (RX6, 153, "water", 18 + 1) ∈ xstr := by simp [xstr]
theorem kX6_192 : (RX6, 192, "gap", 19 + 1) ∈ xstr := by simp [xstr]
theorem kX6_194 : (RX6, 194, "surge", 20 + 1) ∈ xstr := by simp [xstr]
section U0
variable {q : Nat → Int} {N : Nat} {X : pX}
theorem pu0_1 (h : pwT q N 7 X) : pu0 q N X = pcd (-1) (pwX q N 7 X) := by unfold pu0; rw [if_pos h.2, pwX_t h]
theorem pu0_2 (h1 : ¬ pwT q N 7 X) (h : pwT q N 8 X) : pu0 q N X = pcd (-2) (pwX q N 8 X) := by unfold pu0; rw [if_neg (fun z => h1 ⟨h.1, z⟩), if_pos h.2, pwX_t h]
theorem pu0_3 (h1 : ¬ pwT q N 7 X) (h2 : ¬ pwT q N 8 X) (h : pwT q N 9 X) : pu0 q N X = pcd (-3) (pwX q N 9 X) := by unfold pu0; rw [if_neg (fun z => h1 ⟨h.1, z⟩), if_neg (fun z => h2 ⟨h.1, z⟩), if_pos h.2, pwX_t h]
theorem pu0_4 (h1 : ¬ pwT q N 7 X) (h2 : ¬ pwT q N 8 X) (h3 : ¬ pwT q N 9 X) (h : pwT q N 10 X) : pu0 q N X = pcd (-4) (pwX q N 10 X) := by unfold pu0; rw [if_neg (fun z => h1 ⟨h.1, z⟩), if_neg (fun z => h2 ⟨h.1, z⟩), if_neg (fun z => h3 ⟨h.1, z⟩), if_pos h.2, pwX_t h]
theorem pu0_5 (h0 : X.1 = 0) (h1 : ¬ pwT q N 7 X) (h2 : ¬ pwT q N 8 X) (h3 : ¬ pwT q N 9 X) (h4 : ¬ pwT q N 10 X) : pu0 q N X = pcd (pnV q N X) (pnX q N 0 9999 X) := by unfold pu0; rw [if_neg (fun z => h1 ⟨h0, z⟩), if_neg (fun z => h2 ⟨h0, z⟩), if_neg (fun z => h3 ⟨h0, z⟩), if_neg (fun z => h4 ⟨h0, z⟩)]
end U0
set_option maxRecDepth 20000 in
theorem un_72 {E : xE} {f : Nat → Nat} {D : Nat → Nat × Nat} {n : Nat} {q : Nat → Int} {N : Nat} {X : pX} {a b c dd : Nat} {m m1 : xM} {P : xPo} {PX : xPx} {z1 z2 : Int} (hdd : 5 ≤ dd) (h0 : X.1 = 0) (hsl : slk N X) (ha : a ≤ 18) (hb : b ≤ 36) (hc : c ≤ 48) (hR1 : RC q N (pskip q N X) a b c m1) (hg1 : ag [80, 81, 82] m m1) (hP : ∀ m', ag [80, 81, 82] m m' → RC q N (pu0 q N X) a b c m' → P none (gS f D n) m') : xX E (("readUnit", none, []), (dd, 0, 0), P, PX) RX3 cX3_readUnit 3 0 0 72 [(0, vr E 80), (1, vi z1), (2, vi z2)] [] (gS f D n) m1 := by
  have hS1 := hR1.1
  refine x_aload_n dX3_readUnit_72 rfl ?_
  refine x_ldcS kX3_179 dX3_readUnit_73 ?_
  refine x_V1 mX3_76 dX3_readUnit_75 rfl (s_takesWord (i := 7) (by omega) hS1 (fun m8 hc8 hS8 => ?_)) (hdp := by omega)
  rw [pwX_s h0 hsl.1] at hS8
  have hR8 : RC q N (pwX q N 7 X) a b c m8 := hR1.leaf hS8 (hc8.wk (by decide)) (pwX_r.trans pskip_r.symm) (fun z => pskip_1.trans (pwX_0.symm.trans z))
  have hg8 : ag [80, 81, 82] m m8 := hg1.tr1 (hc8.1.wk (by decide))
  refine x_if_eq (tgt := 89) dX3_readUnit_78 (by decide) (zi_r _) (fun h78 => ?_) (fun h78 => ?_)
  · have hy7 := fun z => zi_0.mp h78 ((pwT_s h0 hsl.1).mpr z)
    rw [pwX_f hy7] at hS8 hR8
    refine x_aload_n dX3_readUnit_89 rfl ?_
    refine x_ldcS kX3_181 dX3_readUnit_90 ?_
    refine x_V1 mX3_76 dX3_readUnit_92 rfl (s_takesWord (i := 8) (by omega) hS8 (fun m9 hc9 hS9 => ?_)) (hdp := by omega)
    rw [pwX_s h0 hsl.1] at hS9
    have hR9 : RC q N (pwX q N 8 X) a b c m9 := hR8.leaf hS9 (hc9.wk (by decide)) (pwX_r.trans pskip_r.symm) (fun z => pskip_1.trans (pwX_0.symm.trans z))
    have hg9 : ag [80, 81, 82] m m9 := hg8.tr1 (hc9.1.wk (by decide))
    refine x_if_eq (tgt := 107) dX3_readUnit_95 (by decide) (zi_r _) (fun h95 => ?_) (fun h95 => ?_)
    · have hy8 := fun z => zi_0.mp h95 ((pwT_s h0 hsl.1).mpr z)
      rw [pwX_f hy8] at hS9 hR9
      refine x_aload_n dX3_readUnit_107 rfl ?_
      refine x_ldcS kX3_183 dX3_readUnit_108 ?_
      refine x_V1 mX3_76 dX3_readUnit_110 rfl (s_takesWord (i := 9) (by omega) hS9 (fun m10 hc10 hS10 => ?_)) (hdp := by omega)
      rw [pwX_s h0 hsl.1] at hS10
      have hR10 : RC q N (pwX q N 9 X) a b c m10 := hR9.leaf hS10 (hc10.wk (by decide)) (pwX_r.trans pskip_r.symm) (fun z => pskip_1.trans (pwX_0.symm.trans z))
      have hg10 : ag [80, 81, 82] m m10 := hg9.tr1 (hc10.1.wk (by decide))
      refine x_if_eq (tgt := 125) dX3_readUnit_113 (by decide) (zi_r _) (fun h113 => ?_) (fun h113 => ?_)
      · have hy9 := fun z => zi_0.mp h113 ((pwT_s h0 hsl.1).mpr z)
        rw [pwX_f hy9] at hS10 hR10
        refine x_aload_n dX3_readUnit_125 rfl ?_
        refine x_ldcS kX3_185 dX3_readUnit_126 ?_
        refine x_V1 mX3_76 dX3_readUnit_128 rfl (s_takesWord (i := 10) (by omega) hS10 (fun m11 hc11 hS11 => ?_)) (hdp := by omega)
        rw [pwX_s h0 hsl.1] at hS11
        have hR11 : RC q N (pwX q N 10 X) a b c m11 := hR10.leaf hS11 (hc11.wk (by decide)) (pwX_r.trans pskip_r.symm) (fun z => pskip_1.trans (pwX_0.symm.trans z))
        have hg11 : ag [80, 81, 82] m m11 := hg10.tr1 (hc11.1.wk (by decide))
        refine x_if_eq (tgt := 151) dX3_readUnit_131 (by decide) (zi_r _) (fun h131 => ?_) (fun h131 => ?_)
        · have hy10 := fun z => zi_0.mp h131 ((pwT_s h0 hsl.1).mpr z)
          rw [pwX_f hy10] at hS11 hR11
          refine x_aload_n dX3_readUnit_151 rfl ?_
          refine x_aload_n dX3_readUnit_152 rfl ?_
          refine x_iconst dX3_readUnit_153 ?_
          refine x_sipush dX3_readUnit_154 (h := ?_)
          refine x_V2 mX3_84 dX3_readUnit_157 rfl (s_readNumber (by omega) (by omega) hS11 (fun m12 v12 hc12 hS12 hv12 hb12 => ?_)) (hdp := by omega)
          have hS13 := pnX_sl h0 hsl.1 hS12
          rw [pnX_s0 h0 hsl.1, pnV_s h0 hsl.1] at hv12
          have hR12 : RC q N (pnX q N 0 9999 X) a b c m12 := hR11.leaf hS13 hc12 (pnX_r.trans pskip_r.symm) (fun z => pskip_1.trans (pnX_0 z))
          obtain ⟨kk, hkk⟩ : ∃ kk : Nat, m12 80 2 = (kk : Int) := ⟨(m12 80 2).toNat, by have := hR12.2.1; omega⟩
          refine x_V1 mX3_173 dX3_readUnit_160 rfl (s_putItem hkk (by have := hR12.2.1; omega) (fun m4 hm4 => ?_)) (hdp := by omega)
          exact x_vret dX3_readUnit_163 (hP m4 (by rcases hm4 with ⟨-, rfl⟩ | ⟨-, rfl⟩; exact ((hg11.tr1 (hc12.1.wk (by decide))).u (by decide)).u (by decide); exact hg11.tr1 (hc12.1.wk (by decide))) (by rw [pu0_5 h0 hy7 hy8 hy9 hy10]; exact hR12.it ha hb hc hkk (fun z => ⟨by rw [pnX_r]; have := hsl.2.2; have := hsl.1; omega, by rw [hv12 z, cv_n (by have := hv12 z; omega)], fun e => by have := hv12 z; omega⟩) hm4))
        · have hy10 := (pwT_s h0 hsl.1).mp (zi_1.mp h131)
          obtain ⟨kk, hkk⟩ : ∃ kk : Nat, m11 80 2 = (kk : Int) := ⟨(m11 80 2).toNat, by have := hR11.2.1; omega⟩
          refine x_aload_n dX3_readUnit_134 rfl ?_
          refine x_getR (r := 82) fX3_18 dX3_readUnit_135 rfl rfl ?_
          refine x_iconst dX3_readUnit_138 ?_
          refine x_putZ fX3_187 dX3_readUnit_139 rfl (by decide) rfl rfl (by omega) ?_
          refine x_aload_n dX3_readUnit_142 rfl ?_
          refine x_bipush dX3_readUnit_143 (h := ?_)
          refine x_V1 mX3_173 dX3_readUnit_145 rfl (s_putItem (k := kk) (by rw [xu_ne (by decide)]; exact hkk) (by have := hR11.2.1; omega) (fun m4 hm4 => ?_)) (hdp := by omega)
          refine x_goto (tgt := 163) dX3_readUnit_148 (by decide) ?_
          exact x_vret dX3_readUnit_163 (hP m4 (by rcases hm4 with ⟨-, rfl⟩ | ⟨-, rfl⟩; exact ((hg11.u (by decide)).u (by decide)).u (by decide); exact (hg11.u (by decide))) (by rw [pu0_4 hy7 hy8 hy9 hy10]; exact hR11.wt.it ha hb hc (show xu m11 82 10 1 80 2 = (kk : Int) by rw [xu_ne (by decide)]; exact hkk) (fun z => ⟨by rw [pwX_r]; have := hsl.2.2; have := hsl.1; omega, by rw [cv_8.2.2.2.2.2.2.2], fun _ => xu_s⟩) hm4))
      · have hy9 := (pwT_s h0 hsl.1).mp (zi_1.mp h113)
        obtain ⟨kk, hkk⟩ : ∃ kk : Nat, m10 80 2 = (kk : Int) := ⟨(m10 80 2).toNat, by have := hR10.2.1; omega⟩
        refine x_aload_n dX3_readUnit_116 rfl ?_
        refine x_bipush dX3_readUnit_117 (h := ?_)
        refine x_V1 mX3_173 dX3_readUnit_119 rfl (s_putItem hkk (by have := hR10.2.1; omega) (fun m4 hm4 => ?_)) (hdp := by omega)
        refine x_goto (tgt := 163) dX3_readUnit_122 (by decide) ?_
        exact x_vret dX3_readUnit_163 (hP m4 (by rcases hm4 with ⟨-, rfl⟩ | ⟨-, rfl⟩; exact (hg10.u (by decide)).u (by decide); exact hg10) (by rw [pu0_3 hy7 hy8 hy9]; exact hR10.it ha hb hc hkk (fun z => ⟨by rw [pwX_r]; have := hsl.2.2; have := hsl.1; omega, by rw [cv_8.2.2.2.2.2.2.1], fun e => absurd e (by decide)⟩) hm4))
    · have hy8 := (pwT_s h0 hsl.1).mp (zi_1.mp h95)
      obtain ⟨kk, hkk⟩ : ∃ kk : Nat, m9 80 2 = (kk : Int) := ⟨(m9 80 2).toNat, by have := hR9.2.1; omega⟩
      refine x_aload_n dX3_readUnit_98 rfl ?_
      refine x_bipush dX3_readUnit_99 (h := ?_)
      refine x_V1 mX3_173 dX3_readUnit_101 rfl (s_putItem hkk (by have := hR9.2.1; omega) (fun m4 hm4 => ?_)) (hdp := by omega)
      refine x_goto (tgt := 163) dX3_readUnit_104 (by decide) ?_
      exact x_vret dX3_readUnit_163 (hP m4 (by rcases hm4 with ⟨-, rfl⟩ | ⟨-, rfl⟩; exact (hg9.u (by decide)).u (by decide); exact hg9) (by rw [pu0_2 hy7 hy8]; exact hR9.it ha hb hc hkk (fun z => ⟨by rw [pwX_r]; have := hsl.2.2; have := hsl.1; omega, by rw [cv_8.2.2.2.2.2.1], fun e => absurd e (by decide)⟩) hm4))
  · have hy7 := (pwT_s h0 hsl.1).mp (zi_1.mp h78)
    obtain ⟨kk, hkk⟩ : ∃ kk : Nat, m8 80 2 = (kk : Int) := ⟨(m8 80 2).toNat, by have := hR8.2.1; omega⟩
    refine x_aload_n dX3_readUnit_81 rfl ?_
    refine x_iconst dX3_readUnit_82 ?_
    refine x_V1 mX3_173 dX3_readUnit_83 rfl (s_putItem hkk (by have := hR8.2.1; omega) (fun m4 hm4 => ?_)) (hdp := by omega)
    refine x_goto (tgt := 163) dX3_readUnit_86 (by decide) ?_
    exact x_vret dX3_readUnit_163 (hP m4 (by rcases hm4 with ⟨-, rfl⟩ | ⟨-, rfl⟩; exact (hg8.u (by decide)).u (by decide); exact hg8) (by rw [pu0_1 hy7]; exact hR8.it ha hb hc hkk (fun z => ⟨by rw [pwX_r]; have := hsl.2.2; have := hsl.1; omega, by rw [cv_8.2.2.2.2.1], fun e => absurd e (by decide)⟩) hm4))

set_option maxRecDepth 20000 in
theorem un_0 {E : xE} {f : Nat → Nat} {D : Nat → Nat × Nat} {n : Nat} {q : Nat → Int} {N : Nat} : uC E f D n q N yX3_readUnit cX3_readUnit 3 (5) (0) (pun q N (0)) := by
  intro X a b c m P PX h0 hsl ha hb hc hR hP
  refine x_enter (by decide) rfl rfl (Nat.le_of_ble_eq_true rfl) ?_
  refine x_aload_n dX3_readUnit_0 rfl ?_
  refine x_V0 mX3_58 dX3_readUnit_1 rfl (s_peekSign hR.1 (fun m1 r1 hc1 hS1 hr1 hs1 => ?_)) (hdp := by omega)
  obtain ⟨hs40, -⟩ := hs1 h0
  have hR1 : RC q N (pskip q N X) a b c m1 := hR.leaf hS1 (hc1.wk (by decide)) pskip_r (fun _ => h0)
  obtain ⟨⟨a1, ha1, haN1, hah1⟩, -⟩ := id hS1
  have haS : a1 = skp q N X.2.2.1 := (hah1 (pskip_1.trans h0)).trans (by rw [pskip_0 h0]; rfl)
  have hg1 : ag [80, 81, 82] m m1 := hc1.1.wk (by decide)
  refine x_istore_n dX3_readUnit_4 ?_
  refine x_iload_n dX3_readUnit_5 rfl ?_
  refine x_bipush dX3_readUnit_6 (h := ?_)
  refine x_icmp_ne (tgt := 28) dX3_readUnit_8 (by decide) (by omega) (fun h8 => ?_) (fun h8 => ?_)
  · have hno : ¬ sgP q N (skp q N X.2.2.1) 40 := fun z => h8 (hs40.mpr z)
    refine x_iload_n dX3_readUnit_28 rfl ?_
    refine x_bipush dX3_readUnit_29 (h := ?_)
    refine x_icmp_ne (tgt := 72) dX3_readUnit_31 (by decide) (by omega) (fun h31 => ?_) (fun h31 => absurd h31 (by omega))
    exact x_loc (lv' := [(0, vr E 80), (1, vi (4 - ((0 : Nat) : Int))), (2, vi r1)]) ⟨rfl, rfl, rfl, trivial⟩ (un_72 (by omega) h0 hsl ha hb hc hR1 hg1 (fun m9 hg9 hR9 => hP m9 hg9 (by unfold pun; rw [if_neg hno]; exact hR9)))
  · have hyes := hs40.mp (by omega)
    refine x_iload_n dX3_readUnit_11 rfl ?_
    refine x_iconst dX3_readUnit_12 ?_
    refine x_icmp_lt (tgt := 28) dX3_readUnit_13 (by decide) (by omega) (fun h13 => absurd h13 (by omega)) (fun h13 => ?_)
    refine x_aload_n dX3_readUnit_16 rfl ?_
    refine x_iconst dX3_readUnit_17 ?_
    refine x_aload_n dX3_readUnit_18 rfl ?_
    refine x_getI fX3_26 dX3_readUnit_19 rfl ?_
    refine x_top (ha1) ?_
    refine x_V2 mX3_80 dX3_readUnit_22 rfl (s_note (k := 4) (p := a1) (by omega) hS1 (fun m2 hc2 hS2 => ?_)) (hdp := by omega)
    refine x_goto (tgt := 163) dX3_readUnit_25 (by decide) ?_
    exact x_vret dX3_readUnit_163 (hP m2 (hg1.tr1 (hc2.1.wk (by decide))) (by unfold pun; rw [if_pos hyes]; exact hR1.leaf (by have w := lC_k (X := pskip q N X) (pskip_1.trans h0) hS2; rw [← haS]; exact w.mk0) (hc2.wk (by decide)) (show X.2.2.2 = (pskip q N X).2.2.2 from pskip_r.symm) (fun z => absurd z (by show (4 : Nat) ≠ 0; omega))))

set_option maxRecDepth 20000 in
theorem un_s {E : xE} {f : Nat → Nat} {D : Nat → Nat × Nat} {n : Nat} {q : Nat → Int} {N : Nat} {k : Nat} (hk4 : k < 4) (hU : uC E f D n q N yX3_readSum cX3_readSum 4 (7 + 3 * k) k (psm q N (pun q N k))) : uC E f D n q N yX3_readUnit cX3_readUnit 3 (5 + 3 * (k + 1)) (k + 1) (pun q N (k + 1)) := by
  intro X a b c m P PX h0 hsl ha hb hc hR hP
  refine x_enter (by decide) rfl rfl (Nat.le_of_ble_eq_true rfl) ?_
  refine x_aload_n dX3_readUnit_0 rfl ?_
  refine x_V0 mX3_58 dX3_readUnit_1 rfl (s_peekSign hR.1 (fun m1 r1 hc1 hS1 hr1 hs1 => ?_)) (hdp := by omega)
  obtain ⟨hs40, -⟩ := hs1 h0
  have hR1 : RC q N (pskip q N X) a b c m1 := hR.leaf hS1 (hc1.wk (by decide)) pskip_r (fun _ => h0)
  obtain ⟨⟨a1, ha1, haN1, hah1⟩, -⟩ := id hS1
  have haS : a1 = skp q N X.2.2.1 := (hah1 (pskip_1.trans h0)).trans (by rw [pskip_0 h0]; rfl)
  have hg1 : ag [80, 81, 82] m m1 := hc1.1.wk (by decide)
  refine x_istore_n dX3_readUnit_4 ?_
  refine x_iload_n dX3_readUnit_5 rfl ?_
  refine x_bipush dX3_readUnit_6 (h := ?_)
  refine x_icmp_ne (tgt := 28) dX3_readUnit_8 (by decide) (by omega) (fun h8 => ?_) (fun h8 => ?_)
  · have hno : ¬ sgP q N (skp q N X.2.2.1) 40 := fun z => h8 (hs40.mpr z)
    refine x_iload_n dX3_readUnit_28 rfl ?_
    refine x_bipush dX3_readUnit_29 (h := ?_)
    refine x_icmp_ne (tgt := 72) dX3_readUnit_31 (by decide) (by omega) (fun h31 => ?_) (fun h31 => absurd h31 (by omega))
    exact x_loc (lv' := [(0, vr E 80), (1, vi (4 - ((k + 1 : Nat) : Int))), (2, vi r1)]) ⟨rfl, rfl, rfl, trivial⟩ (un_72 (by omega) h0 hsl ha hb hc hR1 hg1 (fun m9 hg9 hR9 => hP m9 hg9 (by unfold pun; rw [if_neg hno]; exact hR9)))
  · have hyes := hs40.mp (by omega)
    refine x_iload_n dX3_readUnit_11 rfl ?_
    refine x_iconst dX3_readUnit_12 ?_
    refine x_icmp_lt (tgt := 28) dX3_readUnit_13 (by decide) (by omega) (fun h13 => ?_) (fun h13 => absurd (by omega) h13)
    refine x_iload_n dX3_readUnit_28 rfl ?_
    refine x_bipush dX3_readUnit_29 (h := ?_)
    refine x_icmp_ne (tgt := 72) dX3_readUnit_31 (by decide) (by omega) (fun h31 => absurd h31 (by omega)) (fun h31 => ?_)
    refine x_aload_n dX3_readUnit_34 rfl ?_
    refine x_dup dX3_readUnit_35 vr_cat ?_
    refine x_getI fX3_26 dX3_readUnit_36 rfl ?_
    refine x_top (ha1) ?_
    refine x_iconst dX3_readUnit_39 ?_
    refine x_iadd dX3_readUnit_40 ?_
    refine x_top (show (a1 : Int) + 1 = ((a1 + 1 : Nat) : Int) by omega) ?_
    refine x_putI fX3_26 dX3_readUnit_41 rfl (by decide) rfl rfl ?_
    have hcu : cg 80 [3] m (xu m1 80 3 ((a1 + 1 : Nat) : Int)) := hc1.u (by decide)
    have hR2 : RC q N (pat (skp q N X.2.2.1 + 1) X) a b c (xu m1 80 3 ((a1 + 1 : Nat) : Int)) := hR.leaf (hR.1.to (X' := pat (skp q N X.2.2.1 + 1) X) hcu (by decide) (by decide) (by decide) (by decide) rfl (fun _ => rfl) (a := a1 + 1) xu_s (by have := hyes.1; omega) (fun _ => by rw [haS]; rfl)) (hcu.wk (by decide)) rfl (fun z => z)
    have hs2 := hsl.to (X' := pat (skp q N X.2.2.1 + 1) X) (cP.at (c := 1) h0 (by have := (skp_b (q := q) hsl.1).1; omega) (by have := hyes.1; omega)) h0
    refine x_aload_n dX3_readUnit_44 rfl ?_
    refine x_iload_n dX3_readUnit_45 rfl ?_
    refine x_iconst dX3_readUnit_46 ?_
    refine x_iadd dX3_readUnit_47 ?_
    refine x_top (show 4 - ((k + 1 : Nat) : Int) + 1 = 4 - (k : Int) by omega) ?_
    refine x_V1 mX3_113 dX3_readUnit_48 rfl (hU (pat (skp q N X.2.2.1 + 1) X) a b c _ _ _ h0 hs2.1 ha hb hc hR2 (fun m3 ha3 hR3 => ?_)) (hdp := by omega)
    have hg3 : ag [80, 81, 82] m m3 := (hcu.1.wk (by decide)).tr1 ha3
    refine x_aload_n dX3_readUnit_51 rfl ?_
    refine x_bipush dX3_readUnit_52 (h := ?_)
    refine x_V1 mX3_164 dX3_readUnit_54 rfl (s_takesSign (by omega) hR3.1 (fun m4 hc4 hS4 => ?_)) (hdp := by omega)
    have hR4 := hR3.leaf hS4 (hc4.wk (by decide)) psX_r (fun z => psX_0.symm.trans z)
    refine x_if_ne (tgt := 163) dX3_readUnit_57 (by decide) (zi_r _) (fun h57 => ?_) (fun h57 => ?_)
    · have hy := zi_1.mp h57
      exact x_vret dX3_readUnit_163 (hP m4 (hg3.tr1 (hc4.1.wk (by decide))) (by unfold pun; rw [if_pos hyes, pnd_t hy]; exact hR4))
    · have hy := zi_0.mp h57
      rw [psX_f hy] at hS4 hR4
      obtain ⟨⟨a4, ha4, haN4, hah4⟩, -⟩ := id hS4
      refine x_aload_n dX3_readUnit_60 rfl ?_
      refine x_iconst dX3_readUnit_61 ?_
      refine x_aload_n dX3_readUnit_62 rfl ?_
      refine x_getI fX3_26 dX3_readUnit_63 rfl ?_
      refine x_top (ha4) ?_
      refine x_V2 mX3_80 dX3_readUnit_66 rfl (s_note (k := 1) (p := a4) (by omega) hS4 (fun m5 hc5 hS5 => ?_)) (hdp := by omega)
      refine x_goto (tgt := 163) dX3_readUnit_69 (by decide) ?_
      exact x_vret dX3_readUnit_163 (hP m5 ((hg3.tr1 (hc4.1.wk (by decide))).tr1 (hc5.1.wk (by decide))) (by unfold pun; rw [if_pos hyes, pnd_f hy]; exact hR4.leaf (lC_fl (fun z => by have := hah4 (pskip_1.trans z); rw [pskip_0 z] at this; exact this) hS5) (hc5.wk (by decide)) (pfl_r.trans pskip_r.symm) (fun z => pskip_1.trans (pfl_0 z))))

theorem s_readUnit {E : xE} {f : Nat → Nat} {D : Nat → Nat × Nat} {n : Nat} {q : Nat → Int} {N : Nat} : ∀ k : Nat, k ≤ 4 → uC E f D n q N yX3_readUnit cX3_readUnit 3 (5 + 3 * k) k (pun q N k)
  | 0, _ => un_0
  | k + 1, h => un_s h (s_readSum (s_readProduct (s_readUnit k (Nat.le_of_succ_le h)) (pun_c k)) (fun _ h1 h2 => ppr_c (pun_c k) h1 h2))
theorem s_readSum4 {E : xE} {f : Nat → Nat} {D : Nat → Nat × Nat} {n : Nat} {q : Nat → Int} {N : Nat} : uC E f D n q N yX3_readSum cX3_readSum 4 19 4 (psm q N (pun q N 4)) := s_readSum (s_readProduct (s_readUnit 4 (Nat.le_refl _)) (pun_c 4)) (fun _ h1 h2 => ppr_c (pun_c 4) h1 h2)
end CFM
