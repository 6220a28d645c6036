section CTX
theorem wa_int : Cond.arrayClass .int ∈ xTb := xTb_of 201 (by decide +kernel) (by decide +kernel)
def Du (D : Nat → Nat × Nat) (c : Nat) (z : Nat × Nat) : Nat → Nat × Nat := fun a => if a = c then z else D a
theorem gkt_n : ∀ c, 112 ≤ c → gkt.getD c 99 = 99 := fun c h => by
  rw [List.getD_eq_getElem?_getD, List.getElem?_eq_none (by show 112 ≤ c; exact h)]; rfl
theorem gS_new {f : Nat → Nat} {D : Nat → Nat × Nat} {n K len : Nat} (hn : 112 ≤ n) : xng (gS f D n) K len = gS f (Du D n (K, len)) (n + 1) := by
  have e1 : (fun a b => if a = n then 0 else gRf f a b) = gRf f := by
    funext a b
    by_cases q : a = n
    · subst q
      rw [if_pos rfl]
      unfold gRf
      rw [if_neg (by omega), if_neg (by omega), if_neg (by omega), if_neg (by omega), if_neg (by omega), if_neg (by omega), if_neg (by omega), if_neg (by rw [gkt_n _ hn]; decide)]
    · rw [if_neg q]
  have e2 : (fun a => if a = n then K else (gS f D n).2.1 a) = fun c => if c < 112 then gkt.getD c 99 else (Du D n (K, len) c).1 := by
    funext a
    show (if a = n then K else (if a < 112 then gkt.getD a 99 else (D a).1)) = _
    by_cases q : a = n
    · subst q
      rw [if_pos rfl, if_neg (by omega)]; unfold Du; rw [if_pos rfl]
    · rw [if_neg q]; unfold Du; rw [if_neg q]
  have e3 : (fun a => if a = n then len else (gS f D n).2.2.1 a) = fun c => if c < 112 then glt.getD c 0 else (Du D n (K, len) c).2 := by
    funext a
    show (if a = n then len else (if a < 112 then glt.getD a 0 else (D a).2)) = _
    by_cases q : a = n
    · subst q
      rw [if_pos rfl, if_neg (by omega)]; unfold Du; rw [if_pos rfl]
    · rw [if_neg q]; unfold Du; rw [if_neg q]
  show ((fun a b => if a = n then 0 else gRf f a b), (fun a => if a = n then K else (gS f D n).2.1 a), (fun a => if a = n then len else (gS f D n).2.2.1 a), n + 1) = _
  rw [e1, e2, e3]
  rfl
theorem gS_n {f : Nat → Nat} {D : Nat → Nat × Nat} {n : Nat} : (gS f D n).2.2.2 = n := rfl
set_option maxRecDepth 20000 in
theorem s_clear {E : xE} {f : Nat → Nat} {D : Nat → Nat × Nat} {n : Nat} {m : xM} {P : xPo} {PX : xPx} (hP : ∀ m', ag [82] m m' → (m' 82 0 = 0 ∧ m' 82 1 = 15 ∧ m' 82 2 = 0 ∧ m' 82 3 = 0 ∧ m' 82 4 = 0 ∧ m' 82 5 = 0 ∧ m' 82 10 = 0) → P none (gS (fu f 82 2) D n) m') : xC E (yX0_clear, cX0_clear, 1, none) 0 0 0 [vr E 82] (gS f D n) m P PX := by
  refine x_enter (by decide) rfl rfl (Nat.le_of_ble_eq_true rfl) ?_
  refine x_aload_n dX0_clear_0 rfl ?_
  refine x_iconst dX0_clear_1 ?_
  refine x_putI fX0_31 dX0_clear_2 rfl (by decide) rfl rfl ?_
  refine x_aload_n dX0_clear_5 rfl ?_
  refine x_bipush dX0_clear_6 (h := ?_)
  refine x_putI fX0_9 dX0_clear_8 rfl (by decide) rfl rfl ?_
  refine x_aload_n dX0_clear_11 rfl ?_
  refine x_iconst dX0_clear_12 ?_
  refine x_putI fX0_34 dX0_clear_13 rfl (by decide) rfl rfl ?_
  refine x_aload_n dX0_clear_16 rfl ?_
  refine x_iconst dX0_clear_17 ?_
  refine x_putI fX0_37 dX0_clear_18 rfl (by decide) rfl rfl ?_
  refine x_aload_n dX0_clear_21 rfl ?_
  refine x_iconst dX0_clear_22 ?_
  refine x_putI fX0_40 dX0_clear_23 rfl (by decide) rfl rfl ?_
  refine x_aload_n dX0_clear_26 rfl ?_
  refine x_iconst dX0_clear_27 ?_
  refine x_putI fX0_43 dX0_clear_28 rfl (by decide) rfl rfl ?_
  refine x_aload_n dX0_clear_31 rfl ?_
  refine x_gets (c := 1) (C := RX0) (f := "NO_FORMULA") (by simp [xstf]) sl_25 dX0_clear_32 ?_
  refine x_putR fX0_28 dX0_clear_35 rfl (by decide) rfl ?_
  rw [gS_fu (by decide)]
  refine x_aload_n dX0_clear_38 rfl ?_
  refine x_iconst dX0_clear_39 ?_
  refine x_putZ fX0_46 dX0_clear_40 rfl (by decide) rfl rfl (by omega) ?_
  exact x_vret dX0_clear_43 (hP _ (ag.u (ag.u (ag.u (ag.u (ag.u (ag.u (ag.u ag.rf (by simp)) (by simp)) (by simp)) (by simp)) (by simp)) (by simp)) (by simp)) (by simp [xu]))

set_option maxRecDepth 20000 in
theorem s_copyOf {E : xE} {f : Nat → Nat} {D : Nat → Nat × Nat} {n : Nat} {m : xM} {P : xPo} {PX : xPx} {k : Nat} (hn : 112 ≤ n) (hk : 0 < k ∧ k < 600) (hP : ∀ m', (∀ c, c ≠ n → m' c = m c) → (∀ i, i < k → m' n i = m 81 i) → P (some (vr E n)) (gS f (Du D n (8, k)) (n + 1)) m') : xC E (yJ7_copyOf_59c91, cJ7_copyOf_59c91, 3, some (.array .int)) 1 1 600 [vr E 81, vi (k : Int)] (gS f D n) m P PX := by
  refine x_enterF (by decide +kernel) rfl rfl (Nat.le_of_ble_eq_true rfl) ?_
  refine x_iload_n dJ7_copyOf_59c91_0 rfl ?_
  refine x_aload_n dJ7_copyOf_59c91_1 rfl ?_
  refine x_alen (t := 8) (N := 600) dJ7_copyOf_59c91_2 rfl (by decide) rfl ?_
  refine x_icmp_ne (tgt := 14) dJ7_copyOf_59c91_3 (by decide) (by omega) (fun h3 => ?_) (fun h3 => absurd h3 (by omega))
  refine x_iload_n dJ7_copyOf_59c91_14 rfl ?_
  refine x_newI (len := k) wa_int rfl (by omega) dJ7_copyOf_59c91_15 ?_ (by omega) (by omega)
  rw [gS_n, gS_new hn]
  refine x_astore_n dJ7_copyOf_59c91_17 ?_
  refine x_loc (lv' := [(0, vr E 81), (1, vi (k : Int)), (2, vr E n)]) ⟨rfl, rfl, rfl, trivial⟩ ?_
  refine x_aload_n dJ7_copyOf_59c91_18 rfl ?_
  refine x_iconst dJ7_copyOf_59c91_19 ?_
  refine x_aload_n dJ7_copyOf_59c91_20 rfl ?_
  refine x_iconst dJ7_copyOf_59c91_21 ?_
  refine x_aload_n dJ7_copyOf_59c91_22 rfl ?_
  refine x_alen (t := 8) (N := 600) dJ7_copyOf_59c91_23 rfl (by decide) rfl ?_
  refine x_iload_n dJ7_copyOf_59c91_24 rfl ?_
  refine x_S2 mJ7_304 dJ7_copyOf_59c91_25 (s_min (by omega) ?_) (hms := by omega)
  refine x_top (show min ((600 : Nat) : Int) (k : Int) = (k : Int) by omega) ?_
  refine x_copyI (a := 81) (b := n) (i := 0) (j := 0) (N := k) mJ7_150 dJ7_copyOf_59c91_28 rfl (by rw [gS_k hn]; unfold Du; rw [if_pos rfl]) (by unfold nS; omega) (show 0 + k ≤ 600 by omega) (by rw [gS_l hn]; unfold Du; rw [if_pos rfl]; omega) (by omega) (by omega) (Nat.le_of_ble_eq_true rfl) ?_
  refine x_aload_n dJ7_copyOf_59c91_31 rfl ?_
  refine x_aret dJ7_copyOf_59c91_32 rfl (hP _ (fun c hc => ?_) (fun i hi => ?_)) (by omega) (by omega)
  · rw [xcpy_ne hc]
    funext j
    show (if c = n then 0 else m c j) = _
    rw [if_neg hc]
  · rw [xcpy_00 hi]
    show (if 81 = n then 0 else m 81 i) = _
    rw [if_neg (by omega)]

/-- what the reading of a text leaves: a flaw, or the draft -/
def rdO (r : Nat → Int) (f' : Nat → Nat) (D' : Nat → Nat × Nat) (m' : xM) : Prop := (∀ j, j < 6 → m' 82 j = r j) ∧ (∀ i : Nat, (i : Int) < 3 * r 3 → m' 83 i = r (6 + i)) ∧ (∀ i : Nat, (i : Int) < 6 * r 4 → m' 84 i = r (24 + i)) ∧ (∀ i : Nat, (i : Int) < 8 * r 5 → m' 85 i = r (60 + i)) ∧
  ((r 108 = 0 ∧ f' 82 = 2) ∨ (0 < r 108 ∧ 112 ≤ f' 82 ∧ D' (f' 82) = (8, (r 108).toNat) ∧ ∀ k : Nat, (k : Int) < r 108 → m' (f' 82) k = cv (fi r k))) ∧ ((m' 82 10 = 0 ∧ ∀ k : Nat, (k : Int) < r 108 → fi r k ≠ -4) ∨ m' 82 10 = 1)
theorem RS.out {q : Nat → Int} {N : Nat} {Y : pX} {m : xM} (h : RS q N Y m) (hn : nn3 Y) (h0 : Y.1 = 0) : m 80 2 = Y.2.2.2 108 ∧ (∀ i : Nat, (i : Int) < Y.2.2.2 108 → m 81 i = cv (Y.2.2.2 (109 + i))) ∧ (∀ j, j < 6 → m 82 j = Y.2.2.2 j) ∧ (∀ i : Nat, (i : Int) < 3 * Y.2.2.2 3 → m 83 i = Y.2.2.2 (6 + i)) ∧ (∀ i : Nat, (i : Int) < 6 * Y.2.2.2 4 → m 84 i = Y.2.2.2 (24 + i)) ∧ (∀ i : Nat, (i : Int) < 8 * Y.2.2.2 5 → m 85 i = Y.2.2.2 (60 + i)) ∧ ((m 82 10 = 0 ∧ ∀ i : Nat, (i : Int) < Y.2.2.2 108 → Y.2.2.2 (109 + i) ≠ -4) ∨ m 82 10 = 1) := by
  obtain ⟨p0, p1, p2, p3, p4, p5, p6, p7, p8, p9⟩ := (h.get hn).2.2 h0
  have := hn h0
  exact ⟨p0, p2, p5, fun i hi => p6 i (by omega), fun i hi => p7 i (by omega), fun i hi => p8 i (by omega), p9⟩
set_option maxRecDepth 20000 in
theorem rd_83 {E : xE} {f : Nat → Nat} {D : Nat → Nat × Nat} {n : Nat} {m : xM} {P : xPo} {PX : xPx} {q : Nat → Int} {N : Nat} {Z : pX} {mZ : xM} (hn : 112 ≤ n) (hZ1 : Z.1 = (ptx q N).1) (hZ2 : Z.2.1 = (ptx q N).2.1) (hZ3 : Z.2.2.2 = (ptx q N).2.2.2) (hnZ : nn3 Z) (hcn : Z.1 = 0 → 0 ≤ Z.2.2.2 108 ∧ Z.2.2.2 108 < 600) (hRZ : RS q N Z mZ) (hg : ag [80, 81, 82, 83, 84, 85] m mZ) (hPA : (ptx q N).1 ≠ 0 ∧ (ptx q N).1 ≤ 4 → ∀ m', ag [80, 81, 82, 83, 84, 85] m m' → m' 80 9 = ((ptx q N).2.1 : Int) → P (some (vi ((ptx q N).1 : Int))) (gS (fu f 82 2) D n) m') (hPB : (ptx q N).1 = 0 → ∀ f' D' n' m', (n ≤ n' ∧ f' 82 < n') → (∀ c, c ≠ 82 → f' c = f c) → (∀ c, c < n → D' c = D c) → (∀ c, c < n → c ∉ ([80, 81, 82, 83, 84, 85] : List Nat) → m' c = m c) → rdO (ptx q N).2.2.2 f' D' m' → P (some (vi 0)) (gS f' D' n') m') : xX E (("read", some .int, []), (21, 1, 600), P, PX) RX3 cX3_read 3 0 0 83 [(0, vr E 80)] [] (gS (fu f 82 2) D n) mZ := by
  have hfl := (hRZ.get hnZ).1.2.2.1
  have h4 := (hRZ.get hnZ).1.2.2.2.2.1
  refine x_aload_n dX3_read_83 rfl ?_
  refine x_getI fX3_39 dX3_read_84 rfl ?_
  refine x_top (hfl) ?_
  refine x_if_ne (tgt := 115) dX3_read_87 (by decide) (by omega) (fun h87 => ?_) (fun h87 => ?_)
  · refine x_aload_n dX3_read_115 rfl ?_
    refine x_getI fX3_39 dX3_read_116 rfl ?_
    refine x_top (hfl) ?_
    exact x_iret dX3_read_119  (by rw [hZ1]; exact hPA ⟨by omega, by rw [← hZ1]; exact (hRZ.get hnZ).1.2.2.2.2.1⟩ _ hg (by rw [← hZ2]; exact (hRZ.get hnZ).1.2.2.2.1 (by omega)))
  · have h0 : Z.1 = 0 := by omega
    obtain ⟨o1, o2, o3, o4, o5, o6, o7⟩ := hRZ.out hnZ h0
    refine x_aload_n dX3_read_90 rfl ?_
    refine x_getI fX3_42 dX3_read_91 rfl ?_
    refine x_top (o1) ?_
    refine x_if_le (tgt := 115) dX3_read_94 (by decide) (by have := hcn h0; omega) (fun h94 => ?_) (fun h94 => ?_)
    · refine x_aload_n dX3_read_115 rfl ?_
      refine x_getI fX3_39 dX3_read_116 rfl ?_
      refine x_top (hfl) ?_
      exact x_iret dX3_read_119  (by rw [show ((Z.1 : Nat) : Int) = 0 by omega]; exact hPB (by omega) (fu f 82 2) D n mZ ⟨Nat.le_refl _, by rw [fu_s]; omega⟩ (fun c hc => fu_n hc) (fun _ _ => rfl) (fun c _ hc => hg c hc) (by rw [← hZ3]; exact ⟨o3, o4, o5, o6, Or.inl ⟨by omega, fu_s⟩, o7⟩))
    · have hcn9 := hcn h0
      obtain ⟨kk, hkk⟩ : ∃ kk : Nat, Z.2.2.2 108 = (kk : Int) := ⟨(Z.2.2.2 108).toNat, by omega⟩
      refine x_aload_n dX3_read_97 rfl ?_
      refine x_getR (r := 82) fX3_18 dX3_read_98 rfl rfl ?_
      refine x_aload_n dX3_read_101 rfl ?_
      refine x_getR (r := 81) fX3_9 dX3_read_102 rfl rfl ?_
      refine x_aload_n dX3_read_105 rfl ?_
      refine x_getI fX3_42 dX3_read_106 rfl ?_
      refine x_top (o1.trans hkk) ?_
      refine x_S2 mX3_65 dX3_read_109 (s_copyOf hn (k := kk) (by omega) (fun m9 ho9 hi9 => ?_))
      refine x_putR fX3_71 dX3_read_112 rfl (by decide) rfl ?_
      rw [gS_fu (by decide)]
      refine x_aload_n dX3_read_115 rfl ?_
      refine x_getI fX3_39 dX3_read_116 rfl ?_
      refine x_top (show m9 80 5 = 0 by rw [ho9 80 (by omega)]; exact hfl.trans (by omega)) ?_
      exact x_iret dX3_read_119  (hPB (by omega) (fu (fu f 82 2) 82 n) (Du D n (8, kk)) (n + 1) m9 ⟨by omega, by rw [fu_s]; omega⟩ (fun c hc => by rw [fu_n hc, fu_n hc]) (fun c hc => if_neg (by omega)) (fun c hc hc2 => by rw [ho9 c (by omega)]; exact hg c hc2) (by rw [← hZ3]; refine ⟨fun j hj => by rw [ho9 82 (by omega)]; exact o3 j hj, fun i hi => by rw [ho9 83 (by omega)]; exact o4 i hi, fun i hi => by rw [ho9 84 (by omega)]; exact o5 i hi, fun i hi => by rw [ho9 85 (by omega)]; exact o6 i hi, Or.inr ⟨by omega, by rw [fu_s]; exact hn, ?_, fun k hk => ?_⟩, by rw [ho9 82 (by omega)]; exact o7⟩; (rw [fu_s]; unfold Du; rw [if_pos rfl]; congr 1; omega); (rw [fu_s, hi9 k (by omega)]; exact o2 k hk)))

theorem pcl_c {q : Nat → Int} {N : Nat} {X : pX} (hX : X.1 = 0) (hN : X.2.2.1 ≤ N) (hN6 : N ≤ 600) (hK : pK X.2.2.2) (h2 : 2 ≤ X.2.2.1) (hc : 0 ≤ X.2.2.2 108 ∧ X.2.2.2 108 < 600) (h : (pnd q N 59 (pst q N X)).1 = 0) : 0 ≤ (pnd q N 59 (pst q N X)).2.2.2 108 ∧ (pnd q N 59 (pst q N X)).2.2.2 108 < 600 := by
  have h1 := pnd_0 h
  rw [pnd_r]
  obtain ⟨hv, k0, k1, k2, k3, k4⟩ := id hK
  by_cases c1 : pwT q N 1 X
  · rw [pst_1 c1] at h1 ⊢
    have hp := pwX_p (by omega) hN c1
    by_cases c : X.2.2.2 3 < 6
    · rw [if_pos c] at h1 ⊢
      rw [(pwav_K hp.2 (by rw [pwX_r]; exact hv) (by rw [pwX_r]; exact c) h1).2.2.2.2 108 (by omega) (by omega), pwX_r]; exact hc
    · rw [if_neg c] at h1; exact absurd h1 (by show (3 : Nat) ≠ 0; omega)
  · by_cases c2 : pwT q N 2 X
    · rw [pst_2 c1 c2] at h1 ⊢
      have hp := pwX_p (by omega) hN c2
      by_cases c : X.2.2.2 4 < 6
      · rw [if_pos c] at h1 ⊢
        rw [(pbar_K hp.2 (by rw [pwX_r]; exact hv) (by rw [pwX_r]; exact c) h1).2.2.2.2 108 (by omega) (by omega), pwX_r]; exact hc
      · rw [if_neg c] at h1; exact absurd h1 (by show (3 : Nat) ≠ 0; omega)
    · by_cases c3 : pwT q N 4 X
      · rw [pst_3 c1 c2 c3] at h1 ⊢
        have hp := pwX_p (by omega) hN c3
        by_cases c : X.2.2.2 5 < 6
        · rw [if_pos c] at h1 ⊢
          rw [(pshp_K hp.2 (by rw [pwX_r]; exact hv) (by rw [pwX_r]; exact c) h1).2.2.2.2 108 (by omega) (by omega), pwX_r]; exact hc
        · rw [if_neg c] at h1; exact absurd h1 (by show (3 : Nat) ≠ 0; omega)
      · by_cases c4 : X.2.2.2 900 = 0 ∧ pwT q N 6 X
        · rw [pst_4 c1 c2 c3 c4.1 c4.2] at h1 ⊢
          have hp := pwX_p (by omega) hN c4.2
          obtain ⟨-, a1, a2, n, n', e1, e2, e3, e4, -⟩ := psm4_q (q := q) (N := N) (X := pset 900 1 (pwX q N 6 X)) (pwX_0.trans hX) hp.2 (by rw [pset_ne (by omega), pwX_r]; exact k3 c4.1) h1
          rw [pset_ne (by omega), pwX_r, k3 c4.1] at e1
          have e4' : n' + (pwX q N 6 X).2.2.1 + 0 ≤ n + (psm q N (pun q N 4) (pset 900 1 (pwX q N 6 X))).2.2.1 := e4
          rw [e2]
          omega
        · by_cases c5 : X.2.2.2 901 = 0 ∧ pwT q N 11 X
          · rw [pst_5 c1 c2 c3 c4 c5.1 c5.2, pnum_o (by omega), pset_ne (by omega), pwX_r]; exact hc
          · by_cases c6 : X.2.2.2 902 = 0 ∧ pwT q N 12 X
            · rw [pst_6 c1 c2 c3 c4 c5 c6.1 c6.2, psrg_o (by omega), pset_ne (by omega), pwX_r]; exact hc
            · rw [pst_7 hX c1 c2 c3 c4 c5 c6] at h1
              exact absurd h1 (by show (1 : Nat) ≠ 0; omega)
set_option maxRecDepth 20000 in
theorem rd_51 {E : xE} {f : Nat → Nat} {D : Nat → Nat × Nat} {n : Nat} {m : xM} {P : xPo} {PX : xPx} {q : Nat → Int} {N : Nat} (hL : eL E) (hn : 112 ≤ n) (hN6 : N ≤ 600) (hPA : (ptx q N).1 ≠ 0 ∧ (ptx q N).1 ≤ 4 → ∀ m', ag [80, 81, 82, 83, 84, 85] m m' → m' 80 9 = ((ptx q N).2.1 : Int) → P (some (vi ((ptx q N).1 : Int))) (gS (fu f 82 2) D n) m') (hPB : (ptx q N).1 = 0 → ∀ f' D' n' m', (n ≤ n' ∧ f' 82 < n') → (∀ c, c ≠ 82 → f' c = f c) → (∀ c, c < n → D' c = D c) → (∀ c, c < n → c ∉ ([80, 81, 82, 83, 84, 85] : List Nat) → m' c = m c) → rdO (ptx q N).2.2.2 f' D' m' → P (some (vi 0)) (gS f' D' n') m') : ∀ (j i : Nat) (Y : pX) (mY : xM), j + i = 600 → RS q N Y mY → (Y.1 = 0 → Y.2.2.1 ≤ N ∧ 2 ≤ Y.2.2.1 ∧ pK Y.2.2.2 ∧ (0 ≤ Y.2.2.2 108 ∧ Y.2.2.2 108 < 600)) → pln q N j Y = ptx q N → ag [80, 81, 82, 83, 84, 85] m mY → xX E (("read", some .int, []), (21, 1, 600), P, PX) RX3 cX3_read 3 0 0 51 [(0, vr E 80), (2, vi (i : Int))] [] (gS (fu f 82 2) D n) mY := by
  intro j
  induction j with
  | zero =>
    intro i Y mY h1 hRY hY hfin hg
    have hnY : nn3 Y := fun z => by have k := (hY z).2.2.1.1.1; exact ⟨k.2.2.2.1.1.1, k.2.2.2.2.1.1.1, k.2.2.2.2.2.1.1⟩
    have hcY : Y.1 = 0 → 0 ≤ Y.2.2.2 108 ∧ Y.2.2.2 108 < 600 := fun z => (hY z).2.2.2
    refine x_iload_n dX3_read_51 rfl ?_
    refine x_sipush dX3_read_52 (h := ?_)
    refine x_icmp_ge (tgt := 83) dX3_read_55 (by decide) (by omega) (fun h55 => ?_) (fun h55 => absurd (by omega) h55)
    have hfin : Y = ptx q N := hfin
    exact x_loc (lv' := [(0, vr E 80)]) ⟨rfl, trivial⟩ (rd_83 (Z := Y) hn (by rw [← hfin]) (by rw [← hfin]) (by rw [← hfin]) hnY hcY hRY hg hPA hPB)
  | succ j ih =>
    intro i Y mY h1 hRY hY hfin hg
    have hnY : nn3 Y := fun z => by have k := (hY z).2.2.1.1.1; exact ⟨k.2.2.2.1.1.1, k.2.2.2.2.1.1.1, k.2.2.2.2.2.1.1⟩
    have hcY : Y.1 = 0 → 0 ≤ Y.2.2.2 108 ∧ Y.2.2.2 108 < 600 := fun z => (hY z).2.2.2
    have hflY := (hRY.get hnY).1.2.2.1
    have h4Y := (hRY.get hnY).1.2.2.2.2.1
    refine x_iload_n dX3_read_51 rfl ?_
    refine x_sipush dX3_read_52 (h := ?_)
    refine x_icmp_ge (tgt := 83) dX3_read_55 (by decide) (by omega) (fun h55 => absurd h55 (by omega)) (fun h55 => ?_)
    refine x_aload_n dX3_read_58 rfl ?_
    refine x_getI fX3_39 dX3_read_59 rfl ?_
    refine x_top (hflY) ?_
    refine x_if_ne (tgt := 83) dX3_read_62 (by decide) (by omega) (fun h62 => ?_) (fun h62 => ?_)
    · have h0 : Y.1 ≠ 0 := by omega
      have hfin9 : Y = ptx q N := by rw [← hfin, pln, if_neg h0]
      exact x_loc (lv' := [(0, vr E 80)]) ⟨rfl, trivial⟩ (rd_83 (Z := Y) hn (by rw [← hfin9]) (by rw [← hfin9]) (by rw [← hfin9]) hnY (fun z => hcY z) hRY hg hPA hPB)
    · have h0 : Y.1 = 0 := by omega
      have hsk := skp_b (q := q) (hY h0).1
      have hsN : (pskip q N Y).2.2.1 ≤ N := by rw [pskip_0 h0]; exact hsk.2.1
      refine x_aload_n dX3_read_65 rfl ?_
      refine x_V0 mX3_58 dX3_read_66 rfl (s_peekSign (hRY.get hnY).1 (fun m1 r1 hc1 hS1 hr1 hs1 => ?_))
      have hs1 := (hs1 h0).2
      have hR1 : RS q N (pskip q N Y) m1 := hRY.leaf hnY hS1 (hc1.wk (by decide)) pskip_r (fun _ => h0)
      have hn1 : nn3 (pskip q N Y) := fun _ => by rw [pskip_r]; exact hnY h0
      refine x_iconst dX3_read_69 ?_
      refine x_icmp_eq (tgt := 83) dX3_read_70 (by decide) (by omega) (fun h70 => ?_) (fun h70 => ?_)
      · have hfin9 : Y = ptx q N := by rw [← hfin, pln, if_pos h0, if_neg (hs1.mp (by omega))]
        exact x_loc (lv' := [(0, vr E 80)]) ⟨rfl, trivial⟩ (rd_83 (Z := pskip q N Y) hn (pskip_1.trans (by rw [← hfin9])) (pskip_2.trans (by rw [← hfin9])) (pskip_r.trans (by rw [← hfin9])) hn1 (fun z => (by rw [pskip_r]; exact hcY (pskip_1.symm.trans z))) hR1 (hg.tr1 (hc1.1.wk (by decide))) hPA hPB)
      · have hlt : skp q N Y.2.2.1 < N := Classical.not_not.mp (fun z => h70 (hs1.mpr z))
        have hv9 := (hY h0).2.2.1.1.1
        obtain ⟨w3, hw3⟩ := nat_of hv9.2.2.2.1.1.1
        obtain ⟨w4, hw4⟩ := nat_of hv9.2.2.2.2.1.1.1
        obtain ⟨w5, hw5⟩ := nat_of hv9.2.2.2.2.2.1.1
        refine x_aload_n dX3_read_73 rfl ?_
        refine x_V0 mX3_62 dX3_read_74 rfl (s_readStatement (w3 := w3) (w4 := w4) (w5 := w5) hL (pskip_1.trans h0) hsN hN6 (by rw [pskip_0 h0]; show 2 ≤ skp q N Y.2.2.1; have := (hY h0).2.1; omega) (by rw [pskip_r]; exact (hY h0).2.2.1) (by rw [pskip_r]; exact hw3) (by rw [pskip_r]; exact hw4) (by rw [pskip_r]; exact hw5) (hR1 w3 w4 w5 (fun _ => by rw [pskip_r]; exact ⟨hw3, hw4, hw5⟩)) (fun m2 hg2 hR2 => ?_))
        have hcl := fun z => pcl_c (q := q) (N := N) (X := pskip q N Y) (pskip_1.trans h0) hsN hN6 (by rw [pskip_r]; exact (hY h0).2.2.1) (by rw [pskip_0 h0]; show 2 ≤ skp q N Y.2.2.1; have := (hY h0).2.1; omega) (by rw [pskip_r]; exact (hY h0).2.2.2) z
        refine x_iinc dX3_read_77 rfl ?_
        refine x_goto (tgt := 51) dX3_read_80 (by decide) ?_
        exact x_loc (lv' := [(0, vr E 80), (2, vi ((i + 1 : Nat) : Int))]) ⟨rfl, xl_i rfl (by omega), trivial⟩ (ih (i + 1) _ m2 (by omega) hR2 (fun z => by have k := pline_K (q := q) (N := N) (X := pskip q N Y) (pskip_1.trans h0) hsN hN6 (by rw [pskip_r]; exact (hY h0).2.2.1) z; exact ⟨k.2.2, by have := hsk.1; rw [pskip_0 h0] at k; have h1 : skp q N Y.2.2.1 < _ := k.2.1; rw [← pskip_0 h0] at h1; omega, k.1, hcl z⟩) (by rw [← hfin, pln, if_pos h0, if_pos hlt]) ((hg.tr1 (hc1.1.wk (by decide))).tr1 hg2))

theorem pmn_0 {q : Nat → Int} {N : Nat} (h : (pmn q N).1 = 0) : (pmn q N).2.2.2 3 = 0 ∧ (pmn q N).2.2.2 4 = 0 ∧ (pmn q N).2.2.2 5 = 0 ∧ (pmn q N).2.2.2 108 = 0 := by
  rw [pmn_e, pnd_r, pnum_o (by omega), pnum_o (by omega), pnum_o (by omega), pnum_o (by omega)]
  unfold pm0
  split <;> exact ⟨rfl, rfl, rfl, rfl⟩
set_option maxRecDepth 20000 in
theorem s_read {E : xE} {f : Nat → Nat} {D : Nat → Nat × Nat} {n : Nat} {m : xM} {P : xPo} {PX : xPx} {q : Nat → Int} {N : Nat} (hL : eL E) (hn : 112 ≤ n) (hN6 : N ≤ 600) (hq : ∀ k, k < N → m 79 k = q k ∧ -128 ≤ q k ∧ q k ≤ 127) (hPA : (ptx q N).1 ≠ 0 ∧ (ptx q N).1 ≤ 4 → ∀ m', ag [80, 81, 82, 83, 84, 85] m m' → m' 80 9 = ((ptx q N).2.1 : Int) → P (some (vi ((ptx q N).1 : Int))) (gS (fu f 82 2) D n) m') (hPB : (ptx q N).1 = 0 → ∀ f' D' n' m', (n ≤ n' ∧ f' 82 < n') → (∀ c, c ≠ 82 → f' c = f c) → (∀ c, c < n → D' c = D c) → (∀ c, c < n → c ∉ ([80, 81, 82, 83, 84, 85] : List Nat) → m' c = m c) → rdO (ptx q N).2.2.2 f' D' m' → P (some (vi 0)) (gS f' D' n') m') : xC E (yX3_read, cX3_read, 3, some .int) 21 1 600 [vr E 80, vi (N : Int)] (gS f D n) m P PX := by
  refine x_enter (by decide) rfl rfl (Nat.le_of_ble_eq_true rfl) ?_
  refine x_aload_n dX3_read_0 rfl ?_
  refine x_iconst dX3_read_1 ?_
  refine x_putI fX3_26 dX3_read_2 rfl (by decide) rfl rfl ?_
  refine x_aload_n dX3_read_5 rfl ?_
  refine x_iload_n dX3_read_6 rfl ?_
  refine x_aload_n dX3_read_7 rfl ?_
  refine x_getR (r := 79) fX3_22 dX3_read_8 rfl rfl ?_
  refine x_alen (t := 7) (N := 600) dX3_read_11 rfl (by decide) rfl ?_
  refine x_S2 mX3_30 dX3_read_12 (s_min (by omega) ?_)
  refine x_top (show min (N : Int) ((600 : Nat) : Int) = (N : Int) by omega) ?_
  refine x_putI fX3_36 dX3_read_15 rfl (by decide) rfl rfl ?_
  refine x_aload_n dX3_read_18 rfl ?_
  refine x_iconst dX3_read_19 ?_
  refine x_putI fX3_39 dX3_read_20 rfl (by decide) rfl rfl ?_
  refine x_aload_n dX3_read_23 rfl ?_
  refine x_iconst dX3_read_24 ?_
  refine x_putI fX3_42 dX3_read_25 rfl (by decide) rfl rfl ?_
  refine x_aload_n dX3_read_28 rfl ?_
  refine x_iconst dX3_read_29 ?_
  refine x_putZ fX3_45 dX3_read_30 rfl (by decide) rfl rfl (by omega) ?_
  refine x_aload_n dX3_read_33 rfl ?_
  refine x_iconst dX3_read_34 ?_
  refine x_putZ fX3_49 dX3_read_35 rfl (by decide) rfl rfl (by omega) ?_
  refine x_aload_n dX3_read_38 rfl ?_
  refine x_getR (r := 82) fX3_18 dX3_read_39 rfl rfl ?_
  refine x_V0 mX3_52 dX3_read_42 rfl (s_clear (fun m1 hg1 hc1 => ?_))
  have hR1 : RC q N (0, 0, 0, pr0) 0 0 0 m1 := by
    refine ⟨⟨⟨0, ?_, Nat.zero_le _, fun _ => rfl⟩, ?_, ?_, fun z => absurd rfl z, Nat.zero_le _, hN6, fun k hk => ?_⟩, ?_, fun _ => ⟨?_, by decide, fun i hi => ?_, ?_, ?_, fun j hj => ?_, fun i hi => by omega, fun i hi => by omega, fun i hi => by omega, Or.inl ⟨hc1.2.2.2.2.2.2, fun i hi => ?_⟩⟩⟩
    · rw [hg1 80 (by decide)]; simp [xu]
    · rw [hg1 80 (by decide)]; simp [xu]
    · rw [hg1 80 (by decide)]; simp [xu]
    · rw [hg1 79 (by decide)]; simp [xu]; exact hq k hk
    · rw [hg1 80 (by decide)]; simp [xu]
    · rw [hg1 80 (by decide)]; simp [xu]; rfl
    · have : (i : Int) < 0 := hi
      omega
    · rw [hg1 80 (by decide)]; simp [xu]; rfl
    · rw [hg1 80 (by decide)]; simp [xu]; rfl
    · rcases (by omega : j = 0 ∨ j = 1 ∨ j = 2 ∨ j = 3 ∨ j = 4 ∨ j = 5) with rfl | rfl | rfl | rfl | rfl | rfl
      · exact hc1.1
      · exact hc1.2.1
      · exact hc1.2.2.1
      · exact hc1.2.2.2.1
      · exact hc1.2.2.2.2.1
      · exact hc1.2.2.2.2.2.1
    · have : (i : Int) < 0 := hi
      omega
  have hg2 : ag [80, 81, 82, 83, 84, 85] m m1 := by
    intro c hc
    rw [hg1 c (fun z => hc (by rw [List.mem_singleton.mp z]; decide))]
    have e : c ≠ 80 := fun z => hc (by rw [z]; decide)
    simp only [xu_ne e]
  refine x_aload_n dX3_read_45 rfl ?_
  refine x_V0 mX3_55 dX3_read_46 rfl (s_readMean hR1 (fun m2 hg3 hR2 => ?_))
  refine x_iconst dX3_read_49 ?_
  refine x_istore_n dX3_read_50 ?_
  exact x_loc (lv' := [(0, vr E 80), (2, vi ((0 : Nat) : Int))]) ⟨rfl, rfl, trivial⟩ (rd_51 hL hn hN6 hPA hPB 600 0 (pmn q N) m2 (by omega) (RS.of hR2 (fun z => by have k := pmn_0 z; omega)) (fun z => by have k := pmn_K z; have k2 := pmn_0 z; exact ⟨k.1, by omega, k.2.2, by omega⟩) rfl (hg2.tr1 (hg3.wk (by decide))))

end CTX
