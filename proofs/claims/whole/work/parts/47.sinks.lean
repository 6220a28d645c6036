section SI
theorem fd_op {v : Nat → Int} {k : Nat} (h : fi v k ≤ -11) : fd v (k + 1) = fd v k - 1 := by
  show (if fi v k ≤ -11 then fd v k - 1 else fd v k + 1) = _
  rw [if_pos h]
theorem fd_va {v : Nat → Int} {k : Nat} (h : ¬ fi v k ≤ -11) : fd v (k + 1) = fd v k + 1 := by
  show (if fi v k ≤ -11 then fd v k - 1 else fd v k + 1) = _
  rw [if_neg h]
theorem fs_op {v : Nat → Int} {sp bk dr w : Int} {k i : Nat} (h : fi v k ≤ -11) : fs v sp bk dr w (k + 1) i = if i = fd v k - 2 then fj (fi v k) (fs v sp bk dr w k (fd v k - 2)) (fs v sp bk dr w k (fd v k - 1)) else fs v sp bk dr w k i := by
  rw [fs, if_pos h]
theorem fs_va {v : Nat → Int} {sp bk dr w : Int} {k i : Nat} (h : ¬ fi v k ≤ -11) : fs v sp bk dr w (k + 1) i = if i = fd v k then fv (fi v k) sp bk dr w else fs v sp bk dr w k i := by
  rw [fs, if_neg h]
theorem xu_if {m : xM} {c j i : Nat} {z : Int} : xu m c j z c i = if i = j then z else m c i := by rw [xu_eq]
/-- the class's items by the model's -/
def cv (c : Int) : Int := if c ≤ -11 then c + 6 else c
/-- the formula that the chart has -/
def cF (v : Nat → Int) (f : Nat → Nat) (D : Nat → Nat × Nat) (m : xM) : Prop :=
  ((v 108 = 0 ∧ f 41 = 2) ∨ (0 < v 108 ∧ 112 ≤ f 41 ∧ D (f 41) = (8, (v 108).toNat) ∧ ∀ k : Nat, (k : Int) < v 108 → m (f 41) k = cv (fi v k))) ∧
  ((m 41 10 = 0 ∧ ∀ k : Nat, (k : Int) < v 108 → fi v k ≠ -4) ∨ m 41 10 = 1)
/-- the static arrays that are read: NO_FORMULA is empty, the limits -/
def eOk (E : xE) : Prop := (E.2.2.2.2.2 2).1 = 0
theorem gS_k {f : Nat → Nat} {D : Nat → Nat × Nat} {n c : Nat} (h : 112 ≤ c) : (gS f D n).2.1 c = (D c).1 := by
  show (if c < 112 then _ else _) = _
  rw [if_neg (by omega)]
theorem gS_l {f : Nat → Nat} {D : Nat → Nat × Nat} {n c : Nat} (h : 112 ≤ c) : (gS f D n).2.2.1 c = (D c).2 := by
  show (if c < 112 then _ else _) = _
  rw [if_neg (by omega)]
theorem cT.ag {v : Nat → Int} {m m' : xM} {S : List Nat} (h : cT v m) (ha : ag S m m') (h1 : 41 ∉ S) (h2 : 42 ∉ S) (h3 : 43 ∉ S) (h4 : 44 ∉ S) (h5 : 86 ∉ S) (h6 : 87 ∉ S) : cT v m' := by
  refine ⟨h.1.ag ha h1 h2 h3 h4, ?_, ?_, ?_⟩
  · have := h.2.1
    unfold cK at *
    rw [ha 41 h1, ha 86 h5, ha 87 h6]
    exact this
  · rw [ha 41 h1]; exact h.2.2.1
  · rw [ha 86 h5]; exact h.2.2.2
theorem cF.ag {v : Nat → Int} {f : Nat → Nat} {D : Nat → Nat × Nat} {m m' : xM} {S : List Nat} (h : cF v f D m) (ha : ag S m m') (h1 : 41 ∉ S) (hS : ∀ c ∈ S, c < 112) : cF v f D m' := by
  refine ⟨?_, by rw [ha 41 h1]; exact h.2⟩
  rcases h.1 with q | ⟨q1, q2, q3, q4⟩
  · exact Or.inl q
  · exact Or.inr ⟨q1, q2, q3, fun k hk => by rw [ha (f 41) (fun z => by have := hS _ z; omega)]; exact q4 k hk⟩
/-- the class's chart holds v; what it stands on -/
def cV (v : Nat → Int) (f : Nat → Nat) (D : Nat → Nat × Nat) (m : xM) : Prop := vOk v ∧ cT v m ∧ cF v f D m
theorem cV.t {v : Nat → Int} {f : Nat → Nat} {D : Nat → Nat × Nat} {m m' : xM} {S : List Nat} (h : cV v f D m) (ha : ag S m m') (hT : cT v m') (h1 : 41 ∉ S) (hS : ∀ c ∈ S, c < 112) : cV v f D m' := ⟨h.1, hT, h.2.2.ag ha h1 hS⟩
theorem cV.ag {v : Nat → Int} {f : Nat → Nat} {D : Nat → Nat × Nat} {m m' : xM} {S : List Nat} (h : cV v f D m) (ha : ag S m m') (h1 : 41 ∉ S) (h2 : 42 ∉ S) (h3 : 43 ∉ S) (h4 : 44 ∉ S) (h5 : 86 ∉ S) (h6 : 87 ∉ S) (hS : ∀ c ∈ S, c < 112) : cV v f D m' := ⟨h.1, h.2.1.ag ha h1 h2 h3 h4 h5 h6, h.2.2.ag ha h1 hS⟩
set_option maxRecDepth 20000 in
theorem s_held {E : xE} {g : xG} {m : xM} {P : xPo} {PX : xPx} {z : Int} (hz : -4000000000000000000 ≤ z ∧ z ≤ 4000000000000000000) (hP : P (some (vl (hd z))) g m) : xC E (yX2_held, cX2_held, 2, some .long) 0 0 0 [vl z] g m P PX := by
  refine x_enter (by decide) rfl rfl (Nat.le_of_ble_eq_true rfl) ?_
  refine x_lload_n dX2_held_0 rfl ?_
  refine x_ldc2_w kX2_71 dX2_held_1 ?_
  refine x_lle (tgt := 14) dX2_held_4 dX2_held_5 (by decide) (by omega) (fun h4 => ?_) (fun h4 => ?_)
  · refine x_lload_n dX2_held_14 rfl ?_
    refine x_ldc2_w kX2_73 dX2_held_15 ?_
    refine x_lge (tgt := 28) dX2_held_18 dX2_held_19 (by decide) (by omega) (fun h18 => ?_) (fun h18 => ?_)
    · refine x_lload_n dX2_held_28 rfl ?_
      exact x_lret dX2_held_29 ((by unfold hd at hP; first | (rw [show max (-1000000000) (min 1000000000 z) = 1000000000 by omega] at hP; exact hP) | (rw [show max (-1000000000) (min 1000000000 z) = -1000000000 by omega] at hP; exact hP) | (rw [show max (-1000000000) (min 1000000000 z) = z by omega] at hP; exact hP)))
    · refine x_ldc2_w kX2_73 dX2_held_22 ?_
      refine x_goto (tgt := 29) dX2_held_25 (by decide) ?_
      exact x_lret dX2_held_29 ((by unfold hd at hP; first | (rw [show max (-1000000000) (min 1000000000 z) = 1000000000 by omega] at hP; exact hP) | (rw [show max (-1000000000) (min 1000000000 z) = -1000000000 by omega] at hP; exact hP) | (rw [show max (-1000000000) (min 1000000000 z) = z by omega] at hP; exact hP)))
  · refine x_ldc2_w kX2_71 dX2_held_8 ?_
    refine x_goto (tgt := 29) dX2_held_11 (by decide) ?_
    exact x_lret dX2_held_29 ((by unfold hd at hP; first | (rw [show max (-1000000000) (min 1000000000 z) = 1000000000 by omega] at hP; exact hP) | (rw [show max (-1000000000) (min 1000000000 z) = -1000000000 by omega] at hP; exact hP) | (rw [show max (-1000000000) (min 1000000000 z) = z by omega] at hP; exact hP)))

set_option maxRecDepth 20000 in
theorem s_mheld {E : xE} {g : xG} {m : xM} {P : xPo} {PX : xPx} {z : Int} (hz : -4000000000000000000 ≤ z ∧ z ≤ 4000000000000000000) (hP : P (some (vl (hd z))) g m) : xC E (yX6_held, cX6_held, 2, some .long) 1 0 0 [vl z] g m P PX := by
  refine x_enter (by decide) rfl rfl (Nat.le_of_ble_eq_true rfl) ?_
  refine x_ldc2_w kX6_229 dX6_held_0 ?_
  refine x_ldc2_w kX6_231 dX6_held_3 ?_
  refine x_lload_n dX6_held_6 rfl ?_
  refine x_S2 mX6_233 dX6_held_7 (s_minL (by omega) ?_)
  refine x_S2 mX6_235 dX6_held_10 (s_maxL (by omega) ?_)
  exact x_lret dX6_held_13 (hP)

set_option maxRecDepth 20000 in
theorem s_joinedBy {E : xE} {g : xG} {m : xM} {P : xPo} {PX : xPx} {c a b : Int} (hc : c = -11 ∨ c = -12 ∨ c = -13 ∨ c = -14) (ha1 : -1000000000 ≤ a) (ha2 : a ≤ 1000000000) (hb1 : -1000000000 ≤ b) (hb2 : b ≤ 1000000000) (hP : P (some (vl (fj c a b))) g m) : xC E (yX2_joinedBy, cX2_joinedBy, 5, some .long) 1 0 0 [vi (c + 6), vl a, vl b] g m P PX := by
  refine x_enter (by decide) rfl rfl (Nat.le_of_ble_eq_true rfl) ?_
  have hm := mul_s (A := 1000000000) (B := 1000000000) ha1 ha2 hb1 hb2
  refine x_iload_n dX2_joinedBy_0 rfl ?_
  rcases hc with rfl | rfl | rfl | rfl
  · refine x_tswIn (off := 27) (tgt := 28) dX2_joinedBy_1 (by decide) (by decide) (by decide) (by decide) (by decide) ?_
    have hP : P (some (vl (hd (a + b)))) g m := hP
    refine x_lload_n dX2_joinedBy_28 rfl ?_
    refine x_lload_n dX2_joinedBy_29 rfl ?_
    refine x_ladd dX2_joinedBy_30 ?_
    refine x_S1 mX2_67 dX2_joinedBy_31 (s_held (by omega) ?_)
    exact x_lret dX2_joinedBy_34 (hP)
  · refine x_tswIn (off := 34) (tgt := 35) dX2_joinedBy_1 (by decide) (by decide) (by decide) (by decide) (by decide) ?_
    have hP : P (some (vl (hd (a - b)))) g m := hP
    refine x_lload_n dX2_joinedBy_35 rfl ?_
    refine x_lload_n dX2_joinedBy_36 rfl ?_
    refine x_lsub dX2_joinedBy_37 ?_
    refine x_S1 mX2_67 dX2_joinedBy_38 (s_held (by omega) ?_)
    exact x_lret dX2_joinedBy_41 (hP)
  · refine x_tswIn (off := 41) (tgt := 42) dX2_joinedBy_1 (by decide) (by decide) (by decide) (by decide) (by decide) ?_
    have hP : P (some (vl (hd (a * b)))) g m := hP
    refine x_lload_n dX2_joinedBy_42 rfl ?_
    refine x_lload_n dX2_joinedBy_43 rfl ?_
    refine x_lmul dX2_joinedBy_44 ?_
    refine x_S1 mX2_67 dX2_joinedBy_45 (s_held (by omega) ?_)
    exact x_lret dX2_joinedBy_48 (hP)
  · refine x_tswOut (tgt := 49) dX2_joinedBy_1 (by decide) (by decide) (by decide) ?_
    have hP : P (some (vl (if b = 0 then 0 else a.tdiv b))) g m := hP
    refine x_lload_n dX2_joinedBy_49 rfl ?_
    refine x_lconst0 dX2_joinedBy_50 ?_
    refine x_lne (tgt := 59) dX2_joinedBy_51 dX2_joinedBy_52 (by decide) (by omega) (fun h51 => ?_) (fun h51 => ?_)
    · refine x_lload_n dX2_joinedBy_59 rfl ?_
      refine x_lload_n dX2_joinedBy_60 rfl ?_
      refine x_ldiv dX2_joinedBy_61 (by omega) (by omega) ?_
      exact x_lret dX2_joinedBy_62 ((by first | (rw [if_pos h51] at hP; exact hP) | (rw [if_neg h51] at hP; exact hP)))
    · refine x_lconst0 dX2_joinedBy_55 ?_
      refine x_goto (tgt := 62) dX2_joinedBy_56 (by decide) ?_
      exact x_lret dX2_joinedBy_62 ((by first | (rw [if_pos h51] at hP; exact hP) | (rw [if_neg h51] at hP; exact hP)))

set_option maxRecDepth 20000 in
theorem s_joined0 {E : xE} {g : xG} {m : xM} {P : xPo} {PX : xPx} {c a b : Int} (hc : -14 ≤ c ∧ c ≤ -11) (ha1 : -1000000000 ≤ a) (ha2 : a ≤ 1000000000) (hb1 : -1000000000 ≤ b) (hb2 : b ≤ 1000000000) (hP : P (some (vl (fj c a b))) g m) : xC E (yX6_joined0, cX6_joined0, 5, some .long) 2 0 0 [vi c, vl a, vl b] g m P PX := by
  refine x_enter (by decide) rfl rfl (Nat.le_of_ble_eq_true rfl) ?_
  have hm := mul_s (A := 1000000000) (B := 1000000000) ha1 ha2 hb1 hb2
  unfold fj at hP
  refine x_iload_n dX6_joined0_0 rfl ?_
  refine x_bipush dX6_joined0_1 (h := ?_)
  refine x_icmp_ne (tgt := 13) dX6_joined0_3 (by decide) (by omega) (fun h3 => ?_) (fun h3 => ?_)
  · rw [if_neg h3] at hP
    refine x_iload_n dX6_joined0_13 rfl ?_
    refine x_bipush dX6_joined0_14 (h := ?_)
    refine x_icmp_ne (tgt := 26) dX6_joined0_16 (by decide) (by omega) (fun h16 => ?_) (fun h16 => ?_)
    · rw [if_neg h16] at hP
      refine x_iload_n dX6_joined0_26 rfl ?_
      refine x_bipush dX6_joined0_27 (h := ?_)
      refine x_icmp_ne (tgt := 39) dX6_joined0_29 (by decide) (by omega) (fun h29 => ?_) (fun h29 => ?_)
      · rw [if_neg h29] at hP
        refine x_lload_n dX6_joined0_39 rfl ?_
        refine x_lconst0 dX6_joined0_40 ?_
        refine x_lne (tgt := 49) dX6_joined0_41 dX6_joined0_42 (by decide) (by omega) (fun h41 => ?_) (fun h41 => ?_)
        · rw [if_neg h41] at hP
          have ht := tdiv_s ha1 ha2 h41
          refine x_lload_n dX6_joined0_49 rfl ?_
          refine x_lload_n dX6_joined0_50 rfl ?_
          refine x_ldiv dX6_joined0_51 (by omega) (by omega) ?_
          refine x_S1 mX6_237 dX6_joined0_52 (s_mheld (by omega) ?_)
          refine x_topl (show hd (a.tdiv b) = a.tdiv b by unfold hd; omega) ?_
          exact x_lret dX6_joined0_55 (hP)
        · rw [if_pos h41] at hP
          refine x_lconst0 dX6_joined0_45 ?_
          refine x_goto (tgt := 55) dX6_joined0_46 (by decide) ?_
          exact x_lret dX6_joined0_55 (hP)
      · rw [if_pos h29] at hP
        refine x_lload_n dX6_joined0_32 rfl ?_
        refine x_lload_n dX6_joined0_33 rfl ?_
        refine x_lmul dX6_joined0_34 ?_
        refine x_S1 mX6_237 dX6_joined0_35 (s_mheld (by omega) ?_)
        exact x_lret dX6_joined0_38 (hP)
    · rw [if_pos h16] at hP
      refine x_lload_n dX6_joined0_19 rfl ?_
      refine x_lload_n dX6_joined0_20 rfl ?_
      refine x_lsub dX6_joined0_21 ?_
      refine x_S1 mX6_237 dX6_joined0_22 (s_mheld (by omega) ?_)
      exact x_lret dX6_joined0_25 (hP)
  · rw [if_pos h3] at hP
    refine x_lload_n dX6_joined0_6 rfl ?_
    refine x_lload_n dX6_joined0_7 rfl ?_
    refine x_ladd dX6_joined0_8 ?_
    refine x_S1 mX6_237 dX6_joined0_9 (s_mheld (by omega) ?_)
    exact x_lret dX6_joined0_12 (hP)

set_option maxRecDepth 20000 in
theorem s_sinks {E : xE} {f : Nat → Nat} {D : Nat → Nat × Nat} {n : Nat} {m : xM} {P : xPo} {PX : xPx} {v : Nat → Int} {s : Nat} {sp dr w : Int} (hE : eOk E) (hV : cV v f D m) (hs : (s : Int) < v 5) (hsp : 4 ≤ sp ∧ sp ≤ 25) (hdr : 0 ≤ dr ∧ dr ≤ 3000) (hw : -10000 ≤ w ∧ w ≤ 20000) (hP : ∀ m', ag [89] m m' → P (some (vi (sk v s dr w sp))) (gS f D n) m') : xC E (yX2_sinks, cX2_sinks, 9, some .int) 2 0 0 [vr E 88, vi (s : Int), vi sp, vi dr, vi w] (gS f D n) m P PX := by
  refine x_enter (by decide) rfl rfl (Nat.le_of_ble_eq_true rfl) ?_
  have hv5 := hV.1.1.2.2.2.2.2.1
  have hv108 := hV.1.2.1
  obtain ⟨-, hbk, -⟩ := hV.1.1.2.2.2.2.2.2 s hs
  have hkb := sk_b (dr := dr) (w := w) hV.1 hs hsp
  refine x_aload_n dX2_sinks_0 rfl ?_
  refine x_getR (r := 41) fX2_35 dX2_sinks_1 rfl rfl ?_
  refine x_iload_n dX2_sinks_4 rfl ?_
  refine x_iconst dX2_sinks_5 ?_
  refine x_V2 mX2_43 dX2_sinks_6 rfl (s_shipOf (8 * s + 1) (by omega) (by omega) ?_)
  refine x_top (hV.2.1.1.2.2.2.s hs (by omega)) ?_
  refine x_istore dX2_sinks_9 ?_
  rcases hV.2.2.1 with ⟨hz, hf2⟩ | ⟨hpos, hf1, hDf, hfm0⟩
  ·
    refine x_aload_n dX2_sinks_11 rfl ?_
    refine x_getR (r := 41) fX2_35 dX2_sinks_12 rfl rfl ?_
    refine x_getR (r := 2) fX2_49 dX2_sinks_15 rfl hf2 ?_
    refine x_salen dX2_sinks_18 (by decide) (by decide) ?_
    refine x_top (show ((E.2.2.2.2.2 2).1 : Int) = 0 by rw [hE]; rfl) ?_
    refine x_if_ne (tgt := 32) dX2_sinks_19 (by decide) (by omega) (fun h19 => absurd rfl h19) (fun h19 => ?_)
    refine x_iload dX2_sinks_22 rfl ?_
    refine x_iload_n dX2_sinks_24 rfl ?_
    refine x_imul dX2_sinks_25 ?_
    refine x_iload_n dX2_sinks_26 rfl ?_
    refine x_imul dX2_sinks_27 ?_
    refine x_bipush dX2_sinks_28 (h := ?_)
    refine x_idiv dX2_sinks_30 (by omega) (by omega) ?_
    exact x_iret dX2_sinks_31  ((by have hP := hP m ag.rf; unfold sk at hP; rw [if_pos hz] at hP; exact hP))
  · have hfk : (gS f D n).2.1 (f 41) = 8 := by rw [gS_k hf1, hDf]
    have hfl : (gS f D n).2.2.1 (f 41) = (v 108).toNat := by rw [gS_l hf1, hDf]
    have hfm : ∀ m1, ag [89] m m1 → ∀ k : Nat, (k : Int) < v 108 → m1 (f 41) k = cv (fi v k) := by
      intro m1 ha k hk
      rw [ha (f 41) (by simp; omega)]
      exact hfm0 k hk
    have loop : ∀ (j k : Nat) (m1 : xM), (k : Int) ≤ v 108 → v 108 < (k : Int) + j → ag [89] m m1 → (∀ i, i < fd v k → m1 89 i = fs v sp (sh v s 1) dr w k i) → xX E (("sinks", some .int, []), (2, 0, 0), P, PX) RX2 cX2_sinks 9 0 0 38 [(0, vr E 88), (1, vi (s : Int)), (2, vi sp), (3, vi dr), (4, vi w), (5, vi (sh v s 1)), (6, vi ((fd v k : Nat) : Int)), (7, vi (k : Int))] [] (gS f D n) m1 := by
      intro j
      induction j with
      | zero => intro k m1 h1 h2; omega
      | succ j ih =>
        intro k m1 h1 h2 ha hst
        refine x_iload dX2_sinks_38 rfl ?_
        refine x_aload_n dX2_sinks_40 rfl ?_
        refine x_getR (r := 41) fX2_35 dX2_sinks_41 rfl rfl ?_
        refine x_getR (r := f 41) fX2_49 dX2_sinks_44 rfl rfl ?_
        refine x_alen (t := 8) (N := (v 108).toNat) dX2_sinks_47 hfk (by decide) hfl ?_
        refine x_icmp_ge (tgt := 185) dX2_sinks_48 (by decide) (by omega) (fun h48 => ?_) (fun h48 => ?_)
        · have hke : k = (v 108).toNat := by omega
          refine x_lconst0 dX2_sinks_185 ?_
          refine x_ldc2_w kX2_56 dX2_sinks_186 ?_
          refine x_aload_n dX2_sinks_189 rfl ?_
          refine x_getR (r := 89) fX2_11 dX2_sinks_190 rfl rfl ?_
          refine x_iconst dX2_sinks_193 ?_
          refine x_lald (j := 0) dX2_sinks_194 rfl (by omega) (show _ < 16 by omega) (by omega) ?_
          refine x_topl (hst 0 (by rw [hke]; have := hV.1.2.2.2 hpos; omega)) ?_
          have hfb0 := fs_b hV.1.2 (sp := sp) (bk := sh v s 1) (dr := dr) (w := w) (by omega) (by omega) (by omega) (by omega) k (by omega) 0
          refine x_S2 mX2_58 dX2_sinks_195 (s_minL (by omega) ?_)
          refine x_S2 mX2_64 dX2_sinks_198 (s_maxL (by omega) ?_)
          refine x_l2i dX2_sinks_201 ?_
          exact x_iret dX2_sinks_202  ((by rw [hke]; have hP := hP m1 ha; unfold sk at hP; rw [if_neg (by omega)] at hP; exact hP))
        · have hkl : (k : Int) < v 108 := by omega
          have hOK := hV.1.2.2.1 k hkl
          have hfb := fs_b hV.1.2 (sp := sp) (bk := sh v s 1) (dr := dr) (w := w) (by omega) (by omega) (by omega) (by omega) k (by omega)
          have hdb := fd_b hV.1.2 k (by omega)
          refine x_aload_n dX2_sinks_51 rfl ?_
          refine x_getR (r := 41) fX2_35 dX2_sinks_52 rfl rfl ?_
          refine x_getR (r := f 41) fX2_49 dX2_sinks_55 rfl rfl ?_
          refine x_iload dX2_sinks_58 rfl ?_
          refine x_iald (j := k) dX2_sinks_60 hfk (by omega) (by rw [hfl]; omega) (by omega) ?_
          refine x_top (hfm m1 ha k hkl) ?_
          obtain ⟨it, hit⟩ : ∃ it, it = cv (fi v k) := ⟨_, rfl⟩
          refine x_top hit.symm ?_
          have hit2 : (fi v k ≤ -11 ∧ it = fi v k + 6) ∨ (-11 < fi v k ∧ it = fi v k) := by unfold cv at hit; split at hit <;> omega
          refine x_istore dX2_sinks_61 ?_
          refine x_iload dX2_sinks_63 rfl ?_
          refine x_bipush dX2_sinks_65 (h := ?_)
          refine x_icmp_gt (tgt := 112) dX2_sinks_67 (by decide) (by omega) (fun h67 => ?_) (fun h67 => ?_)
          · have q : -4 ≤ fi v k ∧ fi v k ≤ 9999 ∧ fd v k < 16 := by omega
            have hitv : it = fi v k := by omega
            refine x_iload dX2_sinks_112 rfl ?_
            refine x_bipush dX2_sinks_114 (h := ?_)
            refine x_icmp_ge (tgt := 179) dX2_sinks_116 (by decide) (by omega) (fun h116 => absurd h116 (by omega)) (fun h116 => ?_)
            refine x_aload_n dX2_sinks_119 rfl ?_
            refine x_getR (r := 89) fX2_11 dX2_sinks_120 rfl rfl ?_
            refine x_iload dX2_sinks_123 rfl ?_
            refine x_iload dX2_sinks_125 rfl ?_
            refine x_if_lt (tgt := 136) dX2_sinks_127 (by decide) (by omega) (fun h127 => ?_) (fun h127 => ?_)
            · refine x_iload dX2_sinks_136 rfl ?_
              refine x_iconst dX2_sinks_138 ?_
              refine x_icmp_ne (tgt := 147) dX2_sinks_139 (by decide) (by omega) (fun h139 => ?_) (fun h139 => ?_)
              · refine x_iload dX2_sinks_147 rfl ?_
                refine x_bipush dX2_sinks_149 (h := ?_)
                refine x_icmp_ne (tgt := 160) dX2_sinks_151 (by decide) (by omega) (fun h151 => ?_) (fun h151 => ?_)
                · refine x_iload dX2_sinks_160 rfl ?_
                  refine x_bipush dX2_sinks_162 (h := ?_)
                  refine x_icmp_ne (tgt := 172) dX2_sinks_164 (by decide) (by omega) (fun h164 => ?_) (fun h164 => ?_)
                  · refine x_iload dX2_sinks_172 rfl ?_
                    refine x_i2l dX2_sinks_174 (by omega) ?_
                    refine x_last (j := fd v k) dX2_sinks_175 rfl (by decide) (by omega) (show _ < 16 by omega) (by omega) ?_
                    refine x_iinc dX2_sinks_176 rfl ?_
                    refine x_iinc dX2_sinks_179 rfl ?_
                    refine x_goto (tgt := 38) dX2_sinks_182 (by decide) ?_
                    refine x_loc (lv' := [(0, vr E 88), (1, vi (s : Int)), (2, vi sp), (3, vi dr), (4, vi w), (5, vi (sh v s 1)), (6, vi ((fd v (k + 1) : Nat) : Int)), (7, vi ((k + 1 : Nat) : Int))]) ⟨rfl, rfl, rfl, rfl, rfl, rfl, xl_i rfl (by rw [fd_va (by omega)]; omega), xl_i rfl (by omega), trivial⟩ (ih (k + 1) _ (by omega) (by omega) (ha.u (by decide)) (fun i hi => ?_))
                    rw [fd_va (by omega)] at hi
                    rw [fs_va (by omega), xu_if]
                    split
                    · unfold fv; rw [if_neg (by omega)]; rw [if_neg (by omega)]; rw [if_neg (by omega)]; rw [if_neg (by omega)]
                    · exact hst i (by omega)
                  · refine x_iload_n dX2_sinks_167 rfl ?_
                    refine x_i2l dX2_sinks_168 (by omega) ?_
                    refine x_goto (tgt := 175) dX2_sinks_169 (by decide) ?_
                    refine x_last (j := fd v k) dX2_sinks_175 rfl (by decide) (by omega) (show _ < 16 by omega) (by omega) ?_
                    refine x_iinc dX2_sinks_176 rfl ?_
                    refine x_iinc dX2_sinks_179 rfl ?_
                    refine x_goto (tgt := 38) dX2_sinks_182 (by decide) ?_
                    refine x_loc (lv' := [(0, vr E 88), (1, vi (s : Int)), (2, vi sp), (3, vi dr), (4, vi w), (5, vi (sh v s 1)), (6, vi ((fd v (k + 1) : Nat) : Int)), (7, vi ((k + 1 : Nat) : Int))]) ⟨rfl, rfl, rfl, rfl, rfl, rfl, xl_i rfl (by rw [fd_va (by omega)]; omega), xl_i rfl (by omega), trivial⟩ (ih (k + 1) _ (by omega) (by omega) (ha.u (by decide)) (fun i hi => ?_))
                    rw [fd_va (by omega)] at hi
                    rw [fs_va (by omega), xu_if]
                    split
                    · unfold fv; rw [if_neg (by omega)]; rw [if_neg (by omega)]; rw [if_neg (by omega)]; rw [if_pos (by omega)]
                    · exact hst i (by omega)
                · refine x_iload dX2_sinks_154 rfl ?_
                  refine x_i2l dX2_sinks_156 (by omega) ?_
                  refine x_goto (tgt := 175) dX2_sinks_157 (by decide) ?_
                  refine x_last (j := fd v k) dX2_sinks_175 rfl (by decide) (by omega) (show _ < 16 by omega) (by omega) ?_
                  refine x_iinc dX2_sinks_176 rfl ?_
                  refine x_iinc dX2_sinks_179 rfl ?_
                  refine x_goto (tgt := 38) dX2_sinks_182 (by decide) ?_
                  refine x_loc (lv' := [(0, vr E 88), (1, vi (s : Int)), (2, vi sp), (3, vi dr), (4, vi w), (5, vi (sh v s 1)), (6, vi ((fd v (k + 1) : Nat) : Int)), (7, vi ((k + 1 : Nat) : Int))]) ⟨rfl, rfl, rfl, rfl, rfl, rfl, xl_i rfl (by rw [fd_va (by omega)]; omega), xl_i rfl (by omega), trivial⟩ (ih (k + 1) _ (by omega) (by omega) (ha.u (by decide)) (fun i hi => ?_))
                  rw [fd_va (by omega)] at hi
                  rw [fs_va (by omega), xu_if]
                  split
                  · unfold fv; rw [if_neg (by omega)]; rw [if_neg (by omega)]; rw [if_pos (by omega)]
                  · exact hst i (by omega)
              · refine x_iload_n dX2_sinks_142 rfl ?_
                refine x_i2l dX2_sinks_143 (by omega) ?_
                refine x_goto (tgt := 175) dX2_sinks_144 (by decide) ?_
                refine x_last (j := fd v k) dX2_sinks_175 rfl (by decide) (by omega) (show _ < 16 by omega) (by omega) ?_
                refine x_iinc dX2_sinks_176 rfl ?_
                refine x_iinc dX2_sinks_179 rfl ?_
                refine x_goto (tgt := 38) dX2_sinks_182 (by decide) ?_
                refine x_loc (lv' := [(0, vr E 88), (1, vi (s : Int)), (2, vi sp), (3, vi dr), (4, vi w), (5, vi (sh v s 1)), (6, vi ((fd v (k + 1) : Nat) : Int)), (7, vi ((k + 1 : Nat) : Int))]) ⟨rfl, rfl, rfl, rfl, rfl, rfl, xl_i rfl (by rw [fd_va (by omega)]; omega), xl_i rfl (by omega), trivial⟩ (ih (k + 1) _ (by omega) (by omega) (ha.u (by decide)) (fun i hi => ?_))
                rw [fd_va (by omega)] at hi
                rw [fs_va (by omega), xu_if]
                split
                · unfold fv; rw [if_neg (by omega)]; rw [if_pos (by omega)]
                · exact hst i (by omega)
            · refine x_iload dX2_sinks_130 rfl ?_
              refine x_top (hitv) ?_
              refine x_i2l dX2_sinks_132 (by omega) ?_
              refine x_goto (tgt := 175) dX2_sinks_133 (by decide) ?_
              refine x_last (j := fd v k) dX2_sinks_175 rfl (by decide) (by omega) (show _ < 16 by omega) (by omega) ?_
              refine x_iinc dX2_sinks_176 rfl ?_
              refine x_iinc dX2_sinks_179 rfl ?_
              refine x_goto (tgt := 38) dX2_sinks_182 (by decide) ?_
              refine x_loc (lv' := [(0, vr E 88), (1, vi (s : Int)), (2, vi sp), (3, vi dr), (4, vi w), (5, vi (sh v s 1)), (6, vi ((fd v (k + 1) : Nat) : Int)), (7, vi ((k + 1 : Nat) : Int))]) ⟨rfl, rfl, rfl, rfl, rfl, rfl, xl_i rfl (by rw [fd_va (by omega)]; omega), xl_i rfl (by omega), trivial⟩ (ih (k + 1) _ (by omega) (by omega) (ha.u (by decide)) (fun i hi => ?_))
              rw [fd_va (by omega)] at hi
              rw [fs_va (by omega), xu_if]
              split
              · unfold fv; rw [if_pos (by omega)]
              · exact hst i (by omega)
          · have q : -14 ≤ fi v k ∧ fi v k ≤ -11 ∧ 2 ≤ fd v k := by omega
            refine x_iload dX2_sinks_70 rfl ?_
            refine x_iconst dX2_sinks_72 ?_
            refine x_icmp_lt (tgt := 179) dX2_sinks_73 (by decide) (by omega) (fun h73 => absurd h73 (by omega)) (fun h73 => ?_)
            refine x_iinc dX2_sinks_76 rfl ?_
            refine x_aload_n dX2_sinks_79 rfl ?_
            refine x_getR (r := 89) fX2_11 dX2_sinks_80 rfl rfl ?_
            refine x_iload dX2_sinks_83 rfl ?_
            refine x_iconst dX2_sinks_85 ?_
            refine x_isub dX2_sinks_86 ?_
            refine x_iload dX2_sinks_87 rfl ?_
            refine x_top (show it = fi v k + 6 by omega) ?_
            refine x_aload_n dX2_sinks_89 rfl ?_
            refine x_getR (r := 89) fX2_11 dX2_sinks_90 rfl rfl ?_
            refine x_iload dX2_sinks_93 rfl ?_
            refine x_iconst dX2_sinks_95 ?_
            refine x_isub dX2_sinks_96 ?_
            refine x_lald (j := fd v k - 2) dX2_sinks_97 rfl (by omega) (show _ < 16 by omega) (by omega) ?_
            refine x_topl (hst (fd v k - 2) (by omega)) ?_
            refine x_aload_n dX2_sinks_98 rfl ?_
            refine x_getR (r := 89) fX2_11 dX2_sinks_99 rfl rfl ?_
            refine x_iload dX2_sinks_102 rfl ?_
            refine x_lald (j := fd v k - 1) dX2_sinks_104 rfl (by omega) (show _ < 16 by omega) (by omega) ?_
            refine x_topl (hst (fd v k - 1) (by omega)) ?_
            refine x_S3 mX2_52 dX2_sinks_105 (s_joinedBy (c := fi v k) (by omega) (hfb _).1 (hfb _).2 (hfb _).1 (hfb _).2 ?_)
            refine x_last (j := fd v k - 2) dX2_sinks_108 rfl (by decide) (by omega) (show _ < 16 by omega) (by omega) ?_
            refine x_goto (tgt := 179) dX2_sinks_109 (by decide) ?_
            refine x_iinc dX2_sinks_179 rfl ?_
            refine x_goto (tgt := 38) dX2_sinks_182 (by decide) ?_
            refine x_loc (lv' := [(0, vr E 88), (1, vi (s : Int)), (2, vi sp), (3, vi dr), (4, vi w), (5, vi (sh v s 1)), (6, vi ((fd v (k + 1) : Nat) : Int)), (7, vi ((k + 1 : Nat) : Int))]) ⟨rfl, rfl, rfl, rfl, rfl, rfl, xl_i rfl (by rw [fd_op q.2.1]; omega), xl_i rfl (by omega), trivial⟩ (ih (k + 1) _ (by omega) (by omega) (ha.u (by decide)) (fun i hi => ?_))
            rw [fd_op q.2.1] at hi
            rw [fs_op q.2.1, xu_if]
            split
            · rfl
            · exact hst i (by omega)
    refine x_aload_n dX2_sinks_11 rfl ?_
    refine x_getR (r := 41) fX2_35 dX2_sinks_12 rfl rfl ?_
    refine x_getR (r := f 41) fX2_49 dX2_sinks_15 rfl rfl ?_
    refine x_alen (t := 8) (N := (v 108).toNat) dX2_sinks_18 hfk (by decide) hfl ?_
    refine x_if_ne (tgt := 32) dX2_sinks_19 (by decide) (by omega) (fun h19 => ?_) (fun h19 => absurd h19 (by omega))
    refine x_iconst dX2_sinks_32 ?_
    refine x_istore dX2_sinks_33 ?_
    refine x_iconst dX2_sinks_35 ?_
    refine x_istore dX2_sinks_36 ?_
    exact x_loc (lv' := [(0, vr E 88), (1, vi (s : Int)), (2, vi sp), (3, vi dr), (4, vi w), (5, vi (sh v s 1)), (6, vi ((0 : Nat) : Int)), (7, vi ((0 : Nat) : Int))]) ⟨rfl, rfl, rfl, rfl, rfl, rfl, rfl, rfl, trivial⟩ (loop (v 108).toNat.succ 0 m (by omega) (by omega) ag.rf (fun i hi => absurd hi (Nat.not_lt_zero i)))

set_option maxRecDepth 20000 in
theorem s_msinks {E : xE} {f : Nat → Nat} {D : Nat → Nat × Nat} {n : Nat} {m : xM} {P : xPo} {PX : xPx} {v : Nat → Int} {s : Nat} {sp dr w : Int} (hv : vOk v) (hN : mN v m) (hs : (s : Int) < v 5) (hsp : 4 ≤ sp ∧ sp ≤ 25) (hdr : 0 ≤ dr ∧ dr ≤ 3000) (hw : -10000 ≤ w ∧ w ≤ 20000) (hP : ∀ m', ag [103] m m' → P (some (vi (sk v s dr w sp))) (gS f D n) m') : xC E (yX6_sinks, cX6_sinks, 8, some .int) 3 0 0 [vr E 96, vi (s : Int), vi dr, vi w, vi sp] (gS f D n) m P PX := by
  refine x_enter (by decide) rfl rfl (Nat.le_of_ble_eq_true rfl) ?_
  have hv5 := hv.1.2.2.2.2.2.1
  have hv108 := hv.2.1
  obtain ⟨-, hbk, -⟩ := hv.1.2.2.2.2.2.2 s hs
  have hkb := sk_b (dr := dr) (w := w) hv hs hsp
  have hN1 : ∀ m1, ag [103] m m1 → mN v m1 := fun m1 ha => hN.ag ha (by decide)
  refine x_aload_n dX6_sinks_0 rfl ?_
  refine x_getR (r := 98) fX6_17 dX6_sinks_1 rfl rfl ?_
  refine x_bipush dX6_sinks_4 (h := ?_)
  refine x_iald (j := 108) dX6_sinks_6 rfl (by omega) (show _ < 709 by omega) (by omega) ?_
  refine x_top (hN 108 (by omega)) ?_
  refine x_if_ne (tgt := 26) dX6_sinks_7 (by decide) (by omega) (fun h7 => ?_) (fun h7 => ?_)
  · have hpos : 0 < v 108 := by omega
    have loop : ∀ (j k : Nat) (m1 : xM), (k : Int) ≤ v 108 → v 108 < (k : Int) + j → ag [103] m m1 → (∀ i, i < fd v k → m1 103 i = fs v sp (sh v s 1) dr w k i) → xX E (("sinks", some .int, []), (3, 0, 0), P, PX) RX6 cX6_sinks 8 0 0 32 [(0, vr E 96), (1, vi (s : Int)), (2, vi dr), (3, vi w), (4, vi sp), (5, vi ((fd v k : Nat) : Int)), (6, vi (k : Int))] [] (gS f D n) m1 := by
      intro j
      induction j with
      | zero => intro k m1 h1 h2; omega
      | succ j ih =>
        intro k m1 h1 h2 ha hst
        refine x_iload dX6_sinks_32 rfl ?_
        refine x_aload_n dX6_sinks_34 rfl ?_
        refine x_getR (r := 98) fX6_17 dX6_sinks_35 rfl rfl ?_
        refine x_bipush dX6_sinks_38 (h := ?_)
        refine x_iald (j := 108) dX6_sinks_40 rfl (by omega) (show _ < 709 by omega) (by omega) ?_
        refine x_top (hN1 m1 ha 108 (by omega)) ?_
        refine x_icmp_ge (tgt := 169) dX6_sinks_41 (by decide) (by omega) (fun h41 => ?_) (fun h41 => ?_)
        · have hke : k = (v 108).toNat := by omega
          refine x_lconst0 dX6_sinks_169 ?_
          refine x_ldc2_w kX6_248 dX6_sinks_170 ?_
          refine x_aload_n dX6_sinks_173 rfl ?_
          refine x_getR (r := 103) fX6_36 dX6_sinks_174 rfl rfl ?_
          refine x_iconst dX6_sinks_177 ?_
          refine x_lald (j := 0) dX6_sinks_178 rfl (by omega) (show _ < 600 by omega) (by omega) ?_
          refine x_topl (hst 0 (by rw [hke]; have := hv.2.2.2 hpos; omega)) ?_
          have hfb0 := fs_b hv.2 (sp := sp) (bk := sh v s 1) (dr := dr) (w := w) (by omega) (by omega) (by omega) (by omega) k (by omega) 0
          refine x_S2 mX6_233 dX6_sinks_179 (s_minL (by omega) ?_)
          refine x_S2 mX6_235 dX6_sinks_182 (s_maxL (by omega) ?_)
          refine x_l2i dX6_sinks_185 ?_
          exact x_iret dX6_sinks_186  ((by rw [hke]; have hP := hP m1 ha; unfold sk at hP; rw [if_neg (by omega)] at hP; exact hP))
        · have hkl : (k : Int) < v 108 := by omega
          have hOK := hv.2.2.1 k hkl
          have hfb := fs_b hv.2 (sp := sp) (bk := sh v s 1) (dr := dr) (w := w) (by omega) (by omega) (by omega) (by omega) k (by omega)
          have hdb := fd_b hv.2 k (by omega)
          refine x_aload_n dX6_sinks_44 rfl ?_
          refine x_getR (r := 98) fX6_17 dX6_sinks_45 rfl rfl ?_
          refine x_bipush dX6_sinks_48 (h := ?_)
          refine x_iload dX6_sinks_50 rfl ?_
          refine x_iadd dX6_sinks_52 ?_
          refine x_iald (j := 109 + k) dX6_sinks_53 rfl (by omega) (show _ < 709 by omega) (by omega) ?_
          refine x_top (show m1 98 (109 + k) = fi v k from hN1 m1 ha (109 + k) (by omega)) ?_
          refine x_istore dX6_sinks_54 ?_
          refine x_iload dX6_sinks_56 rfl ?_
          refine x_bipush dX6_sinks_58 (h := ?_)
          refine x_icmp_gt (tgt := 99) dX6_sinks_60 (by decide) (by omega) (fun h60 => ?_) (fun h60 => ?_)
          · have q : -4 ≤ fi v k ∧ fi v k ≤ 9999 ∧ fd v k < 16 := by omega
            refine x_aload_n dX6_sinks_99 rfl ?_
            refine x_getR (r := 103) fX6_36 dX6_sinks_100 rfl rfl ?_
            refine x_iload dX6_sinks_103 rfl ?_
            refine x_iload dX6_sinks_105 rfl ?_
            refine x_if_lt (tgt := 116) dX6_sinks_107 (by decide) (by omega) (fun h107 => ?_) (fun h107 => ?_)
            · refine x_iload dX6_sinks_116 rfl ?_
              refine x_iconst dX6_sinks_118 ?_
              refine x_icmp_ne (tgt := 128) dX6_sinks_119 (by decide) (by omega) (fun h119 => ?_) (fun h119 => ?_)
              · refine x_iload dX6_sinks_128 rfl ?_
                refine x_bipush dX6_sinks_130 (h := ?_)
                refine x_icmp_ne (tgt := 145) dX6_sinks_132 (by decide) (by omega) (fun h132 => ?_) (fun h132 => ?_)
                · refine x_iload dX6_sinks_145 rfl ?_
                  refine x_bipush dX6_sinks_147 (h := ?_)
                  refine x_icmp_ne (tgt := 157) dX6_sinks_149 (by decide) (by omega) (fun h149 => ?_) (fun h149 => ?_)
                  · refine x_iload_n dX6_sinks_157 rfl ?_
                    refine x_i2l dX6_sinks_158 (by omega) ?_
                    refine x_last (j := fd v k) dX6_sinks_159 rfl (by decide) (by omega) (show _ < 600 by omega) (by omega) ?_
                    refine x_iinc dX6_sinks_160 rfl ?_
                    refine x_iinc dX6_sinks_163 rfl ?_
                    refine x_goto (tgt := 32) dX6_sinks_166 (by decide) ?_
                    refine x_loc (lv' := [(0, vr E 96), (1, vi (s : Int)), (2, vi dr), (3, vi w), (4, vi sp), (5, vi ((fd v (k + 1) : Nat) : Int)), (6, vi ((k + 1 : Nat) : Int))]) ⟨rfl, rfl, rfl, rfl, rfl,  xl_i rfl (by rw [fd_va (by omega)]; omega), xl_i rfl (by omega), trivial⟩ (ih (k + 1) _ (by omega) (by omega) (ha.u (by decide)) (fun i hi => ?_))
                    rw [fd_va (by omega)] at hi
                    rw [fs_va (by omega), xu_if]
                    split
                    · unfold fv; rw [if_neg (by omega)]; rw [if_neg (by omega)]; rw [if_neg (by omega)]; rw [if_neg (by omega)]
                    · exact hst i (by omega)
                  · refine x_iload_n dX6_sinks_152 rfl ?_
                    refine x_i2l dX6_sinks_153 (by omega) ?_
                    refine x_goto (tgt := 159) dX6_sinks_154 (by decide) ?_
                    refine x_last (j := fd v k) dX6_sinks_159 rfl (by decide) (by omega) (show _ < 600 by omega) (by omega) ?_
                    refine x_iinc dX6_sinks_160 rfl ?_
                    refine x_iinc dX6_sinks_163 rfl ?_
                    refine x_goto (tgt := 32) dX6_sinks_166 (by decide) ?_
                    refine x_loc (lv' := [(0, vr E 96), (1, vi (s : Int)), (2, vi dr), (3, vi w), (4, vi sp), (5, vi ((fd v (k + 1) : Nat) : Int)), (6, vi ((k + 1 : Nat) : Int))]) ⟨rfl, rfl, rfl, rfl, rfl,  xl_i rfl (by rw [fd_va (by omega)]; omega), xl_i rfl (by omega), trivial⟩ (ih (k + 1) _ (by omega) (by omega) (ha.u (by decide)) (fun i hi => ?_))
                    rw [fd_va (by omega)] at hi
                    rw [fs_va (by omega), xu_if]
                    split
                    · unfold fv; rw [if_neg (by omega)]; rw [if_neg (by omega)]; rw [if_neg (by omega)]; rw [if_pos (by omega)]
                    · exact hst i (by omega)
                · refine x_aload_n dX6_sinks_135 rfl ?_
                  refine x_iload_n dX6_sinks_136 rfl ?_
                  refine x_iconst dX6_sinks_137 ?_
                  refine x_V2 mX6_241 dX6_sinks_138 rfl (s_ofShip (60 + 8 * s + 1) (by omega) (by omega) ?_)
                  refine x_top ((mN.s (hN1 m1 ha) (by omega) (by omega))) ?_
                  refine x_i2l dX6_sinks_141 (by omega) ?_
                  refine x_goto (tgt := 159) dX6_sinks_142 (by decide) ?_
                  refine x_last (j := fd v k) dX6_sinks_159 rfl (by decide) (by omega) (show _ < 600 by omega) (by omega) ?_
                  refine x_iinc dX6_sinks_160 rfl ?_
                  refine x_iinc dX6_sinks_163 rfl ?_
                  refine x_goto (tgt := 32) dX6_sinks_166 (by decide) ?_
                  refine x_loc (lv' := [(0, vr E 96), (1, vi (s : Int)), (2, vi dr), (3, vi w), (4, vi sp), (5, vi ((fd v (k + 1) : Nat) : Int)), (6, vi ((k + 1 : Nat) : Int))]) ⟨rfl, rfl, rfl, rfl, rfl,  xl_i rfl (by rw [fd_va (by omega)]; omega), xl_i rfl (by omega), trivial⟩ (ih (k + 1) _ (by omega) (by omega) (ha.u (by decide)) (fun i hi => ?_))
                  rw [fd_va (by omega)] at hi
                  rw [fs_va (by omega), xu_if]
                  split
                  · unfold fv; rw [if_neg (by omega)]; rw [if_neg (by omega)]; rw [if_pos (by omega)]
                  · exact hst i (by omega)
              · refine x_iload dX6_sinks_122 rfl ?_
                refine x_i2l dX6_sinks_124 (by omega) ?_
                refine x_goto (tgt := 159) dX6_sinks_125 (by decide) ?_
                refine x_last (j := fd v k) dX6_sinks_159 rfl (by decide) (by omega) (show _ < 600 by omega) (by omega) ?_
                refine x_iinc dX6_sinks_160 rfl ?_
                refine x_iinc dX6_sinks_163 rfl ?_
                refine x_goto (tgt := 32) dX6_sinks_166 (by decide) ?_
                refine x_loc (lv' := [(0, vr E 96), (1, vi (s : Int)), (2, vi dr), (3, vi w), (4, vi sp), (5, vi ((fd v (k + 1) : Nat) : Int)), (6, vi ((k + 1 : Nat) : Int))]) ⟨rfl, rfl, rfl, rfl, rfl,  xl_i rfl (by rw [fd_va (by omega)]; omega), xl_i rfl (by omega), trivial⟩ (ih (k + 1) _ (by omega) (by omega) (ha.u (by decide)) (fun i hi => ?_))
                rw [fd_va (by omega)] at hi
                rw [fs_va (by omega), xu_if]
                split
                · unfold fv; rw [if_neg (by omega)]; rw [if_pos (by omega)]
                · exact hst i (by omega)
            · refine x_iload dX6_sinks_110 rfl ?_
              refine x_i2l dX6_sinks_112 (by omega) ?_
              refine x_goto (tgt := 159) dX6_sinks_113 (by decide) ?_
              refine x_last (j := fd v k) dX6_sinks_159 rfl (by decide) (by omega) (show _ < 600 by omega) (by omega) ?_
              refine x_iinc dX6_sinks_160 rfl ?_
              refine x_iinc dX6_sinks_163 rfl ?_
              refine x_goto (tgt := 32) dX6_sinks_166 (by decide) ?_
              refine x_loc (lv' := [(0, vr E 96), (1, vi (s : Int)), (2, vi dr), (3, vi w), (4, vi sp), (5, vi ((fd v (k + 1) : Nat) : Int)), (6, vi ((k + 1 : Nat) : Int))]) ⟨rfl, rfl, rfl, rfl, rfl,  xl_i rfl (by rw [fd_va (by omega)]; omega), xl_i rfl (by omega), trivial⟩ (ih (k + 1) _ (by omega) (by omega) (ha.u (by decide)) (fun i hi => ?_))
              rw [fd_va (by omega)] at hi
              rw [fs_va (by omega), xu_if]
              split
              · unfold fv; rw [if_pos (by omega)]
              · exact hst i (by omega)
          · have q : -14 ≤ fi v k ∧ fi v k ≤ -11 ∧ 2 ≤ fd v k := by omega
            refine x_iinc dX6_sinks_63 rfl ?_
            refine x_aload_n dX6_sinks_66 rfl ?_
            refine x_getR (r := 103) fX6_36 dX6_sinks_67 rfl rfl ?_
            refine x_iload dX6_sinks_70 rfl ?_
            refine x_iconst dX6_sinks_72 ?_
            refine x_isub dX6_sinks_73 ?_
            refine x_iload dX6_sinks_74 rfl ?_
            refine x_aload_n dX6_sinks_76 rfl ?_
            refine x_getR (r := 103) fX6_36 dX6_sinks_77 rfl rfl ?_
            refine x_iload dX6_sinks_80 rfl ?_
            refine x_iconst dX6_sinks_82 ?_
            refine x_isub dX6_sinks_83 ?_
            refine x_lald (j := fd v k - 2) dX6_sinks_84 rfl (by omega) (show _ < 600 by omega) (by omega) ?_
            refine x_topl (hst (fd v k - 2) (by omega)) ?_
            refine x_aload_n dX6_sinks_85 rfl ?_
            refine x_getR (r := 103) fX6_36 dX6_sinks_86 rfl rfl ?_
            refine x_iload dX6_sinks_89 rfl ?_
            refine x_lald (j := fd v k - 1) dX6_sinks_91 rfl (by omega) (show _ < 600 by omega) (by omega) ?_
            refine x_topl (hst (fd v k - 1) (by omega)) ?_
            refine x_S3 mX6_244 dX6_sinks_92 (s_joined0 (c := fi v k) (by omega) (hfb _).1 (hfb _).2 (hfb _).1 (hfb _).2 ?_)
            refine x_last (j := fd v k - 2) dX6_sinks_95 rfl (by decide) (by omega) (show _ < 600 by omega) (by omega) ?_
            refine x_goto (tgt := 163) dX6_sinks_96 (by decide) ?_
            refine x_iinc dX6_sinks_163 rfl ?_
            refine x_goto (tgt := 32) dX6_sinks_166 (by decide) ?_
            refine x_loc (lv' := [(0, vr E 96), (1, vi (s : Int)), (2, vi dr), (3, vi w), (4, vi sp), (5, vi ((fd v (k + 1) : Nat) : Int)), (6, vi ((k + 1 : Nat) : Int))]) ⟨rfl, rfl, rfl, rfl, rfl,  xl_i rfl (by rw [fd_op q.2.1]; omega), xl_i rfl (by omega), trivial⟩ (ih (k + 1) _ (by omega) (by omega) (ha.u (by decide)) (fun i hi => ?_))
            rw [fd_op q.2.1] at hi
            rw [fs_op q.2.1, xu_if]
            split
            · rfl
            · exact hst i (by omega)
    refine x_iconst dX6_sinks_26 ?_
    refine x_istore dX6_sinks_27 ?_
    refine x_iconst dX6_sinks_29 ?_
    refine x_istore dX6_sinks_30 ?_
    exact x_loc (lv' := [(0, vr E 96), (1, vi (s : Int)), (2, vi dr), (3, vi w), (4, vi sp), (5, vi ((0 : Nat) : Int)), (6, vi ((0 : Nat) : Int))]) ⟨rfl, rfl, rfl, rfl, rfl, rfl, rfl, trivial⟩ (loop (v 108).toNat.succ 0 m (by omega) (by omega) ag.rf (fun i hi => absurd hi (Nat.not_lt_zero i)))
  · refine x_aload_n dX6_sinks_10 rfl ?_
    refine x_iload_n dX6_sinks_11 rfl ?_
    refine x_iconst dX6_sinks_12 ?_
    refine x_V2 mX6_241 dX6_sinks_13 rfl (s_ofShip (60 + 8 * s + 1) (by omega) (by omega) ?_)
    refine x_top (hN.s (by omega) (by omega)) ?_
    refine x_iload dX6_sinks_16 rfl ?_
    refine x_imul dX6_sinks_18 ?_
    refine x_iload dX6_sinks_19 rfl ?_
    refine x_imul dX6_sinks_21 ?_
    refine x_bipush dX6_sinks_22 (h := ?_)
    refine x_idiv dX6_sinks_24 (by omega) (by omega) ?_
    exact x_iret dX6_sinks_25  ((by have hP := hP m ag.rf; unfold sk at hP; rw [if_pos h7] at hP; exact hP))

end SI
