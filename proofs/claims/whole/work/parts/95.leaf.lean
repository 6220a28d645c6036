section LF
/-- where a reader stands: cell C with its fields (place, end, flaw, flaw's place), the bytes in cell B -/
def lS (C ja je jf jp B : Nat) (q : Nat → Int) (N : Nat) (X : pX) (m : xM) : Prop :=
  (∃ a : Nat, m C ja = (a : Int) ∧ a ≤ N ∧ (X.1 = 0 → a = X.2.2.1)) ∧ m C je = (N : Int) ∧ m C jf = (X.1 : Int) ∧ (X.1 ≠ 0 → m C jp = (X.2.1 : Int)) ∧ X.1 ≤ 4 ∧ N ≤ 600 ∧ ∀ k, k < N → m B k = q k ∧ -128 ≤ q k ∧ q k ≤ 127
abbrev lC (q : Nat → Int) (N : Nat) (X : pX) (m : xM) : Prop := lS 80 3 4 5 9 79 q N X m
abbrev lM (q : Nat → Int) (N : Nat) (X : pX) (m : xM) : Prop := lS 96 10 9 11 12 102 q N X m
/-- in cell C these fields have changed, in no other cell one -/
def cg (C : Nat) (J : List Nat) (m m' : xM) : Prop := ag [C] m m' ∧ ∀ j, j ∉ J → m' C j = m C j
theorem cg.rf {C : Nat} {J : List Nat} {m : xM} : cg C J m m := ⟨ag.rf, fun _ _ => rfl⟩
theorem cg.u {C : Nat} {J : List Nat} {m m' : xM} {j : Nat} {z : Int} (h : cg C J m m') (hj : j ∈ J) : cg C J m (xu m' C j z) := ⟨h.1.u (List.mem_singleton.mpr rfl), fun i hi => by rw [xu_n (Or.inr (fun e => hi (by rw [e]; exact hj)))]; exact h.2 i hi⟩
theorem cg.tr {C : Nat} {J K L : List Nat} {m m' m'' : xM} (h : cg C J m m') (h2 : cg C K m' m'') (hs : ∀ c ∈ J, c ∈ L) (ht : ∀ c ∈ K, c ∈ L) : cg C L m m'' := ⟨h.1.tr1 h2.1, fun i hi => (h2.2 i (fun z => hi (ht i z))).trans (h.2 i (fun z => hi (hs i z)))⟩
theorem cg.tr1 {C : Nat} {J : List Nat} {m m' m'' : xM} (h : cg C J m m') (h2 : cg C J m' m'') : cg C J m m'' := h.tr h2 (fun _ z => z) (fun _ z => z)
theorem cg.wk {C : Nat} {J L : List Nat} {m m' : xM} (h : cg C J m m') (hs : ∀ c ∈ J, c ∈ L) : cg C L m m' := h.tr cg.rf hs hs
section G9
variable {C ja je jf jp B N : Nat} {q : Nat → Int} {X X' : pX} {m m' : xM} {J : List Nat}
theorem lS.to (hS : lS C ja je jf jp B q N X m) (hc : cg C J m m') (hB : B ≠ C) (h1 : je ∉ J) (h2 : jf ∉ J) (h3 : jp ∉ J) (e1 : X'.1 = X.1) (e2 : X.1 ≠ 0 → X'.2.1 = X.2.1) {a : Nat} (ha : m' C ja = (a : Int)) (haN : a ≤ N) (hh : X.1 = 0 → a = X'.2.2.1) : lS C ja je jf jp B q N X' m' := by
  obtain ⟨-, he, hf, hp, h4, hN, hb⟩ := hS
  refine ⟨⟨a, ha, haN, fun z => hh (e1 ▸ z)⟩, by rw [hc.2 _ h1]; exact he, by rw [hc.2 _ h2, e1]; exact hf, fun z => ?_, by rw [e1]; exact h4, hN, fun k hk => ?_⟩
  · rw [e1] at z
    rw [hc.2 _ h3, e2 z]; exact hp z
  · rw [hc.1 B (fun z => hB (List.mem_singleton.mp z))]; exact hb k hk
theorem lS.fl (hS : lS C ja je jf jp B q N X m) (hc : cg C J m m') (hB : B ≠ C) (h1 : je ∉ J) (hk : 1 ≤ X'.1 ∧ X'.1 ≤ 4) (hf : m' C jf = (X'.1 : Int)) (hp : m' C jp = (X'.2.1 : Int)) (ha : ∃ a : Nat, m' C ja = (a : Int) ∧ a ≤ N) : lS C ja je jf jp B q N X' m' := by
  obtain ⟨-, he, -, -, -, hN, hb⟩ := hS
  obtain ⟨a, ha, haN⟩ := ha
  refine ⟨⟨a, ha, haN, fun z => by omega⟩, by rw [hc.2 _ h1]; exact he, hf, fun _ => hp, hk.2, hN, fun k hk9 => ?_⟩
  rw [hc.1 B (fun z => hB (List.mem_singleton.mp z))]; exact hb k hk9
theorem lS.c (hS : lS C ja je jf jp B q N X m) (e1 : X'.1 = X.1) (e2 : X'.2.1 = X.2.1) (e3 : X'.2.2.1 = X.2.2.1) : lS C ja je jf jp B q N X' m := by
  obtain ⟨⟨a, ha, haN, hh⟩, he, hf, hp, h4, hN, hb⟩ := hS
  exact ⟨⟨a, ha, haN, fun z => by rw [e3]; exact hh (e1 ▸ z)⟩, he, by rw [e1]; exact hf, fun z => by rw [e2]; exact hp (e1 ▸ z), by rw [e1]; exact h4, hN, hb⟩
theorem lS.mv (hS : lS C ja je jf jp B q N X m) {S : List Nat} (ha : ag S m m') (h1 : C ∉ S) (h2 : B ∉ S) : lS C ja je jf jp B q N X m' := by
  unfold lS at *
  rw [ha C h1, ha B h2]
  exact hS
end G9
theorem zi_P1 {P : xPo} {g : xG} {m : xM} {p : Prop} (h : p) (hP : P (some (vi (zi p))) g m) : P (some (vi 1)) g m := by rw [zi_t h] at hP; exact hP
theorem zi_P0 {P : xPo} {g : xG} {m : xM} {p : Prop} (h : ¬ p) (hP : P (some (vi (zi p))) g m) : P (some (vi 0)) g m := by rw [zi_f h] at hP; exact hP
section P9
variable {q : Nat → Int} {N : Nat} {X : pX}
theorem pskip_0 (h : X.1 = 0) : pskip q N X = pat (skp q N X.2.2.1) X := if_pos h
theorem pskip_n (h : X.1 ≠ 0) : pskip q N X = X := if_neg h
theorem pskip_1 : (pskip q N X).1 = X.1 := by unfold pskip; split <;> rfl
theorem pskip_2 : (pskip q N X).2.1 = X.2.1 := by unfold pskip; split <;> rfl
theorem pskip_r : (pskip q N X).2.2.2 = X.2.2.2 := by unfold pskip; split <;> rfl
theorem psX_t {c : Int} (h : psT q N c X) : psX q N c X = pat (skp q N X.2.2.1 + 1) X := by unfold psX; rw [if_pos h.1, if_pos h.2]
theorem psX_f {c : Int} (h : ¬ psT q N c X) : psX q N c X = pskip q N X := by
  unfold psX pskip
  by_cases e : X.1 = 0
  · rw [if_pos e, if_pos e, if_neg (fun z => h ⟨e, z⟩)]
  · rw [if_neg e, if_neg e]
theorem pwX_t {i : Nat} (h : pwT q N i X) : pwX q N i X = pat (skp q N X.2.2.1 + wl i) X := by unfold pwX; rw [if_pos h.1, if_pos h.2]
theorem pwX_f {i : Nat} (h : ¬ pwT q N i X) : pwX q N i X = pskip q N X := by
  unfold pwX pskip
  by_cases e : X.1 = 0
  · rw [if_pos e, if_pos e, if_neg (fun z => h ⟨e, z⟩)]
  · rw [if_neg e, if_neg e]
theorem pnd_t {c : Int} (h : psT q N c X) : pnd q N c X = psX q N c X := by rw [psX_t h]; unfold pnd; rw [if_pos h.1, if_pos h.2]
theorem pnd_f {c : Int} (h : ¬ psT q N c X) : pnd q N c X = pfl 1 (skp q N X.2.2.1) X := by
  unfold pnd pfl
  by_cases e : X.1 = 0
  · rw [if_pos e, if_pos e, if_neg (fun z => h ⟨e, z⟩)]
  · rw [if_neg e, if_neg e]
end P9
set_option maxRecDepth 20000 in
theorem s_skipBlanks {E : xE} {f : Nat → Nat} {D : Nat → Nat × Nat} {n : Nat} {m : xM} {P : xPo} {PX : xPx} {q : Nat → Int} {N : Nat} {X : pX} (hS : lC q N X m) (hP : ∀ m', cg 80 [3] m m' → lC q N (pskip q N X) m' → P none (gS f D n) m') : xC E (yX3_skipBlanks, cX3_skipBlanks, 1, none) 0 0 0 [vr E 80] (gS f D n) m P PX := by
  refine x_enter (by decide) rfl rfl (Nat.le_of_ble_eq_true rfl) ?_
  obtain ⟨⟨a, ha, haN, hah⟩, he, hf, hp, h4, hN, hb⟩ := id hS
  have loop : ∀ (j i : Nat) (m1 : xM), N < i + j → i ≤ N → cg 80 [3] m m1 → m1 80 3 = (i : Int) → skp q N i = skp q N a → xX E (("skipBlanks", none, []), (0, 0, 0), P, PX) RX3 cX3_skipBlanks 1 0 0 0 [(0, vr E 80)] [] (gS f D n) m1 := by
    intro j
    induction j with
    | zero => intro i m1 h1 h2; omega
    | succ j ih =>
      intro i m1 h1 hi hc1 h3 hsk
      refine x_aload_n dX3_skipBlanks_0 rfl ?_
      refine x_getI fX3_26 dX3_skipBlanks_1 rfl ?_
      refine x_top (h3) ?_
      refine x_aload_n dX3_skipBlanks_4 rfl ?_
      refine x_getI fX3_36 dX3_skipBlanks_5 rfl ?_
      refine x_top ((hc1.2 4 (by decide)).trans he) ?_
      refine x_icmp_ge (tgt := 38) dX3_skipBlanks_8 (by decide) (by omega) (fun h8 => ?_) (fun h8 => ?_)
      · exact x_vret dX3_skipBlanks_38 (hP m1 hc1 (hS.to (X' := pskip q N X) hc1 (by decide) (by decide) (by decide) (by decide) pskip_1 (fun _ => pskip_2) h3 hi (fun z => by rw [pskip_0 z]; show i = skp q N X.2.2.1; rw [← hah z, ← hsk]; exact (skp_e (by omega)).symm)))
      · have hbi := hb i (by omega)
        refine x_aload_n dX3_skipBlanks_11 rfl ?_
        refine x_getR (r := 79) fX3_22 dX3_skipBlanks_12 rfl rfl ?_
        refine x_aload_n dX3_skipBlanks_15 rfl ?_
        refine x_getI fX3_26 dX3_skipBlanks_16 rfl ?_
        refine x_top (h3) ?_
        refine x_bald (j := i) dX3_skipBlanks_19 rfl (by omega) (show _ < 600 by omega) (by omega) ?_
        refine x_top (show m1 79 i = q i by rw [hc1.1 79 (by decide)]; exact hbi.1) ?_
        refine x_bipush dX3_skipBlanks_20 (h := ?_)
        refine x_icmp_ne (tgt := 38) dX3_skipBlanks_22 (by decide) (by omega) (fun h22 => ?_) (fun h22 => ?_)
        · exact x_vret dX3_skipBlanks_38 (hP m1 hc1 (hS.to (X' := pskip q N X) hc1 (by decide) (by decide) (by decide) (by decide) pskip_1 (fun _ => pskip_2) h3 hi (fun z => by rw [pskip_0 z]; show i = skp q N X.2.2.1; rw [← hah z, ← hsk]; exact (skp_e (by omega)).symm)))
        · refine x_aload_n dX3_skipBlanks_25 rfl ?_
          refine x_dup dX3_skipBlanks_26 vr_cat ?_
          refine x_getI fX3_26 dX3_skipBlanks_27 rfl ?_
          refine x_top (h3) ?_
          refine x_iconst dX3_skipBlanks_30 ?_
          refine x_iadd dX3_skipBlanks_31 ?_
          refine x_putI fX3_26 dX3_skipBlanks_32 rfl (by decide) rfl rfl ?_
          refine x_goto (tgt := 0) dX3_skipBlanks_35 (by decide) ?_
          exact ih (i + 1) _ (by omega) (by omega) (hc1.u (by decide)) (by rw [xu_s]; omega) (by rw [← hsk]; exact (skp_s (by omega) (by omega)).symm)
  exact loop (N + 1) a m (by omega) haN cg.rf ha rfl

set_option maxRecDepth 20000 in
theorem s_note {E : xE} {f : Nat → Nat} {D : Nat → Nat × Nat} {n : Nat} {m : xM} {P : xPo} {PX : xPx} {q : Nat → Int} {N : Nat} {X : pX} {k p : Nat} (hk : 1 ≤ k ∧ k ≤ 4) (hS : lC q N X m) (hP : ∀ m', cg 80 [5, 9] m m' → lC q N (pfl k p X) m' → P none (gS f D n) m') : xC E (yX3_note, cX3_note, 3, none) 0 0 0 [vr E 80, vi (k : Int), vi (p : Int)] (gS f D n) m P PX := by
  refine x_enter (by decide) rfl rfl (Nat.le_of_ble_eq_true rfl) ?_
  obtain ⟨⟨a, ha, haN, hah⟩, he, hf, hp, h4, hN, hb⟩ := id hS
  refine x_aload_n dX3_note_0 rfl ?_
  refine x_getI fX3_39 dX3_note_1 rfl ?_
  refine x_top (hf) ?_
  refine x_if_ne (tgt := 17) dX3_note_4 (by decide) (by omega) (fun h4 => ?_) (fun h4 => ?_)
  · have hX : X.1 ≠ 0 := by omega
    exact x_vret dX3_note_17 (hP m cg.rf (by unfold pfl; rw [if_neg hX]; exact hS))
  · have hX : X.1 = 0 := by omega
    refine x_aload_n dX3_note_7 rfl ?_
    refine x_iload_n dX3_note_8 rfl ?_
    refine x_putI fX3_39 dX3_note_9 rfl (by decide) rfl rfl ?_
    refine x_aload_n dX3_note_12 rfl ?_
    refine x_iload_n dX3_note_13 rfl ?_
    refine x_putI fX3_206 dX3_note_14 rfl (by decide) rfl rfl ?_
    exact x_vret dX3_note_17 (hP _ ((cg.rf.u (by decide)).u (by decide)) (by unfold pfl; rw [if_pos hX]; exact hS.fl (X' := (k, p, X.2.2)) ((cg.rf.u (J := [5, 9]) (by decide)).u (by decide)) (by decide) (by decide) hk (by rw [xu_n (Or.inr (by decide)), xu_s]) (by rw [xu_s]) ⟨a, by rw [xu_n (Or.inr (by decide)), xu_n (Or.inr (by decide))]; exact ha, haN⟩))

set_option maxRecDepth 20000 in
theorem s_isDigit {E : xE} {g : xG} {m : xM} {P : xPo} {PX : xPx} {z : Int} (hz : -128 ≤ z ∧ z ≤ 127) (hP : P (some (vi (zi (isd z)))) g m) : xC E (yX3_isDigit, cX3_isDigit, 1, some .boolean) 0 0 0 [vi z] g m P PX := by
  refine x_enter (by decide) rfl rfl (Nat.le_of_ble_eq_true rfl) ?_
  refine x_iload_n dX3_isDigit_0 rfl ?_
  refine x_bipush dX3_isDigit_1 (h := ?_)
  refine x_icmp_lt (tgt := 16) dX3_isDigit_3 (by decide) (by omega) (fun h3 => ?_) (fun h3 => ?_)
  · refine x_iconst dX3_isDigit_16 ?_
    exact x_zret dX3_isDigit_17 (Or.inl rfl) (by rw [zi_f (fun zz : isd z => by have := zz.1; have := zz.2; omega)] at hP; exact hP)
  · refine x_iload_n dX3_isDigit_6 rfl ?_
    refine x_bipush dX3_isDigit_7 (h := ?_)
    refine x_icmp_gt (tgt := 16) dX3_isDigit_9 (by decide) (by omega) (fun h9 => ?_) (fun h9 => ?_)
    · refine x_iconst dX3_isDigit_16 ?_
      exact x_zret dX3_isDigit_17 (Or.inl rfl) (by rw [zi_f (fun zz : isd z => by have := zz.1; have := zz.2; omega)] at hP; exact hP)
    · refine x_iconst dX3_isDigit_12 ?_
      refine x_goto (tgt := 17) dX3_isDigit_13 (by decide) ?_
      exact x_zret dX3_isDigit_17 (Or.inr rfl) (by rw [zi_t (show isd z from ⟨by omega, by omega⟩)] at hP; exact hP)

set_option maxRecDepth 20000 in
theorem s_isLetter {E : xE} {g : xG} {m : xM} {P : xPo} {PX : xPx} {z : Int} (hz : -128 ≤ z ∧ z ≤ 127) (hP : P (some (vi (zi (isl z)))) g m) : xC E (yX3_isLetter, cX3_isLetter, 1, some .boolean) 0 0 0 [vi z] g m P PX := by
  refine x_enter (by decide) rfl rfl (Nat.le_of_ble_eq_true rfl) ?_
  refine x_iload_n dX3_isLetter_0 rfl ?_
  refine x_bipush dX3_isLetter_1 (h := ?_)
  refine x_icmp_lt (tgt := 16) dX3_isLetter_3 (by decide) (by omega) (fun h3 => ?_) (fun h3 => ?_)
  · refine x_iconst dX3_isLetter_16 ?_
    exact x_zret dX3_isLetter_17 (Or.inl rfl) (by rw [zi_f (fun zz : isl z => by have := zz.1; have := zz.2; omega)] at hP; exact hP)
  · refine x_iload_n dX3_isLetter_6 rfl ?_
    refine x_bipush dX3_isLetter_7 (h := ?_)
    refine x_icmp_gt (tgt := 16) dX3_isLetter_9 (by decide) (by omega) (fun h9 => ?_) (fun h9 => ?_)
    · refine x_iconst dX3_isLetter_16 ?_
      exact x_zret dX3_isLetter_17 (Or.inl rfl) (by rw [zi_f (fun zz : isl z => by have := zz.1; have := zz.2; omega)] at hP; exact hP)
    · refine x_iconst dX3_isLetter_12 ?_
      refine x_goto (tgt := 17) dX3_isLetter_13 (by decide) ?_
      exact x_zret dX3_isLetter_17 (Or.inr rfl) (by rw [zi_t (show isl z from ⟨by omega, by omega⟩)] at hP; exact hP)

set_option maxRecDepth 20000 in
theorem s_takesSign {E : xE} {f : Nat → Nat} {D : Nat → Nat × Nat} {n : Nat} {m : xM} {P : xPo} {PX : xPx} {q : Nat → Int} {N : Nat} {X : pX} {c : Int} (hc9 : 0 ≤ c ∧ c ≤ 127) (hS : lC q N X m) (hP : ∀ m', cg 80 [3] m m' → lC q N (psX q N c X) m' → P (some (vi (zi (psT q N c X)))) (gS f D n) m') : xC E (yX3_takesSign, cX3_takesSign, 2, some .boolean) 1 0 0 [vr E 80, vi c] (gS f D n) m P PX := by
  refine x_enter (by decide) rfl rfl (Nat.le_of_ble_eq_true rfl) ?_
  refine x_aload_n dX3_takesSign_0 rfl ?_
  refine x_V0 mX3_93 dX3_takesSign_1 rfl (s_skipBlanks hS (fun m1 hc1 hS1 => ?_))
  obtain ⟨⟨a1, ha1, haN1, hah1⟩, he1, hf1, hp1, h41, hN1, hb1⟩ := id hS1
  rw [pskip_1] at hf1 hah1 h41
  refine x_aload_n dX3_takesSign_4 rfl ?_
  refine x_getI fX3_39 dX3_takesSign_5 rfl ?_
  refine x_top (hf1) ?_
  refine x_if_ne (tgt := 35) dX3_takesSign_8 (by decide) (by omega) (fun h8 => ?_) (fun h8 => ?_)
  · have hno : ¬ psT q N c X := fun zz => h8 (by rw [zz.1]; rfl)
    refine x_iconst dX3_takesSign_35 ?_
    exact x_zret dX3_takesSign_36 (Or.inl rfl) (zi_P0 hno (hP m1 hc1 (by rw [psX_f hno]; exact hS1)))
  · have hX : X.1 = 0 := by omega
    have haS : a1 = skp q N X.2.2.1 := (hah1 hX).trans (by rw [pskip_0 hX]; rfl)
    have hp1X : (pskip q N X).1 = 0 := pskip_1.trans hX
    refine x_aload_n dX3_takesSign_11 rfl ?_
    refine x_getI fX3_26 dX3_takesSign_12 rfl ?_
    refine x_top (ha1) ?_
    refine x_aload_n dX3_takesSign_15 rfl ?_
    refine x_getI fX3_36 dX3_takesSign_16 rfl ?_
    refine x_top (he1) ?_
    refine x_icmp_ge (tgt := 35) dX3_takesSign_19 (by decide) (by omega) (fun h19 => ?_) (fun h19 => ?_)
    · have hno : ¬ psT q N c X := fun zz => by have := zz.2.1; omega
      refine x_iconst dX3_takesSign_35 ?_
      exact x_zret dX3_takesSign_36 (Or.inl rfl) (zi_P0 hno (hP m1 hc1 (by rw [psX_f hno]; exact hS1)))
    · have hbi := hb1 a1 (by omega)
      refine x_aload_n dX3_takesSign_22 rfl ?_
      refine x_getR (r := 79) fX3_22 dX3_takesSign_23 rfl rfl ?_
      refine x_aload_n dX3_takesSign_26 rfl ?_
      refine x_getI fX3_26 dX3_takesSign_27 rfl ?_
      refine x_top (ha1) ?_
      refine x_bald (j := a1) dX3_takesSign_30 rfl (by omega) (show _ < 600 by omega) (by omega) ?_
      refine x_top (hbi.1) ?_
      refine x_iload_n dX3_takesSign_31 rfl ?_
      refine x_icmp_eq (tgt := 37) dX3_takesSign_32 (by decide) (by omega) (fun h32 => ?_) (fun h32 => ?_)
      · have hyes : psT q N c X := ⟨hX, by omega, by rw [← haS]; omega⟩
        refine x_aload_n dX3_takesSign_37 rfl ?_
        refine x_dup dX3_takesSign_38 vr_cat ?_
        refine x_getI fX3_26 dX3_takesSign_39 rfl ?_
        refine x_top (ha1) ?_
        refine x_iconst dX3_takesSign_42 ?_
        refine x_iadd dX3_takesSign_43 ?_
        refine x_putI fX3_26 dX3_takesSign_44 rfl (by decide) rfl rfl ?_
        refine x_iconst dX3_takesSign_47 ?_
        exact x_zret dX3_takesSign_48 (Or.inr rfl) (zi_P1 hyes (hP _ (hc1.u (by decide)) (by rw [psX_t hyes]; exact hS.to (X' := pat (skp q N X.2.2.1 + 1) X) (hc1.u (J := [3]) (by decide)) (by decide) (by decide) (by decide) (by decide) rfl (fun _ => rfl) (a := a1 + 1) (by rw [xu_s]; omega) (by omega) (fun _ => by rw [haS]; rfl))))
      · have hno : ¬ psT q N c X := fun zz => by have := zz.2.2; rw [← haS] at this; omega
        refine x_iconst dX3_takesSign_35 ?_
        exact x_zret dX3_takesSign_36 (Or.inl rfl) (zi_P0 hno (hP m1 hc1 (by rw [psX_f hno]; exact hS1)))

/-- a flaw behind skipped blanks -/
theorem lC_fl {q : Nat → Int} {N k a b : Nat} {X : pX} {C ja je jf jp B : Nat} {m : xM} (hab : X.1 = 0 → a = b) (hS : lS C ja je jf jp B q N (pfl k a (pskip q N X)) m) (k0 : k ≠ 0 := by decide) : lS C ja je jf jp B q N (pfl k b X) m := by
  by_cases e : X.1 = 0
  · have e2 : pfl k a (pskip q N X) = (k, a, skp q N X.2.2.1, X.2.2.2) := by unfold pfl; rw [if_pos (pskip_1.trans e), pskip_0 e]; rfl
    have e3 : pfl k b X = (k, b, X.2.2) := by unfold pfl; rw [if_pos e]
    rw [e2, hab e] at hS
    rw [e3]
    obtain ⟨⟨c, hc, hcN, hch⟩, rest⟩ := hS
    exact ⟨⟨c, hc, hcN, fun z => absurd z k0⟩, rest⟩
  · have e2 : pfl k a (pskip q N X) = X := by unfold pfl; rw [if_neg (fun z => e (pskip_1.symm.trans z)), pskip_n e]
    have e3 : pfl k b X = X := by unfold pfl; rw [if_neg e]
    rw [e2] at hS
    rw [e3]
    exact hS
set_option maxRecDepth 20000 in
theorem s_needSign {E : xE} {f : Nat → Nat} {D : Nat → Nat × Nat} {n : Nat} {m : xM} {P : xPo} {PX : xPx} {q : Nat → Int} {N : Nat} {X : pX} {c : Int} (hc9 : 0 ≤ c ∧ c ≤ 127) (hS : lC q N X m) (hP : ∀ m', cg 80 [3, 5, 9] m m' → lC q N (pnd q N c X) m' → P none (gS f D n) m') : xC E (yX3_needSign, cX3_needSign, 2, none) 2 0 0 [vr E 80, vi c] (gS f D n) m P PX := by
  refine x_enter (by decide) rfl rfl (Nat.le_of_ble_eq_true rfl) ?_
  refine x_aload_n dX3_needSign_0 rfl ?_
  refine x_iload_n dX3_needSign_1 rfl ?_
  refine x_V1 mX3_164 dX3_needSign_2 rfl (s_takesSign hc9 hS (fun m1 hc1 hS1 => ?_))
  refine x_if_ne (tgt := 17) dX3_needSign_5 (by decide) (zi_r _) (fun h5 => ?_) (fun h5 => ?_)
  · have hy := zi_1.mp h5
    exact x_vret dX3_needSign_17 (hP m1 (hc1.wk (by decide)) (by rw [pnd_t hy]; exact hS1))
  · have hy := zi_0.mp h5
    rw [psX_f hy] at hS1
    obtain ⟨⟨a1, ha1, haN1, hah1⟩, -⟩ := id hS1
    refine x_aload_n dX3_needSign_8 rfl ?_
    refine x_iconst dX3_needSign_9 ?_
    refine x_aload_n dX3_needSign_10 rfl ?_
    refine x_getI fX3_26 dX3_needSign_11 rfl ?_
    refine x_top (ha1) ?_
    refine x_V2 mX3_80 dX3_needSign_14 rfl (s_note (k := 1) (p := a1) (by omega) hS1 (fun m2 hc2 hS2 => ?_))
    exact x_vret dX3_needSign_17 (hP m2 (hc1.tr hc2 (by decide) (by decide)) (by rw [pnd_f hy]; exact lC_fl (fun z => by have := hah1 (pskip_1.trans z); rw [pskip_0 z] at this; exact this) hS2))

theorem by_255 : ∀ b : Int, -128 ≤ b → b ≤ 127 → Int32.ofInt b &&& Int32.ofInt 255 = Int32.ofInt (if b < 0 then b + 256 else b) := by
  have h : ∀ k : Nat, k < 256 → Int32.ofInt ((k : Int) - 128) &&& Int32.ofInt 255 = Int32.ofInt (if (k : Int) - 128 < 0 then (k : Int) - 128 + 256 else (k : Int) - 128) := by decide +kernel
  intro b h1 h2
  have := h (b + 128).toNat (by omega)
  rw [show (((b + 128).toNat : Nat) : Int) - 128 = b by omega] at this
  exact this
set_option maxRecDepth 20000 in
theorem s_peekSign {E : xE} {f : Nat → Nat} {D : Nat → Nat × Nat} {n : Nat} {m : xM} {P : xPo} {PX : xPx} {q : Nat → Int} {N : Nat} {X : pX} (hS : lC q N X m) (hP : ∀ m' r, cg 80 [3] m m' → lC q N (pskip q N X) m' → -1 ≤ r ∧ r ≤ 255 → (X.1 = 0 → (r = 40 ↔ sgP q N (skp q N X.2.2.1) 40) ∧ (r = -1 ↔ ¬ skp q N X.2.2.1 < N)) → P (some (vi r)) (gS f D n) m') : xC E (yX3_peekSign, cX3_peekSign, 1, some .int) 1 0 0 [vr E 80] (gS f D n) m P PX := by
  refine x_enter (by decide) rfl rfl (Nat.le_of_ble_eq_true rfl) ?_
  refine x_aload_n dX3_peekSign_0 rfl ?_
  refine x_V0 mX3_93 dX3_peekSign_1 rfl (s_skipBlanks hS (fun m1 hc1 hS1 => ?_))
  obtain ⟨⟨a1, ha1, haN1, hah1⟩, he1, hf1, hp1, h41, hN1, hb1⟩ := id hS1
  rw [pskip_1] at hf1 hah1 h41
  refine x_aload_n dX3_peekSign_4 rfl ?_
  refine x_getI fX3_26 dX3_peekSign_5 rfl ?_
  refine x_top (ha1) ?_
  refine x_aload_n dX3_peekSign_8 rfl ?_
  refine x_getI fX3_36 dX3_peekSign_9 rfl ?_
  refine x_top (he1) ?_
  refine x_icmp_ge (tgt := 31) dX3_peekSign_12 (by decide) (by omega) (fun h12 => ?_) (fun h12 => ?_)
  · refine x_iconst dX3_peekSign_31 ?_
    exact x_iret dX3_peekSign_32  (hP m1 _ hc1 hS1 (by omega) (fun hX => by have haS : a1 = skp q N X.2.2.1 := (hah1 hX).trans (by rw [pskip_0 hX]; rfl); exact ⟨⟨fun zz => absurd zz (by decide), fun zz => by have := zz.1; omega⟩, ⟨fun _ => by omega, fun _ => rfl⟩⟩))
  · have hbi := hb1 a1 (by omega)
    refine x_aload_n dX3_peekSign_15 rfl ?_
    refine x_getR (r := 79) fX3_22 dX3_peekSign_16 rfl rfl ?_
    refine x_aload_n dX3_peekSign_19 rfl ?_
    refine x_getI fX3_26 dX3_peekSign_20 rfl ?_
    refine x_top (ha1) ?_
    refine x_bald (j := a1) dX3_peekSign_23 rfl (by omega) (show _ < 600 by omega) (by omega) ?_
    refine x_top (hbi.1) ?_
    refine x_sipush dX3_peekSign_24 (h := ?_)
    refine x_iand (z := if q a1 < 0 then q a1 + 256 else q a1) dX3_peekSign_27 (by_255 _ hbi.2.1 hbi.2.2) ?_
    refine x_goto (tgt := 32) dX3_peekSign_28 (by decide) ?_
    exact x_iret dX3_peekSign_32  (hP m1 _ hc1 hS1 (by split <;> omega) (fun hX => by have haS : a1 = skp q N X.2.2.1 := (hah1 hX).trans (by rw [pskip_0 hX]; rfl); rw [← haS]; refine ⟨⟨fun zz => ⟨by omega, ?_⟩, fun zz => ?_⟩, ⟨fun zz => ?_, fun zz => by omega⟩⟩; (split at zz <;> omega); (have h40 := zz.2; split <;> omega); (split at zz <;> omega)))

end LF
