section CX
/-- what a call of the class leaves alone: the model, the tape, the class's own numbers but some -/
def kp (L : List Nat) (m m' : xM) : Prop := (∀ c, 96 ≤ c → c < 112 → m' c = m c) ∧ m' 79 = m 79 ∧ ∀ j, j ∉ L → m' 40 j = m 40 j
theorem kp.rf {m : xM} {L : List Nat} : kp L m m := ⟨fun _ _ _ => rfl, rfl, fun _ _ => rfl⟩
theorem kp.tr {m m1 m2 : xM} {L L1 L2 : List Nat} (h1 : kp L1 m m1) (h2 : kp L2 m1 m2) (a : ∀ c ∈ L1, c ∈ L) (b : ∀ c ∈ L2, c ∈ L) : kp L m m2 :=
  ⟨fun c x y => (h2.1 c x y).trans (h1.1 c x y), h2.2.1.trans h1.2.1, fun j hj => (h2.2.2 j (fun z => hj (b j z))).trans (h1.2.2 j (fun z => hj (a j z)))⟩
theorem kp.ag {S : List Nat} {m m' : xM} (h : ag S m m') (hS : ∀ c ∈ S, 40 < c ∧ c < 96 ∧ c ≠ 79) : kp [] m m' :=
  ⟨fun c x y => h c (fun z => by have := hS c z; omega), h 79 (fun z => by have := hS 79 z; omega), fun j _ => by rw [h 40 (fun z => by have := hS 40 z; omega)]⟩
theorem kp.crf {m : xM} {q : Nat} : kp [9 + q] m (crf m q) :=
  ⟨fun c x y => xu_ne (by omega), xu_ne (by omega), fun j hj => by show xu m 40 (9 + q) (m 40 (9 + q) + 1) 40 j = m 40 j; rw [xu_if]; simp at hj; rw [if_neg (by omega)]⟩
section CI2
variable {v : Nat → Int} {h : List (Nat → Int)} {f : Nat → Nat} {D : Nat → Nat × Nat} {n : Nat} {m : xM}
theorem cI.ask {S : List Nat} {m1 : xM} (hI : cI v h f D n m) (ha : ag S m m1) (hT : cT v m1) (hS : ∀ c ∈ S, 86 ≤ c ∧ c < 96) : cI v h f D n m1 := by
  obtain ⟨i1, i2, i3, i5, i6, p, q1, q2, q3, q4, q5⟩ := hI
  have eo : ∀ q, q < 86 ∨ 96 ≤ q → m1 q = m q := fun q hq => ha q (fun z => by have := hS q z; omega)
  refine ⟨i1.t ha hT (fun z => by have := hS 41 z; omega) (fun c hc => by have := hS c hc; omega), ?_, ?_, i5, i6, p, ?_, q2, ?_, q4, fun i hi => ?_⟩
  · rw [eo 40 (by omega)]; exact i2
  · rw [eo 40 (by omega), eo 41 (by omega)]; exact i3
  · rw [eo 45 (by omega)]; exact q1
  · rw [eo 45 (by omega)]; exact q3
  · exact (q5 i hi).mv rfl rfl (eo _ (by omega)) (eo _ (by omega)) (eo _ (by omega)) (eo _ (by omega)) (fun z => eo _ (by omega)) (by rw [eo 40 (by omega)]; exact Int.le_refl _) (fun _ _ _ _ => rfl)
theorem cI.nn {n' : Nat} (hI : cI v h f D n m) (hn : n ≤ n') : cI v h f D n' m := by
  obtain ⟨i1, i2, i3, i5, i6, i7⟩ := hI
  exact ⟨i1, i2, i3, by omega, fun c hc => by have := i6 c hc; omega, i7⟩
/-- other numbers of the class's own -/
theorem cI.o40 {m' : xM} (hI : cI v h f D n m) (h7 : m' 40 7 = m 40 7) (ho : ∀ c, c ≠ 40 → m' c = m c) : cI v h f D n m' := by
  obtain ⟨⟨j0, j1, j2⟩, i2, i3, i5, i6, p, q1, q2, q3, q4, q5⟩ := hI
  have ha : ag [40] m m' := fun c hc => ho c (by simpa using hc)
  have hV : cV v f D m' := cV.ag ⟨j0, j1, j2⟩ ha (by decide) (by decide) (by decide) (by decide) (by decide) (by decide) (by decide)
  refine ⟨hV, by rw [h7]; exact i2, by rw [h7, ho 41 (by omega)]; exact i3, i5, i6, p, by rw [ho 45 (by omega)]; exact q1, q2, by rw [ho 45 (by omega)]; exact q3, q4, fun i hi => ?_⟩
  exact (q5 i hi).mv rfl rfl (ho _ (by omega)) (ho _ (by omega)) (ho _ (by omega)) (ho _ (by omega)) (fun z => ho _ (by omega)) (by rw [h7]; exact Int.le_refl _) (fun _ _ _ _ => rfl)
theorem cI.crf {q : Nat} {j : Nat} (hI : cI v h f D n m) : cI v h f D (n + j) (crf m q) :=
  (hI.nn (Nat.le_add_right n j)).o40 (by show xu m 40 (9 + q) (m 40 (9 + q) + 1) 40 7 = m 40 7; rw [xu_if, if_neg (by omega)]) (fun c hc => xu_ne hc)
theorem cC.surge {z : Int} (hC : cC v m) : cC (vup v 2 z) (xu m 41 2 z) := by
  obtain ⟨⟨a0, a1, a2⟩, ⟨a3, a4⟩, ⟨a5, a6⟩, ⟨a7, a8⟩⟩ := hC
  have e : ∀ k, k ≠ 2 → vup v 2 z k = v k := fun k hk => vup_ne hk
  have e2 : vup v 2 z 2 = z := vup_eq
  have d : ∀ k, k ≠ 2 → xu m 41 2 z 41 k = m 41 k := fun k hk => by rw [xu_if, if_neg hk]
  have d2 : xu m 41 2 z 41 2 = z := by rw [xu_if, if_pos rfl]
  unfold cC cA cW cB cS
  rw [e 0 (by omega), e 1 (by omega), e 3 (by omega), e 4 (by omega), e 5 (by omega), e2, d 0 (by omega), d 1 (by omega), d 3 (by omega), d 4 (by omega), d 5 (by omega), d2]
  refine ⟨⟨a0, a1, rfl⟩, ⟨a3, fun i hi => ?_⟩, ⟨a5, fun i hi => ?_⟩, ⟨a7, fun i hi => ?_⟩⟩
  · rw [e _ (by omega)]; exact a4 i hi
  · rw [e _ (by omega)]; exact a6 i hi
  · rw [e _ (by omega)]; exact a8 i hi
theorem cC.sound {z : Int} {b : Nat} (hC : cC v m) (hv : vOk0 v) (hb : (b : Int) < v 4) : cC (vup v (24 + 6 * b + 1) z) (xu m 43 (6 * b + 1) z) := by
  have h3 := hv.2.2.2.1.1
  have h4 := hv.2.2.2.2.1.1
  obtain ⟨⟨a0, a1, a2⟩, ⟨a3, a4⟩, ⟨a5, a6⟩, ⟨a7, a8⟩⟩ := hC
  have e : ∀ k, k ≠ 24 + 6 * b + 1 → vup v (24 + 6 * b + 1) z k = v k := fun k hk => vup_ne hk
  have d1 : xu m 43 (6 * b + 1) z 41 = m 41 := xu_ne (by omega)
  have d2 : xu m 43 (6 * b + 1) z 42 = m 42 := xu_ne (by omega)
  have d4 : xu m 43 (6 * b + 1) z 44 = m 44 := xu_ne (by omega)
  unfold cC cA cW cB cS
  rw [e 0 (by omega), e 1 (by omega), e 2 (by omega), e 3 (by omega), e 4 (by omega), e 5 (by omega), d1, d2, d4]
  refine ⟨⟨a0, a1, a2⟩, ⟨a3, fun i hi => ?_⟩, ⟨a5, fun i hi => ?_⟩, ⟨a7, fun i hi => ?_⟩⟩
  · rw [e _ (by omega)]; exact a4 i hi
  · rw [xu_if]
    by_cases c : i = 6 * b + 1
    · rw [if_pos c, c, show 24 + (6 * b + 1) = 24 + 6 * b + 1 by omega, vup_eq]
    · rw [if_neg c, e _ (by omega)]; exact a6 i hi
  · rw [e _ (by omega)]; exact a8 i hi
theorem cC.ship2 {z : Int} {i0 : Nat} (hC : cC v m) (h3 : 0 ≤ v 3 ∧ v 3 ≤ 6) (h4 : 0 ≤ v 4 ∧ v 4 ≤ 6) : cC (vup v (60 + i0) z) (xu m 44 i0 z) := by
  obtain ⟨⟨a0, a1, a2⟩, ⟨a3, a4⟩, ⟨a5, a6⟩, ⟨a7, a8⟩⟩ := hC
  have e : ∀ k, k ≠ 60 + i0 → vup v (60 + i0) z k = v k := fun k hk => vup_ne hk
  have d1 : xu m 44 i0 z 41 = m 41 := xu_ne (by omega)
  have d2 : xu m 44 i0 z 42 = m 42 := xu_ne (by omega)
  have d4 : xu m 44 i0 z 43 = m 43 := xu_ne (by omega)
  unfold cC cA cW cB cS
  rw [e 0 (by omega), e 1 (by omega), e 2 (by omega), e 3 (by omega), e 4 (by omega), e 5 (by omega), d1, d2, d4]
  refine ⟨⟨a0, a1, a2⟩, ⟨a3, fun i hi => ?_⟩, ⟨a5, fun i hi => ?_⟩, ⟨a7, fun i hi => ?_⟩⟩
  · rw [e _ (by omega)]; exact a4 i hi
  · rw [e _ (by omega)]; exact a6 i hi
  · rw [xu_if]
    by_cases c : i = i0
    · rw [if_pos c, c, vup_eq]
    · rw [if_neg c, e _ (by omega)]; exact a8 i hi
theorem cC.ship {z : Int} {i0 : Nat} (hC : cC v m) (hv : vOk0 v) : cC (vup v (60 + i0) z) (xu m 44 i0 z) := hC.ship2 hv.2.2.2.1.1 hv.2.2.2.2.1.1
theorem cF_10 {m : xM} (hF : cF v f D m) : 0 ≤ m 41 10 ∧ m 41 10 ≤ 1 := by rcases hF.2 with ⟨q, -⟩ | q <;> omega
end CI2
theorem s_keepI {E : xE} {f : Nat → Nat} {D : Nat → Nat × Nat} {n : Nat} {m : xM} {P : xPo} {PX : xPx} {v : Nat → Int} {h : List (Nat → Int)} (hI : cI v h f D n m) (hP : ∀ m' f', cI v (psh h v) f' D n m' → kp [] m m' → P none (gS f' D n) m') : xC E (yX1_keep, cX1_keep, 2, none) 2 0 0 [vr E 45, vr E 41] (gS f D n) m P PX := by
  have hI0 := hI
  obtain ⟨i1, i2, i3, i5, i6, p, q1, q2, q3, q4, q5⟩ := hI
  refine s_keep q1 q2 q3 q4 (cF_10 i1.2.2) (fun m1 hcp => ?_)
  refine hP _ _ (hI0.keep q1 q2 hcp) ⟨fun c x y => ?_, ?_, fun j _ => ?_⟩
  · rw [xu_ne (by omega), xu_ne (by omega), hcp.1 c (by simp; omega)]
  · rw [xu_ne (by omega), xu_ne (by omega), hcp.1 79 (by simp; omega)]
  · rw [xu_ne (by omega), xu_ne (by omega), hcp.1 40 (by simp; omega)]
theorem cC.bk {v : Nat → Int} {m : xM} {a b : Int} {s : Nat} (hC : cC v m) (hv : vOk0 v) : cC (vbk v s a b) (xu (xu m 44 (8 * s + 6) a) 44 (8 * s + 7) b) := by
  have h1 : cC (vup v (60 + (8 * s + 6)) a) (xu m 44 (8 * s + 6) a) := hC.ship hv
  have hv' : 0 ≤ v 3 ∧ v 3 ≤ 6 := hv.2.2.2.1.1
  have hv4 := hv.2.2.2.2.1.1
  have h2 := h1.ship2 (z := b) (i0 := 8 * s + 7) (by rw [vup_ne (by omega)]; exact hv') (by rw [vup_ne (by omega)]; exact hv4)
  unfold vbk
  rw [show 60 + 8 * s + 6 = 60 + (8 * s + 6) by omega, show 60 + 8 * s + 7 = 60 + (8 * s + 7) by omega]
  exact h2
set_option maxRecDepth 20000 in
theorem s_csurge {E : xE} {f : Nat → Nat} {D : Nat → Nat × Nat} {n : Nat} {m : xM} {P : xPo} {PX : xPx} {v : Nat → Int} {h : List (Nat → Int)} {x : Int} (hE : eOk E) (hI : cI v h f D n m) (hx : -2147483648 ≤ x ∧ x ≤ 2147483647) (hX : ∀ k9 q9 m1, (rf1 (-300 ≤ x ∧ x ≤ 300) 1) k9 q9 → cI v h f D n m1 → kp [] m m1 → ∀ j, PX (xcls q9) (gS f D (n + j)) (crf m1 q9)) (hP : ∀ m' f' r, (-300 ≤ x ∧ x ≤ 300) → (fun r => r = v 2) r → cI (vup v 2 x) (psh h v) f' D n m' → kp [] m m' → P (some (vi r)) (gS f' D n) m') : xC E (yX5_surge, cX5_surge, 3, some .int) 12 8 64 [vr E 40, vi x] (gS f D n) m P PX := by
  refine x_enter (by decide) rfl rfl (Nat.le_of_ble_eq_true rfl) ?_
  have hV := hI.1
  have hT := hV.2.1
  have hC := hT.1
  have hv := hV.1.1
  have hv5 := hv.2.2.2.2.2.1
  have hv4 := hv.2.2.2.2.1.1
  have hv3 := hv.2.2.2.1.1
  refine x_aload_n dX5_surge_0 rfl ?_
  refine x_iload_n dX5_surge_1 rfl ?_
  refine x_sipush dX5_surge_2 (h := ?_)
  refine x_sipush dX5_surge_5 (h := ?_)
  refine x_V3 mX5_65 dX5_surge_8 rfl (s_needWithin hx (by omega) (by omega) (fun hn => hX 1 1 m ⟨hn, rfl, rfl⟩ hI kp.rf) (fun h1 => ?_))
  refine x_aload_n dX5_surge_11 rfl ?_
  refine x_getR (r := 45) fX5_19 dX5_surge_12 rfl rfl ?_
  refine x_aload_n dX5_surge_15 rfl ?_
  refine x_getR (r := 41) fX5_10 dX5_surge_16 rfl rfl ?_
  refine x_V1 mX5_74 dX5_surge_19 rfl (s_keepI hI (fun m2 f2 hI2 hk2 => ?_))
  have hC2 := hI2.1.2.1.1
  refine x_aload_n dX5_surge_22 rfl ?_
  refine x_getR (r := 41) fX5_10 dX5_surge_23 rfl rfl ?_
  refine x_getI fX5_115 dX5_surge_26 rfl ?_
  refine x_top (hC2.1.2.2) ?_
  refine x_istore_n dX5_surge_29 ?_
  refine x_aload_n dX5_surge_30 rfl ?_
  refine x_getR (r := 41) fX5_10 dX5_surge_31 rfl rfl ?_
  refine x_iload_n dX5_surge_34 rfl ?_
  refine x_putI fX5_115 dX5_surge_35 rfl (by decide) rfl rfl ?_
  refine x_iload_n dX5_surge_38 rfl ?_
  exact x_iret dX5_surge_39  (hP _ _ _ h1 rfl (hI2.upd (vOk_surge hV.1 h1) (vup_ne (by omega)) (fun k _ _ => vup_ne (by omega)) (fun k _ => vup_ne (by omega)) (ag.u ag.rf (by decide)) (by rw [xu_if, if_neg (by omega)]) (by rw [xu_if, if_neg (by omega)]) hC2.surge) (hk2.tr (kp.ag (ag.u ag.rf (by decide) : ag [41] m2 _) (by decide)) (by decide) (by decide)))

set_option maxRecDepth 20000 in
theorem s_csound {E : xE} {f : Nat → Nat} {D : Nat → Nat × Nat} {n : Nat} {m : xM} {P : xPo} {PX : xPx} {v : Nat → Int} {h : List (Nat → Int)} {x y : Int} (hE : eOk E) (hI : cI v h f D n m) (hx : -2147483648 ≤ x ∧ x ≤ 2147483647) (hy : -2147483648 ≤ y ∧ y ≤ 2147483647) (hX : ∀ k9 q9 m1, (rf2 (0 ≤ x ∧ x < v 4) (100 ≤ y ∧ y ≤ 3000) 0 1) k9 q9 → cI v h f D n m1 → kp [] m m1 → ∀ j, PX (xcls q9) (gS f D (n + j)) (crf m1 q9)) (hP : ∀ m' f' r, ((0 ≤ x ∧ x < v 4) ∧ (100 ≤ y ∧ y ≤ 3000)) → (fun r => r = br v x.toNat 1) r → cI (vup v (24 + 6 * x.toNat + 1) y) (psh h v) f' D n m' → kp [] m m' → P (some (vi r)) (gS f' D n) m') : xC E (yX5_sound, cX5_sound, 4, some .int) 12 8 64 [vr E 40, vi x, vi y] (gS f D n) m P PX := by
  refine x_enter (by decide) rfl rfl (Nat.le_of_ble_eq_true rfl) ?_
  have hV := hI.1
  have hT := hV.2.1
  have hC := hT.1
  have hv := hV.1.1
  have hv5 := hv.2.2.2.2.2.1
  have hv4 := hv.2.2.2.2.1.1
  have hv3 := hv.2.2.2.1.1
  refine x_aload_n dX5_sound_0 rfl ?_
  refine x_iload_n dX5_sound_1 rfl ?_
  refine x_V1 mX5_95 dX5_sound_2 rfl (s_needBar hx hv4 hC (fun hn => hX 1 0 m (Or.inl ⟨hn, rfl, rfl⟩) hI kp.rf) (fun h1 => ?_))
  refine x_aload_n dX5_sound_5 rfl ?_
  refine x_iload_n dX5_sound_6 rfl ?_
  refine x_bipush dX5_sound_7 (h := ?_)
  refine x_sipush dX5_sound_9 (h := ?_)
  refine x_V3 mX5_65 dX5_sound_12 rfl (s_needWithin hy (by omega) (by omega) (fun hn => hX 2 1 m (Or.inr ⟨h1, hn, rfl, rfl⟩) hI kp.rf) (fun h2 => ?_))
  obtain ⟨b, rfl⟩ := nat_of h1.1
  refine x_aload_n dX5_sound_15 rfl ?_
  refine x_getR (r := 45) fX5_19 dX5_sound_16 rfl rfl ?_
  refine x_aload_n dX5_sound_19 rfl ?_
  refine x_getR (r := 41) fX5_10 dX5_sound_20 rfl rfl ?_
  refine x_V1 mX5_74 dX5_sound_23 rfl (s_keepI hI (fun m2 f2 hI2 hk2 => ?_))
  have hC2 := hI2.1.2.1.1
  refine x_aload_n dX5_sound_26 rfl ?_
  refine x_getR (r := 41) fX5_10 dX5_sound_27 rfl rfl ?_
  refine x_iload_n dX5_sound_30 rfl ?_
  refine x_iconst dX5_sound_31 ?_
  refine x_V2 mX5_98 dX5_sound_32 rfl (s_barOf (6 * b + 1) (by omega) (by omega) ?_)
  refine x_top (hC2.2.2.1.b h1.2 (by omega)) ?_
  refine x_istore_n dX5_sound_35 ?_
  refine x_aload_n dX5_sound_36 rfl ?_
  refine x_getR (r := 41) fX5_10 dX5_sound_37 rfl rfl ?_
  refine x_getR (r := 43) fX5_102 dX5_sound_40 rfl rfl ?_
  refine x_iload_n dX5_sound_43 rfl ?_
  refine x_bipush dX5_sound_44 (h := ?_)
  refine x_imul dX5_sound_46 ?_
  refine x_iconst dX5_sound_47 ?_
  refine x_iadd dX5_sound_48 ?_
  refine x_iload_n dX5_sound_49 rfl ?_
  refine x_iast (j := (6 * b + 1)) dX5_sound_50 rfl (by decide) (by omega) (show _ < 36 by omega) (by omega) ?_
  refine x_iload_n dX5_sound_51 rfl ?_
  exact x_iret dX5_sound_52  (hP _ _ _ ⟨h1, h2⟩ rfl (hI2.upd (vOk_sound hV.1 h1.2 h2) (vup_ne (by omega)) (fun k _ _ => vup_ne (by omega)) (fun k _ => vup_ne (by omega)) (ag.u ag.rf (by decide)) (by rw [xu_ne (by omega)]) (by rw [xu_ne (by omega)]) (hC2.sound hv h1.2)) (hk2.tr (kp.ag (ag.u ag.rf (by decide) : ag [43] m2 _) (by decide)) (by decide) (by decide)))

set_option maxRecDepth 20000 in
theorem s_cload {E : xE} {f : Nat → Nat} {D : Nat → Nat × Nat} {n : Nat} {m : xM} {P : xPo} {PX : xPx} {v : Nat → Int} {h : List (Nat → Int)} {x y : Int} (hE : eOk E) (hI : cI v h f D n m) (hx : -2147483648 ≤ x ∧ x ≤ 2147483647) (hy : -2147483648 ≤ y ∧ y ≤ 2147483647) (hX : ∀ k9 q9 m1, (rf2 (0 ≤ x ∧ x < v 5) (100 ≤ y ∧ y ≤ 2500) 0 1) k9 q9 → cI v h f D n m1 → kp [] m m1 → ∀ j, PX (xcls q9) (gS f D (n + j)) (crf m1 q9)) (hP : ∀ m' f' r, ((0 ≤ x ∧ x < v 5) ∧ (100 ≤ y ∧ y ≤ 2500)) → (fun r => r = sh v x.toNat 0) r → cI (vup v (60 + 8 * x.toNat + 0) y) (psh h v) f' D n m' → kp [] m m' → P (some (vi r)) (gS f' D n) m') : xC E (yX5_load, cX5_load, 4, some .int) 12 8 64 [vr E 40, vi x, vi y] (gS f D n) m P PX := by
  refine x_enter (by decide) rfl rfl (Nat.le_of_ble_eq_true rfl) ?_
  have hV := hI.1
  have hT := hV.2.1
  have hC := hT.1
  have hv := hV.1.1
  have hv5 := hv.2.2.2.2.2.1
  have hv4 := hv.2.2.2.2.1.1
  have hv3 := hv.2.2.2.1.1
  refine x_aload_n dX5_load_0 rfl ?_
  refine x_iload_n dX5_load_1 rfl ?_
  refine x_V1 mX5_106 dX5_load_2 rfl (s_needShip hx hv5 hC (fun hn => hX 1 0 m (Or.inl ⟨hn, rfl, rfl⟩) hI kp.rf) (fun h1 => ?_))
  refine x_aload_n dX5_load_5 rfl ?_
  refine x_iload_n dX5_load_6 rfl ?_
  refine x_bipush dX5_load_7 (h := ?_)
  refine x_sipush dX5_load_9 (h := ?_)
  refine x_V3 mX5_65 dX5_load_12 rfl (s_needWithin hy (by omega) (by omega) (fun hn => hX 2 1 m (Or.inr ⟨h1, hn, rfl, rfl⟩) hI kp.rf) (fun h2 => ?_))
  obtain ⟨s, rfl⟩ := nat_of h1.1
  refine x_aload_n dX5_load_15 rfl ?_
  refine x_getR (r := 45) fX5_19 dX5_load_16 rfl rfl ?_
  refine x_aload_n dX5_load_19 rfl ?_
  refine x_getR (r := 41) fX5_10 dX5_load_20 rfl rfl ?_
  refine x_V1 mX5_74 dX5_load_23 rfl (s_keepI hI (fun m2 f2 hI2 hk2 => ?_))
  have hC2 := hI2.1.2.1.1
  refine x_aload_n dX5_load_26 rfl ?_
  refine x_getR (r := 41) fX5_10 dX5_load_27 rfl rfl ?_
  refine x_iload_n dX5_load_30 rfl ?_
  refine x_iconst dX5_load_31 ?_
  refine x_V2 mX5_109 dX5_load_32 rfl (s_shipOf (8 * s + 0) (by omega) (by omega) ?_)
  refine x_top (hC2.2.2.2.s h1.2 (by omega)) ?_
  refine x_istore_n dX5_load_35 ?_
  refine x_aload_n dX5_load_36 rfl ?_
  refine x_getR (r := 41) fX5_10 dX5_load_37 rfl rfl ?_
  refine x_getR (r := 44) fX5_112 dX5_load_40 rfl rfl ?_
  refine x_iload_n dX5_load_43 rfl ?_
  refine x_bipush dX5_load_44 (h := ?_)
  refine x_imul dX5_load_46 ?_
  refine x_iconst dX5_load_47 ?_
  refine x_iadd dX5_load_48 ?_
  refine x_iload_n dX5_load_49 rfl ?_
  refine x_iast (j := (8 * s + 0)) dX5_load_50 rfl (by decide) (by omega) (show _ < 48 by omega) (by omega) ?_
  refine x_iload_n dX5_load_51 rfl ?_
  exact x_iret dX5_load_52  (hP _ _ _ ⟨h1, h2⟩ rfl (hI2.upd (vOk_load hV.1 h1.2 h2) (vup_ne (by omega)) (fun k _ _ => vup_ne (by omega)) (fun k _ => vup_ne (by omega)) (ag.u ag.rf (by decide)) (by rw [xu_ne (by omega)]) (by rw [xu_ne (by omega)]) (hC2.ship hv)) (hk2.tr (kp.ag (ag.u ag.rf (by decide) : ag [44] m2 _) (by decide)) (by decide) (by decide)))

set_option maxRecDepth 20000 in
theorem s_ccancel {E : xE} {f : Nat → Nat} {D : Nat → Nat × Nat} {n : Nat} {m : xM} {P : xPo} {PX : xPx} {v : Nat → Int} {h : List (Nat → Int)} {x : Int} (hE : eOk E) (hI : cI v h f D n m) (hx : -2147483648 ≤ x ∧ x ≤ 2147483647) (hX : ∀ k9 q9 m1, (rf2 (0 ≤ x ∧ x < v 5) (bk v x.toNat) 0 2) k9 q9 → cI v h f D n m1 → kp [] m m1 → ∀ j, PX (xcls q9) (gS f D (n + j)) (crf m1 q9)) (hP : ∀ m' f' r, ((0 ≤ x ∧ x < v 5) ∧ (bk v x.toNat)) → (fun r => r = sh v x.toNat 6) r → cI (vbk v x.toNat (-1) (-1)) (psh h v) f' D n m' → kp [] m m' → P (some (vi r)) (gS f' D n) m') : xC E (yX5_cancel, cX5_cancel, 3, some .int) 12 8 64 [vr E 40, vi x] (gS f D n) m P PX := by
  refine x_enter (by decide) rfl rfl (Nat.le_of_ble_eq_true rfl) ?_
  have hV := hI.1
  have hT := hV.2.1
  have hC := hT.1
  have hv := hV.1.1
  have hv5 := hv.2.2.2.2.2.1
  have hv4 := hv.2.2.2.2.1.1
  have hv3 := hv.2.2.2.1.1
  refine x_aload_n dX5_cancel_0 rfl ?_
  refine x_iload_n dX5_cancel_1 rfl ?_
  refine x_V1 mX5_106 dX5_cancel_2 rfl (s_needShip hx hv5 hC (fun hn => hX 1 0 m (Or.inl ⟨hn, rfl, rfl⟩) hI kp.rf) (fun h1 => ?_))
  obtain ⟨s, rfl⟩ := nat_of h1.1
  refine x_aload_n dX5_cancel_5 rfl ?_
  refine x_getR (r := 41) fX5_10 dX5_cancel_6 rfl rfl ?_
  refine x_iload_n dX5_cancel_9 rfl ?_
  refine x_V1 mX5_118 dX5_cancel_10 rfl (s_isBooked hv hC h1.2 ?_)
  refine x_if_ne (tgt := 20) dX5_cancel_13 (by decide) (zi_r _) (fun h13 => ?_) (fun h13 => ?_)
  · refine x_aload_n dX5_cancel_20 rfl ?_
    refine x_getR (r := 45) fX5_19 dX5_cancel_21 rfl rfl ?_
    refine x_aload_n dX5_cancel_24 rfl ?_
    refine x_getR (r := 41) fX5_10 dX5_cancel_25 rfl rfl ?_
    refine x_V1 mX5_74 dX5_cancel_28 rfl (s_keepI hI (fun m2 f2 hI2 hk2 => ?_))
    have hC2 := hI2.1.2.1.1
    refine x_aload_n dX5_cancel_31 rfl ?_
    refine x_getR (r := 41) fX5_10 dX5_cancel_32 rfl rfl ?_
    refine x_iload_n dX5_cancel_35 rfl ?_
    refine x_bipush dX5_cancel_36 (h := ?_)
    refine x_V2 mX5_109 dX5_cancel_38 rfl (s_shipOf (8 * s + 6) (by omega) (by omega) ?_)
    refine x_top (hC2.2.2.2.s h1.2 (by omega)) ?_
    refine x_istore_n dX5_cancel_41 ?_
    refine x_aload_n dX5_cancel_42 rfl ?_
    refine x_getR (r := 41) fX5_10 dX5_cancel_43 rfl rfl ?_
    refine x_iload_n dX5_cancel_46 rfl ?_
    refine x_iconst dX5_cancel_47 ?_
    refine x_iconst dX5_cancel_48 ?_
    refine x_V3 mX5_133 dX5_cancel_49 rfl (s_putBooking (by omega) ?_)
    refine x_iload_n dX5_cancel_52 rfl ?_
    exact x_iret dX5_cancel_53  (hP _ _ _ ⟨h1, zi_1.mp h13⟩ rfl (hI2.upd (vOk_bk hV.1 h1.2 (Or.inl ⟨rfl, rfl⟩)) (vbk_ne (by omega) (by omega)) (fun k _ _ => vbk_ne (by omega) (by omega)) (fun k _ => vbk_ne (by omega) (by omega)) (ag.u (ag.u ag.rf (by decide)) (by decide)) (by rw [xu_ne (by omega), xu_ne (by omega)]) (by rw [xu_ne (by omega), xu_ne (by omega)]) (hC2.bk hv)) (hk2.tr (kp.ag (ag.u (ag.u ag.rf (by decide)) (by decide) : ag [44] m2 _) (by decide)) (by decide) (by decide)))
  · refine x_aload_n dX5_cancel_16 rfl ?_
    exact x_V0 mX5_130 dX5_cancel_17 rfl (s_refuseState (hX 2 2 m (Or.inr ⟨h1, zi_0.mp h13, rfl, rfl⟩) hI kp.rf))

set_option maxRecDepth 20000 in
theorem s_cbook {E : xE} {f : Nat → Nat} {D : Nat → Nat × Nat} {n : Nat} {m : xM} {P : xPo} {PX : xPx} {v : Nat → Int} {h : List (Nat → Int)} {x y z : Int} (hE : eOk E) (hI : cI v h f D n m) (hx : -2147483648 ≤ x ∧ x ≤ 2147483647) (hy : -2147483648 ≤ y ∧ y ≤ 2147483647) (hz : -2147483648 ≤ z ∧ z ≤ 2147483647) (hX : ∀ k9 q9 m1, (rf3 (0 ≤ x ∧ x < v 5) ((0 ≤ y ∧ y ≤ 2000) ∧ (sh v x.toNat 3 ≤ z ∧ z ≤ sh v x.toNat 4)) (¬ bk v x.toNat ∧ good v x.toNat (sh v x.toNat 0) y z ∧ cset (cls v x.toNat y z) (v 5).toNat = 0)) k9 q9 → cI v h f D n m1 → kp [] m m1 → ∀ j, PX (xcls q9) (gS f D (n + j)) (crf m1 q9)) (hP : ∀ m' f' r, ((0 ≤ x ∧ x < v 5) ∧ ((0 ≤ y ∧ y ≤ 2000) ∧ (sh v x.toNat 3 ≤ z ∧ z ≤ sh v x.toNat 4)) ∧ (¬ bk v x.toNat ∧ good v x.toNat (sh v x.toNat 0) y z ∧ cset (cls v x.toNat y z) (v 5).toNat = 0)) → (fun r => r = y + pt v x.toNat z) r → cI (vbk v x.toNat y z) (psh h v) f' D n m' → kp [] m m' → P (some (vi r)) (gS f' D n) m') : xC E (yX5_book, cX5_book, 4, some .int) 12 8 64 [vr E 40, vi x, vi y, vi z] (gS f D n) m P PX := by
  refine x_enter (by decide) rfl rfl (Nat.le_of_ble_eq_true rfl) ?_
  have hV := hI.1
  have hT := hV.2.1
  have hC := hT.1
  have hv := hV.1.1
  have hv5 := hv.2.2.2.2.2.1
  have hv4 := hv.2.2.2.2.1.1
  have hv3 := hv.2.2.2.1.1
  refine x_aload_n dX5_book_0 rfl ?_
  refine x_iload_n dX5_book_1 rfl ?_
  refine x_V1 mX5_106 dX5_book_2 rfl (s_needShip hx hv5 hC (fun hn => hX 1 0 m (Or.inl ⟨hn, rfl, rfl⟩) hI kp.rf) (fun h1 => ?_))
  refine x_aload_n dX5_book_5 rfl ?_
  refine x_iload_n dX5_book_6 rfl ?_
  refine x_iconst dX5_book_7 ?_
  refine x_sipush dX5_book_8 (h := ?_)
  refine x_V3 mX5_65 dX5_book_11 rfl (s_needWithin hy (by omega) (by omega) (fun hn => hX 2 1 m (Or.inr (Or.inl ⟨h1, fun zz => hn zz.1, rfl, rfl⟩)) hI kp.rf) (fun h2 => ?_))
  obtain ⟨s, rfl⟩ := nat_of h1.1
  obtain ⟨hdr, -, -, hls, -⟩ := hv.2.2.2.2.2.2 s h1.2
  refine x_aload_n dX5_book_14 rfl ?_
  refine x_iload_n dX5_book_15 rfl ?_
  refine x_aload_n dX5_book_16 rfl ?_
  refine x_getR (r := 41) fX5_10 dX5_book_17 rfl rfl ?_
  refine x_iload_n dX5_book_20 rfl ?_
  refine x_iconst dX5_book_21 ?_
  refine x_V2 mX5_109 dX5_book_22 rfl (s_shipOf (8 * s + 3) (by omega) (by omega) ?_)
  refine x_top (hC.2.2.2.s h1.2 (by omega)) ?_
  refine x_aload_n dX5_book_25 rfl ?_
  refine x_getR (r := 41) fX5_10 dX5_book_26 rfl rfl ?_
  refine x_iload_n dX5_book_29 rfl ?_
  refine x_iconst dX5_book_30 ?_
  refine x_V2 mX5_109 dX5_book_31 rfl (s_shipOf (8 * s + 4) (by omega) (by omega) ?_)
  refine x_top (hC.2.2.2.s h1.2 (by omega)) ?_
  refine x_V3 mX5_65 dX5_book_34 rfl (s_needWithin hz (by omega) (by omega) (fun hn => hX 2 1 m (Or.inr (Or.inl ⟨h1, fun zz => hn zz.2, rfl, rfl⟩)) hI kp.rf) (fun h3 => ?_))
  refine x_aload_n dX5_book_37 rfl ?_
  refine x_getR (r := 41) fX5_10 dX5_book_38 rfl rfl ?_
  refine x_iload_n dX5_book_41 rfl ?_
  refine x_V1 mX5_118 dX5_book_42 rfl (s_isBooked hv hC h1.2 ?_)
  refine x_if_ne (tgt := 71) dX5_book_45 (by decide) (zi_r _) (fun h45 => ?_) (fun h45 => ?_)
  · refine x_aload_n dX5_book_71 rfl ?_
    exact x_V0 mX5_130 dX5_book_72 rfl (s_refuseState (hX 3 2 m (Or.inr (Or.inr ⟨h1, ⟨h2, h3⟩, fun zz => zz.1 (zi_1.mp h45), rfl, rfl⟩)) hI kp.rf))
  · refine x_aload_n dX5_book_48 rfl ?_
    refine x_getR (r := 88) fX5_50 dX5_book_49 rfl rfl ?_
    refine x_iload_n dX5_book_52 rfl ?_
    refine x_iload_n dX5_book_53 rfl ?_
    refine x_iload_n dX5_book_54 rfl ?_
    refine x_V3 mX5_122 dX5_book_55 rfl (s_isGood hE hV h1.2 (by omega) (by omega) (fun m1 ha1 hT1 => ?_))
    have hI1 := hI.ask ha1 hT1 (by decide)
    have hk1 : kp [] m m1 := kp.ag ha1 (by decide)
    refine x_if_eq (tgt := 71) dX5_book_58 (by decide) (zi_r _) (fun h58 => ?_) (fun h58 => ?_)
    · refine x_aload_n dX5_book_71 rfl ?_
      exact x_V0 mX5_130 dX5_book_72 rfl (s_refuseState (hX 3 2 m1 (Or.inr (Or.inr ⟨h1, ⟨h2, h3⟩, fun zz => zi_0.mp h58 zz.2.1, rfl, rfl⟩)) hI1 hk1))
    · refine x_aload_n dX5_book_61 rfl ?_
      refine x_iload_n dX5_book_62 rfl ?_
      refine x_iload_n dX5_book_63 rfl ?_
      refine x_iload_n dX5_book_64 rfl ?_
      refine x_V3 mX5_126 dX5_book_65 rfl (s_closeTo hv hT1.1 h1.2 (by omega) (by omega) ?_)
      have h6 := cset_6 (cls v s y z) (show (v 5).toNat ≤ 6 by omega)
      refine x_if_eq (tgt := 75) dX5_book_68 (by decide) (by omega) (fun h68 => ?_) (fun h68 => ?_)
      · refine x_aload_n dX5_book_75 rfl ?_
        refine x_getR (r := 45) fX5_19 dX5_book_76 rfl rfl ?_
        refine x_aload_n dX5_book_79 rfl ?_
        refine x_getR (r := 41) fX5_10 dX5_book_80 rfl rfl ?_
        refine x_V1 mX5_74 dX5_book_83 rfl (s_keepI hI1 (fun m2 f2 hI2 hk2' => ?_))
        have hC2 := hI2.1.2.1.1
        have hk2 : kp [] m m2 := hk1.tr hk2' (by decide) (by decide)
        refine x_aload_n dX5_book_86 rfl ?_
        refine x_getR (r := 41) fX5_10 dX5_book_87 rfl rfl ?_
        refine x_iload_n dX5_book_90 rfl ?_
        refine x_iload_n dX5_book_91 rfl ?_
        refine x_iload_n dX5_book_92 rfl ?_
        refine x_V3 mX5_133 dX5_book_93 rfl (s_putBooking (by omega) ?_)
        have hIb := (hI2.upd (vOk_bk hV.1 h1.2 (Or.inr (show 0 ≤ y ∧ y ≤ 2000 ∧ 4 ≤ z ∧ z ≤ 25 by omega))) (vbk_ne (by omega) (by omega)) (fun k _ _ => vbk_ne (by omega) (by omega)) (fun k _ => vbk_ne (by omega) (by omega)) (ag.u (ag.u ag.rf (by decide)) (by decide)) (by rw [xu_ne (by omega), xu_ne (by omega)]) (by rw [xu_ne (by omega), xu_ne (by omega)]) (hC2.bk hv))
        refine x_iload_n dX5_book_96 rfl ?_
        refine x_aload_n dX5_book_97 rfl ?_
        refine x_getR (r := 41) fX5_10 dX5_book_98 rfl rfl ?_
        refine x_iload_n dX5_book_101 rfl ?_
        refine x_iload_n dX5_book_102 rfl ?_
        refine x_V2 mX5_136 dX5_book_103 rfl (s_passageTime hIb.1.1.1 hIb.1.2.1.1 (show (s : Int) < vbk v s y z 5 by rw [vbk_ne (by omega) (by omega)]; exact h1.2) (by omega) ?_)
        rw [pt_c (v := v) (v' := vbk v s y z) (vbk_ne (by omega) (by omega)) hv4 (fun k _ _ => vbk_ne (by omega) (by omega)) (vbk_ne (by omega) (by omega))]
        refine x_iadd dX5_book_106 ?_
        exact x_iret dX5_book_107  (hP _ _ _ ⟨h1, ⟨h2, h3⟩, zi_0.mp h45, zi_1.mp h58, show cset (cls v s y z) (v 5).toNat = 0 by omega⟩ rfl hIb (hk2.tr (kp.ag (ag.u (ag.u ag.rf (by decide)) (by decide) : ag [44] m2 _) (by decide)) (by decide) (by decide)))
      · refine x_aload_n dX5_book_71 rfl ?_
        exact x_V0 mX5_130 dX5_book_72 rfl (s_refuseState (hX 3 2 m1 (Or.inr (Or.inr ⟨h1, ⟨h2, h3⟩, fun zz => h68 (by have : cset (cls v s y z) (v 5).toNat = 0 := zz.2.2; omega), rfl, rfl⟩)) hI1 hk1))

end CX
