section KO
/-! shapes being made: what was there before, and the cells made since -/
abbrev gC : Type := Nat × Nat × List Nat
def gT (A B : List gC) : xG := (fun a b => ((A ++ B).getD a (99, 0, [])).2.2.getD b 0, fun a => ((A ++ B).getD a (99, 0, [])).1, fun a => ((A ++ B).getD a (99, 0, [])).2.1, A.length + B.length)
def bset : List gC → Nat → Nat → Nat → List gC
  | [], _, _, _ => []
  | (K, l, R) :: t, 0, j, z => (K, l, R.set j z) :: t
  | h :: t, i + 1, j, z => h :: bset t i j z
theorem getD_A {A B : List gC} {i : Nat} {d : gC} : (A ++ B).getD (A.length + i) d = B.getD i d := by
  rw [List.getD_eq_getElem?_getD, List.getD_eq_getElem?_getD, List.getElem?_append_right (by omega)]
  congr 2
  omega
theorem gT_k {A B : List gC} (i : Nat) : (gT A B).2.1 (A.length + i) = (B.getD i (99, 0, [])).1 := by show ((A ++ B).getD _ _).1 = _; rw [getD_A]
theorem gT_l {A B : List gC} (i : Nat) : (gT A B).2.2.1 (A.length + i) = (B.getD i (99, 0, [])).2.1 := by show ((A ++ B).getD _ _).2.1 = _; rw [getD_A]
theorem gT_r {A B : List gC} (i j : Nat) : (gT A B).1 (A.length + i) j = (B.getD i (99, 0, [])).2.2.getD j 0 := by show ((A ++ B).getD _ _).2.2.getD j 0 = _; rw [getD_A]
theorem gT_m {A B C : List gC} : gT A (B ++ C) = gT (A ++ B) C := by
  unfold gT
  rw [List.append_assoc, List.length_append, List.length_append, Nat.add_assoc]
theorem getD_sn {T : List gC} {x d : gC} {a : Nat} : (T ++ [x]).getD a d = if a = T.length then x else T.getD a d := by
  rw [List.getD_eq_getElem?_getD, List.getD_eq_getElem?_getD]
  by_cases c : a = T.length
  · rw [if_pos c, c]; simp
  · rw [if_neg c]
    by_cases c2 : a < T.length
    · rw [List.getElem?_append_left c2]
    · rw [List.getElem?_eq_none (by simp; omega), List.getElem?_eq_none (by omega)]
theorem gT_new {A B : List gC} {K len z : Nat} : xng (gT A B) K len = gT A (B ++ [(K, len, List.replicate z 0)]) := by
  have e : ∀ a, (A ++ (B ++ [(K, len, List.replicate z 0)])).getD a (99, 0, []) = if a = A.length + B.length then (K, len, List.replicate z 0) else (A ++ B).getD a (99, 0, []) := fun a => by
    rw [← List.append_assoc, getD_sn, List.length_append]
  unfold gT xng
  simp only [e, List.length_append]
  refine Prod.ext ?_ (Prod.ext ?_ (Prod.ext ?_ ?_))
  · funext a b
    by_cases c : a = A.length + B.length
    · simp only [c, if_true, List.getD_eq_getElem?_getD, List.getElem?_replicate]; split <;> rfl
    · simp [c]
  · funext a; by_cases c : a = A.length + B.length <;> simp [c]
  · funext a; by_cases c : a = A.length + B.length <;> simp [c]
  · simp; omega
theorem bset_len : ∀ (B : List gC) (i j z : Nat), (bset B i j z).length = B.length
  | [], _, _, _ => rfl
  | (K, l, R) :: t, 0, j, z => rfl
  | h :: t, i + 1, j, z => by show (bset t i j z).length + 1 = t.length + 1; rw [bset_len]
theorem bset_get : ∀ (B : List gC) (i j z a : Nat) (d : gC), (bset B i j z).getD a d = if a = i ∧ i < B.length then ((B.getD i d).1, (B.getD i d).2.1, (B.getD i d).2.2.set j z) else B.getD a d
  | [], i, j, z, a, d => by simp [bset]
  | (K, l, R) :: t, 0, j, z, a, d => by
    cases a with
    | zero => simp [bset]
    | succ a => simp [bset]
  | h :: t, i + 1, j, z, a, d => by
    cases a with
    | zero => simp [bset]
    | succ a =>
      have := bset_get t i j z a d
      simp only [bset, List.getD_cons_succ, List.length_cons] at this ⊢
      rw [this]
      by_cases c : a = i ∧ i < t.length
      · rw [if_pos c, if_pos ⟨by omega, by omega⟩]
      · rw [if_neg c, if_neg (by omega)]
theorem gT_set {A B : List gC} {i j r : Nat} (hi : i < B.length) (hj : j < (B.getD i (99, 0, [])).2.2.length) : xur (gT A B) (A.length + i) j r = gT A (bset B i j r) := by
  have e : ∀ a, (A ++ bset B i j r).getD a (99, 0, []) = if a = A.length + i then ((B.getD i (99, 0, [])).1, (B.getD i (99, 0, [])).2.1, (B.getD i (99, 0, [])).2.2.set j r) else (A ++ B).getD a (99, 0, []) := fun a => by
    by_cases c : a < A.length
    · rw [if_neg (by omega), List.getD_eq_getElem?_getD, List.getD_eq_getElem?_getD, List.getElem?_append_left c, List.getElem?_append_left c]
    · obtain ⟨b, rfl⟩ : ∃ b, a = A.length + b := ⟨a - A.length, by omega⟩
      rw [getD_A, getD_A, bset_get]
      by_cases c2 : b = i
      · rw [if_pos ⟨c2, hi⟩, if_pos (by omega)]
      · rw [if_neg (by omega), if_neg (by omega)]
  unfold gT xur
  simp only [e, bset_len]
  refine Prod.ext ?_ (Prod.ext ?_ (Prod.ext ?_ rfl))
  · funext a b
    by_cases c : a = A.length + i
    · subst c
      simp only [if_true, getD_A]
      rw [show ((B.getD i (99, 0, [])).2.2.set j r).getD b 0 = ((B.getD i (99, 0, [])).2.2.set j r)[b]?.getD 0 from List.getD_eq_getElem?_getD .., List.getElem?_set]
      by_cases c2 : b = j
      · subst c2; rw [if_pos rfl, if_pos rfl, if_pos hj]; rfl
      · rw [if_neg c2, if_neg (fun z => c2 z.symm), List.getD_eq_getElem?_getD]
    · simp [c]
  · funext a
    by_cases c : a = A.length + i
    · subst c; simp only [if_true, getD_A]
    · simp [c]
  · funext a
    by_cases c : a = A.length + i
    · subst c; simp only [if_true, getD_A]
    · simp [c]
section ROWS
variable {E : xE} {nm own : String} {ret : Option FieldType} {hh : List (Nat × Nat × Nat × Nat)} {d mc ms : Nat} {P : xPo} {PX : xPx} {cc : ByteArray} {mL k n pc : Nat} {lv : List (Nat × Value)} {st : List Value} {A B : List gC} {m : xM}
theorem xb_new {idx K : Nat} (hK : K < 7) (hcl : Cond.classLink own idx (xRn K) ∈ xTb) (hin : Cond.instantiable (xRn K) (xN K) ∈ xTb) (hini : Cond.initialized (xRn K) ∈ xTb) (hd : decode cc pc = .ok (.new idx, 3))
    (h : xX E ((nm, ret, hh), (d, mc, ms), P, PX) own cc mL (k + 1) (n + xN K) (pc + 3) lv (vr E (A.length + B.length) :: st) (gT A (B ++ [(K, 0, List.replicate (xN K) 0)])) (xz0 m (A.length + B.length))) (hc : k + 1 ≤ mc := by decide) (hs : n + xN K ≤ ms := by decide) : xX E ((nm, ret, hh), (d, mc, ms), P, PX) own cc mL k n pc lv st (gT A B) m :=
  x_new hK hcl hin hini hd (by rw [gT_new (z := xN K)]; exact h) hc hs
theorem xb_I {len : Nat} {z : Int} (hz : z = (len : Int)) (hb2 : len ≤ 100000000) (hd : decode cc pc = .ok (.newarray .int, 2))
    (h : xX E ((nm, ret, hh), (d, mc, ms), P, PX) own cc mL (k + 1) (n + len) (pc + 2) lv (vr E (A.length + B.length) :: st) (gT A (B ++ [(8, len, [])])) (xz0 m (A.length + B.length))) (hc : k + 1 ≤ mc := by decide) (hs : n + len ≤ ms := by decide) : xX E ((nm, ret, hh), (d, mc, ms), P, PX) own cc mL k n pc lv (vi z :: st) (gT A B) m :=
  x_newI qa_int hz hb2 hd (by rw [gT_new (z := 0)]; exact h) hc hs
theorem xb_J {len : Nat} {z : Int} (hz : z = (len : Int)) (hb2 : len ≤ 10000000) (hd : decode cc pc = .ok (.newarray .long, 2))
    (h : xX E ((nm, ret, hh), (d, mc, ms), P, PX) own cc mL (k + 1) (n + len) (pc + 2) lv (vr E (A.length + B.length) :: st) (gT A (B ++ [(9, len, [])])) (xz0 m (A.length + B.length))) (hc : k + 1 ≤ mc := by decide) (hs : n + len ≤ ms := by decide) : xX E ((nm, ret, hh), (d, mc, ms), P, PX) own cc mL k n pc lv (vi z :: st) (gT A B) m :=
  x_newJ qa_long hz hb2 hd (by rw [gT_new (z := 0)]; exact h) hc hs
theorem xb_B {len : Nat} {z : Int} (hz : z = (len : Int)) (hb2 : len ≤ 10000000) (hd : decode cc pc = .ok (.newarray .byte, 2))
    (h : xX E ((nm, ret, hh), (d, mc, ms), P, PX) own cc mL (k + 1) (n + len) (pc + 2) lv (vr E (A.length + B.length) :: st) (gT A (B ++ [(7, len, [])])) (xz0 m (A.length + B.length))) (hc : k + 1 ≤ mc := by decide) (hs : n + len ≤ ms := by decide) : xX E ((nm, ret, hh), (d, mc, ms), P, PX) own cc mL k n pc lv (vi z :: st) (gT A B) m :=
  x_newB qa_byte hz hb2 hd (by rw [gT_new (z := 0)]; exact h) hc hs
theorem xb_Z {len : Nat} {z : Int} (hz : z = (len : Int)) (hb2 : len ≤ 10000000) (hd : decode cc pc = .ok (.newarray .boolean, 2))
    (h : xX E ((nm, ret, hh), (d, mc, ms), P, PX) own cc mL (k + 1) (n + len) (pc + 2) lv (vr E (A.length + B.length) :: st) (gT A (B ++ [(10, len, [])])) (xz0 m (A.length + B.length))) (hc : k + 1 ≤ mc := by decide) (hs : n + len ≤ ms := by decide) : xX E ((nm, ret, hh), (d, mc, ms), P, PX) own cc mL k n pc lv (vi z :: st) (gT A B) m :=
  x_newZ qa_boolean hz hb2 hd (by rw [gT_new (z := 0)]; exact h) hc hs
theorem xb_R {idx len : Nat} {z : Int} (hcl : Cond.classLink own idx RX0 ∈ xTb) (hz : z = (len : Int)) (hb2 : len ≤ 10000000) (hd : decode cc pc = .ok (.anewarray idx, 3))
    (h : xX E ((nm, ret, hh), (d, mc, ms), P, PX) own cc mL (k + 1) (n + len) (pc + 3) lv (vr E (A.length + B.length) :: st) (gT A (B ++ [(11, len, List.replicate len 0)])) (xz0 m (A.length + B.length))) (hc : k + 1 ≤ mc := by decide) (hs : n + len ≤ ms := by decide) : xX E ((nm, ret, hh), (d, mc, ms), P, PX) own cc mL k n pc lv (vi z :: st) (gT A B) m :=
  x_newR hcl hz hb2 hd (by rw [gT_new (z := len)]; exact h) hc hs
theorem xb_put {idx K j r : Nat} (i : Nat) (hA : 40 ≤ A.length) (hf : xFL own idx K j 1) (hd : decode cc pc = .ok (.putfield idx, 3)) (hk : (B.getD i (99, 0, [])).1 = K) (hi : i < B.length) (hj : j < (B.getD i (99, 0, [])).2.2.length) (hfin : xfin K j nm own = true)
    (h : xX E ((nm, ret, hh), (d, mc, ms), P, PX) own cc mL k n (pc + 3) lv st (gT A (bset B i j r)) m) : xX E ((nm, ret, hh), (d, mc, ms), P, PX) own cc mL k n pc lv (vr E r :: vr E (A.length + i) :: st) (gT A B) m :=
  x_putR hf hd ((gT_k i).trans hk) (by unfold nS; omega) hfin (by rw [gT_set hi hj]; exact h)
theorem xb_putI {idx K j : Nat} {z : Int} (i : Nat) (hA : 40 ≤ A.length) (hf : xFL own idx K j 0) (hd : decode cc pc = .ok (.putfield idx, 3)) (hk : (B.getD i (99, 0, [])).1 = K) (hfin : xfin K j nm own = true) (hty : xty K j = .int)
    (h : xX E ((nm, ret, hh), (d, mc, ms), P, PX) own cc mL k n (pc + 3) lv st (gT A B) (xu m (A.length + i) j z)) : xX E ((nm, ret, hh), (d, mc, ms), P, PX) own cc mL k n pc lv (vi z :: vr E (A.length + i) :: st) (gT A B) m :=
  x_putI hf hd ((gT_k i).trans hk) (by unfold nS; omega) hfin hty h
theorem xb_get {idx K j : Nat} (i r : Nat) (hf : xFL own idx K j 1) (hd : decode cc pc = .ok (.getfield idx, 3)) (hk : (B.getD i (99, 0, [])).1 = K) (hr : (B.getD i (99, 0, [])).2.2.getD j 0 = r)
    (h : xX E ((nm, ret, hh), (d, mc, ms), P, PX) own cc mL k n (pc + 3) lv (vr E r :: st) (gT A B) m) : xX E ((nm, ret, hh), (d, mc, ms), P, PX) own cc mL k n pc lv (vr E (A.length + i) :: st) (gT A B) m :=
  x_getR (r := r) hf hd ((gT_k i).trans hk) ((gT_r i j).trans hr) h
theorem xb_o {idx c : Nat} (hA : 40 ≤ A.length) (hc : A.length ≤ c) (hlk : Cond.methodLink own idx objectInit ∈ xTb) (hd : decode cc pc = .ok (.invokespecial idx, 3)) (hcat : (st.map fun v => v.category).sum ≤ 8) (hdp : 1 ≤ d)
    (h : xX E ((nm, ret, hh), (d, mc, ms), P, PX) own cc mL k n (pc + 3) lv st (gT A B) m) : xX E ((nm, ret, hh), (d, mc, ms), P, PX) own cc mL k n pc lv (vr E c :: st) (gT A B) m :=
  x_obj hlk qo_inst qo_code hd (by omega) hcat hdp h
end ROWS
set_option maxRecDepth 20000 in
theorem s_newX0 {E : xE} {A : List gC} {m : xM} {P : xPo} {PX : xPx} (hA : 40 ≤ A.length) (hP : P none (gT A [(0, 0, [0, 0, 0, 0, 0, 0, (A.length + 1), (A.length + 2), (A.length + 3), 2, 0, 0]), (8, 18, []), (8, 36, []), (8, 48, [])]) (xz0 (xz0 (xz0 (xu m A.length 1 15) (A.length + 1)) (A.length + 2)) (A.length + 3))) : xC E (yX0_init, cX0_init, 1, none) 1 3 102 [vr E A.length] (gT A [(0, 0, List.replicate (xN 0) 0)]) m P PX := by
  refine x_enter (by decide) rfl rfl (by simp only [lg_sl, List.flatMap_cons, List.flatMap_nil, vr_cat]; exact Nat.le_of_ble_eq_true rfl) ?_
  have hle : lv_args 0 [vr E A.length] = [(0, vr E A.length)] := by simp only [lv_args, vr_cat]; try rfl
  rw [hle]
  refine x_aload_n dX0_init_0 rfl ?_
  refine xb_o hA (Nat.le_refl _) qoX0 dX0_init_1 (by decide) (by decide) ?_
  refine x_aload_n dX0_init_4 rfl ?_
  refine x_bipush dX0_init_5 (h := ?_)
  refine xb_putI 0 hA fX0_9 dX0_init_7 rfl rfl rfl ?_
  refine x_aload_n dX0_init_10 rfl ?_
  refine x_bipush dX0_init_11 (h := ?_)
  refine xb_I (len := 18) (by decide) (by decide) dX0_init_13 ?_
  refine xb_put 0 hA fX0_15 dX0_init_15 rfl (Nat.le_of_ble_eq_true rfl) (Nat.le_of_ble_eq_true rfl) rfl ?_
  refine x_aload_n dX0_init_18 rfl ?_
  refine x_bipush dX0_init_19 (h := ?_)
  refine xb_I (len := 36) (by decide) (by decide) dX0_init_21 ?_
  refine xb_put 0 hA fX0_19 dX0_init_23 rfl (Nat.le_of_ble_eq_true rfl) (Nat.le_of_ble_eq_true rfl) rfl ?_
  refine x_aload_n dX0_init_26 rfl ?_
  refine x_bipush dX0_init_27 (h := ?_)
  refine xb_I (len := 48) (by decide) (by decide) dX0_init_29 ?_
  refine xb_put 0 hA fX0_22 dX0_init_31 rfl (Nat.le_of_ble_eq_true rfl) (Nat.le_of_ble_eq_true rfl) rfl ?_
  refine x_aload_n dX0_init_34 rfl ?_
  refine x_gets (c := 1) (C := RX0) (f := "NO_FORMULA") (by simp [xstf]) sl_25 dX0_init_35 ?_
  refine xb_put 0 hA fX0_28 dX0_init_38 rfl (Nat.le_of_ble_eq_true rfl) (Nat.le_of_ble_eq_true rfl) rfl ?_
  exact x_vret dX0_init_41 hP
set_option maxRecDepth 20000 in
theorem s_newX4 {E : xE} {A : List gC} {m : xM} {P : xPo} {PX : xPx} {c : Nat} (hA : 40 ≤ A.length) (hP : P none (gT A [(4, 0, [c, (A.length + 1), 0]), (8, 15000, [])]) (xz0 (m) (A.length + 1))) : xC E (yX4_init, cX4_init, 2, none) 1 1 15000 [vr E A.length, vr E c] (gT A [(4, 0, List.replicate (xN 4) 0)]) m P PX := by
  refine x_enter (by decide) rfl rfl (by simp only [lg_sl, List.flatMap_cons, List.flatMap_nil, vr_cat]; exact Nat.le_of_ble_eq_true rfl) ?_
  have hle : lv_args 0 [vr E A.length, vr E c] = [(0, vr E A.length), (1, vr E c)] := by simp only [lv_args, vr_cat]; try rfl
  rw [hle]
  refine x_aload_n dX4_init_0 rfl ?_
  refine xb_o hA (Nat.le_refl _) qoX4 dX4_init_1 (by decide) (by decide) ?_
  refine x_aload_n dX4_init_4 rfl ?_
  refine x_sipush dX4_init_5 (h := ?_)
  refine xb_I (len := 15000) (by decide) (by decide) dX4_init_8 ?_
  refine xb_put 0 hA fX4_11 dX4_init_10 rfl (Nat.le_of_ble_eq_true rfl) (Nat.le_of_ble_eq_true rfl) rfl ?_
  refine x_aload_n dX4_init_13 rfl ?_
  refine x_aload_n dX4_init_14 rfl ?_
  refine xb_put 0 hA fX4_15 dX4_init_15 rfl (Nat.le_of_ble_eq_true rfl) (Nat.le_of_ble_eq_true rfl) rfl ?_
  exact x_vret dX4_init_18 hP
set_option maxRecDepth 20000 in
theorem s_newX2 {E : xE} {A : List gC} {m : xM} {P : xPo} {PX : xPx} {c t : Nat} (hA : 40 ≤ A.length) (hP : P none (gT A [(2, 0, [c, t, (A.length + 1), (A.length + 2), (A.length + 3), (A.length + 4), (A.length + 5), (A.length + 6), 0, (A.length + 7)]), (9, 16, []), (8, 2670, []), (8, 2670, []), (8, 2640, []), (7, 1001, []), (7, 1001, []), (8, 6, [])]) (xz0 (xz0 (xz0 (xz0 (xz0 (xz0 (xz0 (m) (A.length + 1)) (A.length + 2)) (A.length + 3)) (A.length + 4)) (A.length + 5)) (A.length + 6)) (A.length + 7))) : xC E (yX2_init, cX2_init, 3, none) 1 7 10004 [vr E A.length, vr E c, vr E t] (gT A [(2, 0, List.replicate (xN 2) 0)]) m P PX := by
  refine x_enter (by decide) rfl rfl (by simp only [lg_sl, List.flatMap_cons, List.flatMap_nil, vr_cat]; exact Nat.le_of_ble_eq_true rfl) ?_
  have hle : lv_args 0 [vr E A.length, vr E c, vr E t] = [(0, vr E A.length), (1, vr E c), (2, vr E t)] := by simp only [lv_args, vr_cat]; try rfl
  rw [hle]
  refine x_aload_n dX2_init_0 rfl ?_
  refine xb_o hA (Nat.le_refl _) qoX2 dX2_init_1 (by decide) (by decide) ?_
  refine x_aload_n dX2_init_4 rfl ?_
  refine x_bipush dX2_init_5 (h := ?_)
  refine xb_J (len := 16) (by decide) (by decide) dX2_init_7 ?_
  refine xb_put 0 hA fX2_11 dX2_init_9 rfl (Nat.le_of_ble_eq_true rfl) (Nat.le_of_ble_eq_true rfl) rfl ?_
  refine x_aload_n dX2_init_12 rfl ?_
  refine x_sipush dX2_init_13 (h := ?_)
  refine xb_I (len := 2670) (by decide) (by decide) dX2_init_16 ?_
  refine xb_put 0 hA fX2_15 dX2_init_18 rfl (Nat.le_of_ble_eq_true rfl) (Nat.le_of_ble_eq_true rfl) rfl ?_
  refine x_aload_n dX2_init_21 rfl ?_
  refine x_sipush dX2_init_22 (h := ?_)
  refine xb_I (len := 2670) (by decide) (by decide) dX2_init_25 ?_
  refine xb_put 0 hA fX2_19 dX2_init_27 rfl (Nat.le_of_ble_eq_true rfl) (Nat.le_of_ble_eq_true rfl) rfl ?_
  refine x_aload_n dX2_init_30 rfl ?_
  refine x_sipush dX2_init_31 (h := ?_)
  refine xb_I (len := 2640) (by decide) (by decide) dX2_init_34 ?_
  refine xb_put 0 hA fX2_22 dX2_init_36 rfl (Nat.le_of_ble_eq_true rfl) (Nat.le_of_ble_eq_true rfl) rfl ?_
  refine x_aload_n dX2_init_39 rfl ?_
  refine x_sipush dX2_init_40 (h := ?_)
  refine xb_B (len := 1001) (by decide) (by decide) dX2_init_43 ?_
  refine xb_put 0 hA fX2_25 dX2_init_45 rfl (Nat.le_of_ble_eq_true rfl) (Nat.le_of_ble_eq_true rfl) rfl ?_
  refine x_aload_n dX2_init_48 rfl ?_
  refine x_sipush dX2_init_49 (h := ?_)
  refine xb_B (len := 1001) (by decide) (by decide) dX2_init_52 ?_
  refine xb_put 0 hA fX2_29 dX2_init_54 rfl (Nat.le_of_ble_eq_true rfl) (Nat.le_of_ble_eq_true rfl) rfl ?_
  refine x_aload_n dX2_init_57 rfl ?_
  refine x_bipush dX2_init_58 (h := ?_)
  refine xb_I (len := 6) (by decide) (by decide) dX2_init_60 ?_
  refine xb_put 0 hA fX2_32 dX2_init_62 rfl (Nat.le_of_ble_eq_true rfl) (Nat.le_of_ble_eq_true rfl) rfl ?_
  refine x_aload_n dX2_init_65 rfl ?_
  refine x_aload_n dX2_init_66 rfl ?_
  refine xb_put 0 hA fX2_35 dX2_init_67 rfl (Nat.le_of_ble_eq_true rfl) (Nat.le_of_ble_eq_true rfl) rfl ?_
  refine x_aload_n dX2_init_70 rfl ?_
  refine x_aload_n dX2_init_71 rfl ?_
  refine xb_put 0 hA fX2_39 dX2_init_72 rfl (Nat.le_of_ble_eq_true rfl) (Nat.le_of_ble_eq_true rfl) rfl ?_
  exact x_vret dX2_init_75 hP
end KO
