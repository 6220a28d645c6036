section XCP
variable {E : xE} {J : xJ} {own : String} {cc : ByteArray} {mL k n pc : Nat} {lv : List (Nat × Value)} {st : List Value} {g : xG} {m : xM}
theorem q_acS : Cond.static arraycopyName ∈ xTb := xTb_of 381 (by decide +kernel) (by decide +kernel)
theorem q_acN : Cond.native arraycopyName ∈ xTb := xTb_of 382 (by decide +kernel) (by decide +kernel)
theorem q_acI : Cond.initialized "java/lang/System" ∈ xTb := xTb_of 115 (by decide +kernel) (by decide +kernel)
theorem mX0_50 : Cond.methodLink RX0 50 arraycopyName ∈ xTb := xTb_of 380 (by decide +kernel) (by decide +kernel)
theorem mJ7_150 : Cond.methodLink RJ7 150 arraycopyName ∈ xTb := xTb_of 753 (by decide +kernel) (by decide +kernel)
theorem mX2_156 : Cond.methodLink RX2 156 arraycopyName ∈ xTb := xTb_of 1072 (by decide +kernel) (by decide +kernel)
/-- N numbers of cell a from i on, laid into cell b from j on -/
def xcpy (m : xM) (a b i j N : Nat) : xM := fun c q => if c = b then (if j ≤ q ∧ q < j + N then m a (i + (q - j)) else m b q) else m c q
theorem xcpy_ne {m : xM} {a b i j N c : Nat} (h : c ≠ b) : xcpy m a b i j N c = m c := by funext q; show (if c = b then _ else _) = _; rw [if_neg h]
theorem xcpy_in {m : xM} {a b i j N q : Nat} (h : j ≤ q ∧ q < j + N) : xcpy m a b i j N b q = m a (i + (q - j)) := by show (if b = b then _ else _) = _; rw [if_pos rfl, if_pos h]
theorem xcpy_00 {m : xM} {a b N q : Nat} (h : q < N) : xcpy m a b 0 0 N b q = m a q := by rw [xcpy_in (by omega)]; congr 1; omega
theorem nat_nn {q : Nat} (h : q < 2147483648) : ¬ Int32.ofInt (q : Int) < 0 := by
  intro z
  have := Int32.lt_iff_toInt_lt.mp z
  rw [ri_to (by omega)] at this
  have h0 : (0 : Int32).toInt = 0 := by decide
  omega
theorem x_copyG {idx a b i j N K t0 : Nat} {ty : FieldType} (hlink : Cond.methodLink own idx arraycopyName ∈ xTb) (hd : decode cc pc = .ok (.invokestatic idx, 3)) (hty : (xtys E)[t0]? = some (E.2.2.1 K, ty)) (hprim : refKind ty = false)
    (hxc : ∀ (len : Nat) (f : Nat → Int) (r : Nat → Nat), xc E K len f r = some (.inl (E.2.2.1 K, len, .inl (fun q => Int32.ofInt (f q)))))
    (hka : g.2.1 a = K) (hkb : g.2.1 b = K) (hb : nS ≤ b) (hia : i + N ≤ g.2.2.1 a) (hjb : j + N ≤ g.2.2.1 b) (hs1 : i + N < 2147483648) (hs2 : j + N < 2147483648)
    (hfit : ∀ q, q < N → fits ty (vi (m a (i + q))) = true) (hfr : 1 ≤ J.2.1.1) (hcat : (st.map fun v => v.category).sum ≤ 8)
    (h : xX E J own cc mL k n (pc + 3) lv st g (xcpy m a b i j N)) : xX E J own cc mL k n pc lv (vi (N : Int) :: vi (j : Int) :: vr E b :: vi (i : Int) :: vr E a :: st) g m := by
  intro p e s mi args below meth c0 H locs ls hC hW hL hl
  obtain ⟨hexec, hcode, -, hml, hown, hts, -, -, -, hV, -⟩ := id hC
  obtain ⟨p0, p1, p2⟩ := xarr hW (c := a) (by rw [hka]; exact hxc _ _ _)
  obtain ⟨r0, r1, r2⟩ := xarr hW (c := b) (by rw [hkb]; exact hxc _ _ _)
  rw [vr_pos p0, vr_pos r0]
  have ci : (Int32.ofInt (i : Int)).toNatClampNeg = i := ix_cl rfl (by omega)
  have cj : (Int32.ofInt (j : Int)).toNatClampNeg = j := ix_cl rfl (by omega)
  have cN : (Int32.ofInt (N : Int)).toNatClampNeg = N := ix_cl rfl (by omega)
  obtain ⟨-, k0, hk0, cm0, hkk0⟩ := (hV.1.2 t0 _ hty).1 (g.2.2.1 a) (fun q => vi (m a q))
  obtain ⟨-, k1, hk1, cm1, hkk1⟩ := (hV.1.2 t0 _ hty).1 (g.2.2.1 b) (fun q => vi (m b q))
  intro T hT X
  obtain ⟨vm', X', step⟩ := X.arraycopy hexec hown (hts _ hlink) (hts _ q_acN) (hts _ q_acS) (hts _ q_acI) (src := xad E a) (dst := xad E b) (cs := vp_cell (E.2.2.1 K) (g.2.2.1 a, .inl (fun q => Int32.ofInt (m a q)))) (cd := vp_cell (E.2.2.1 K) (g.2.2.1 b, .inl (fun q => Int32.ofInt (m b q)))) (srcPos := Int32.ofInt (i : Int)) (destPos := Int32.ofInt (j : Int)) (n := Int32.ofInt (N : Int)) (by rw [hT]; exact p2) (by rw [hT]; exact r2)
    (fun _ q => by cases q) (fun _ q => by cases q) (fun q => by cases q) (fun q => by cases q) hk0 hk1 hkk0 hkk1 (by simp [hprim]) (nat_nn (by omega)) (nat_nn (by omega)) (nat_nn (by omega))
    (by rw [ri_to (by omega), ri_to (by omega)]; show ¬ _ > ((arrV _ (g.2.2.1 a) (fun q => vi (m a q))).slots.size : Int); rw [arrV_size]; omega)
    (by rw [ri_to (by omega), ri_to (by omega)]; show ¬ _ > ((arrV _ (g.2.2.1 b) (fun q => vi (m b q))).slots.size : Int); rw [arrV_size]; omega)
    (fun vm₁ _ q hq => by
      rw [cN] at hq
      have ee : (arrV (E.2.2.1 K) (g.2.2.1 a) (fun q => vi (m a q))).slots.getD (i + q) .null = vi (m a (i + q)) := by
        rw [Array.getD_eq_getD_getElem?, arrV_read _ _ (by omega)]
        rfl
      rw [ci]
      refine ⟨?_, ?_⟩
      · show fits ty ((arrV (E.2.2.1 K) (g.2.2.1 a) (fun q => vi (m a q))).slots.getD (i + q) .null) = true
        rw [ee]
        exact hfit q hq
      · show (match (arrV (E.2.2.1 K) (g.2.2.1 a) (fun q => vi (m a q))).slots.getD (i + q) .null with | .ref _ => _ | _ => _)
        rw [ee]
        exact trivial)
    (g := F0 mi pc ls (vi (N : Int) :: vi (j : Int) :: .ref (xad E b) :: vi (i : Int) :: .ref (xad E a) :: st)) rfl (by rw [hl.1]; exact hml.symm) (rest := st) rfl (by rw [hcode]; exact hd) hfr (by
      show 2 * 0 + (st.map fun v => v.category).sum + (7 + 11) ≤ 64 * J.2.1.1
      omega)
  have e1 : copied (vp_cell (E.2.2.1 K) (g.2.2.1 a, .inl (fun q => Int32.ofInt (m a q)))) (vp_cell (E.2.2.1 K) (g.2.2.1 b, .inl (fun q => Int32.ofInt (m b q)))) (Int32.ofInt (i : Int)) (Int32.ofInt (j : Int)) (Int32.ofInt (N : Int)) = vp_cell (E.2.2.1 K) (g.2.2.1 b, .inl (fun q => Int32.ofInt (xcpy m a b i j N b q))) := by
    have e2 := va_copied (fun z => Value.int z) (E.2.2.1 K) (E.2.2.1 K) (n0 := g.2.2.1 a) (n1 := g.2.2.1 b) (sp := i) (dp := j) (n := N) (fun q => Int32.ofInt (m a q)) (fun q => Int32.ofInt (m b q)) hia
    have e3 : (fun q => Value.int (va_cpy (fun q => Int32.ofInt (m a q)) (fun q => Int32.ofInt (m b q)) i j N q)) = (fun q => Value.int (Int32.ofInt (xcpy m a b i j N b q))) := by
      funext q
      by_cases z : j ≤ q ∧ q < j + N
      · rw [xcpy_in z]; unfold va_cpy; rw [if_pos z]
      · have : xcpy m a b i j N b q = m b q := by show (if b = b then _ else _) = _; rw [if_pos rfl, if_neg z]
        rw [this]; unfold va_cpy; rw [if_neg z]
    rw [e3] at e2
    unfold copied
    rw [ci, cj, cN]
    exact e2
  rw [e1] at X' step
  have hlt : xad E b < H.size := (Array.getElem?_eq_some_iff.mp r2).1
  have hheap : ((T.setVm vm').setCell (xad E b) (vp_cell (E.2.2.1 K) (g.2.2.1 b, .inl (fun q => Int32.ofInt (xcpy m a b i j N b q))))).heap = H.setIfInBounds (xad E b) (vp_cell (E.2.2.1 K) (g.2.2.1 b, .inl (fun q => Int32.ofInt (xcpy m a b i j N b q)))) := by rw [← hT]; rfl
  have hW1 : xWH E g (xcpy m a b i j N) (H.setIfInBounds (xad E b) (vp_cell (E.2.2.1 K) (g.2.2.1 b, .inl (fun q => Int32.ofInt (xcpy m a b i j N b q))))) := by
    refine hW.put hV.2.1 hb (by simp) (fun q hq => by simp [Array.getElem?_setIfInBounds, Ne.symm hq]) rfl (fun _ _ => rfl) (fun c hc => xcpy_ne hc) (fun e9 h9 => ?_)
    rw [hkb, hxc] at h9
    obtain rfl := Option.some.inj h9
    exact ⟨r0, r1, by show (H.setIfInBounds (xad E b) _)[xad E b]? = some _; simp [Array.getElem?_setIfInBounds, hlt]⟩
  obtain ⟨t, a1, b1⟩ := h p e s mi args below meth c0 _ _ ls hC hW1 (fun q hq => by
    rcases List.mem_append.mp hq with z | z
    · exact hL q z
    · obtain ⟨y, -, hy⟩ := List.mem_map.mp z
      rw [← hy]
      have := hV.2.1.1 b hb
      show xB E ≤ xad E b
      omega) hl _ hheap X'
  exact ⟨t, step t a1, b1⟩
theorem x_copyI {idx a b i j N : Nat} (hlink : Cond.methodLink own idx arraycopyName ∈ xTb) (hd : decode cc pc = .ok (.invokestatic idx, 3)) (hka : g.2.1 a = 8) (hkb : g.2.1 b = 8) (hb : nS ≤ b) (hia : i + N ≤ g.2.2.1 a) (hjb : j + N ≤ g.2.2.1 b) (hs1 : i + N < 2147483648) (hs2 : j + N < 2147483648) (hfr : 1 ≤ J.2.1.1)
    (h : xX E J own cc mL k n (pc + 3) lv st g (xcpy m a b i j N)) (hcat : (st.map fun v => v.category).sum ≤ 8 := by first | exact Nat.le_of_ble_eq_true rfl | (simp only [List.map, vr_cat]; exact Nat.le_of_ble_eq_true rfl)) : xX E J own cc mL k n pc lv (vi (N : Int) :: vi (j : Int) :: vr E b :: vi (i : Int) :: vr E a :: st) g m :=
  x_copyG (K := 8) (t0 := 1) (ty := .int) hlink hd rfl rfl (fun _ _ _ => rfl) hka hkb hb hia hjb hs1 hs2 (fun _ _ => rfl) hfr hcat h
theorem fit_byte {x : Int} (hx : -128 ≤ x ∧ x ≤ 127) : fits .byte (vi x) = true := by
  have h1 : (Int32.ofInt x).toInt = x := ri_to (by omega)
  show (decide ((-128 : Int32) ≤ Int32.ofInt x) && decide (Int32.ofInt x ≤ (127 : Int32))) = true
  rw [Bool.and_eq_true, decide_eq_true_eq, decide_eq_true_eq]
  have h2 : (-128 : Int32).toInt = -128 := by decide
  have h3 : (127 : Int32).toInt = 127 := by decide
  exact ⟨Int32.le_iff_toInt_le.mpr (by omega), Int32.le_iff_toInt_le.mpr (by omega)⟩
theorem x_copyB {idx a b i j N : Nat} (hlink : Cond.methodLink own idx arraycopyName ∈ xTb) (hd : decode cc pc = .ok (.invokestatic idx, 3)) (hka : g.2.1 a = 7) (hkb : g.2.1 b = 7) (hb : nS ≤ b) (hia : i + N ≤ g.2.2.1 a) (hjb : j + N ≤ g.2.2.1 b) (hs1 : i + N < 2147483648) (hs2 : j + N < 2147483648) (hfit : ∀ q, q < N → -128 ≤ m a (i + q) ∧ m a (i + q) ≤ 127) (hfr : 1 ≤ J.2.1.1)
    (h : xX E J own cc mL k n (pc + 3) lv st g (xcpy m a b i j N)) (hcat : (st.map fun v => v.category).sum ≤ 8 := by first | exact Nat.le_of_ble_eq_true rfl | (simp only [List.map, vr_cat]; exact Nat.le_of_ble_eq_true rfl)) : xX E J own cc mL k n pc lv (vi (N : Int) :: vi (j : Int) :: vr E b :: vi (i : Int) :: vr E a :: st) g m :=
  x_copyG (K := 7) (t0 := 0) (ty := .byte) hlink hd rfl rfl (fun _ _ _ => rfl) hka hkb hb hia hjb hs1 hs2 (fun q hq => fit_byte (hfit q hq)) hfr hcat h
end XCP
