section XL
variable {E : xE} {J : xJ} {own : String} {cc : ByteArray} {mL k n pc : Nat} {lv : List (Nat × Value)} {st : List Value} {g : xG} {m : xM}
variable {nm : String} {ret : Option FieldType} {hh : List (Nat × Nat × Nat × Nat)} {d mc ms : Nat} {P : xPo} {PX : xPx}
theorem x_ldc {idx : Nat} {z : Int} (hk : Cond.constant own idx (Int32.ofInt z) ∈ xTb) (hd : decode cc pc = .ok (.ldc idx, 2)) (h : xX E J own cc mL k n (pc + 2) lv (vi z :: st) g m) : xX E J own cc mL k n pc lv st g m := by
  intro p e s mi args below meth c H locs ls hC hW hL hl
  exact lv_ldc hC.1 hC.2.1 hC.2.2.2.2.1 (hC.2.2.2.2.2.1 _ hk) hd (h p e s mi args below meth c H locs ls hC hW hL hl)
theorem x_ldc_w {idx : Nat} {z : Int} (hk : Cond.constant own idx (Int32.ofInt z) ∈ xTb) (hd : decode cc pc = .ok (.ldc_w idx, 3)) (h : xX E J own cc mL k n (pc + 3) lv (vi z :: st) g m) : xX E J own cc mL k n pc lv st g m := by
  intro p e s mi args below meth c H locs ls hC hW hL hl
  exact lv_ldcw hC.1 hC.2.1 hC.2.2.2.2.1 (hC.2.2.2.2.2.1 _ hk) hd (h p e s mi args below meth c H locs ls hC hW hL hl)
theorem x_ldc2_w {idx : Nat} {z : Int} (hk : Cond.constantLong own idx (Int64.ofInt z) ∈ xTb) (hd : decode cc pc = .ok (.ldc2_w idx, 3)) (h : xX E J own cc mL k n (pc + 3) lv (vl z :: st) g m) : xX E J own cc mL k n pc lv st g m := by
  intro p e s mi args below meth c H locs ls hC hW hL hl
  exact lv_ldc2 hC.1 hC.2.1 hC.2.2.2.2.1 (hC.2.2.2.2.2.1 _ hk) hd (h p e s mi args below meth c H locs ls hC hW hL hl)
theorem x_ldcS {idx c : Nat} {tx : String} (hk : (own, idx, tx, c + 1) ∈ xstr) (hd : decode cc pc = .ok (.ldc idx, 2)) (h : xX E J own cc mL k n (pc + 2) lv (vr E (c + 1) :: st) g m) : xX E J own cc mL k n pc lv st g m := by
  intro p e s mi args below meth c0 H locs ls hC hW hL hl
  exact va_ldcS hC.1 hC.2.1 hC.2.2.2.2.1 (hC.2.2.2.2.2.2.2.2.2.1.2.2.2.1 _ hk) hd (h p e s mi args below meth c0 H locs ls hC hW hL hl)
theorem xS0 {E : xE} {g : xG} {m : xM} {s : State} {H : Heap} {locs : List Loc} (hs : ∀ q, q < xB E → s.heap[q]? = (xH0 E)[q]?) (hW : xWH E g m H) (hz : s.heap.size ≤ H.size) (hL : ∀ q ∈ locs, xF E q.base) : va_S (xF E) s.heap H locs :=
  ⟨hz, fun q _ h2 => by
    have hq : q < xB E := Nat.not_le.mp h2
    rw [hW.2.2.1 q hq, hs q hq], hL⟩
theorem xK0 {E : xE} {s : State} (hs : ∀ q, q < xB E → s.heap[q]? = (xH0 E)[q]?) : ∀ a : Nat, a < (xH0 E).size → ¬ xF E a → s.heap[a]? = (xH0 E)[a]? := fun a _ h2 => hs a (Nat.not_le.mp h2)
theorem x_gets {idx c : Nat} {C f : String} (hk : (C, f, c + 1) ∈ xstf) (hlk : Cond.fieldLink own idx C f "[I" ∈ xTb) (hd : decode cc pc = .ok (.getstatic idx, 3)) (h : xX E J own cc mL k n (pc + 3) lv (vr E (c + 1) :: st) g m) : xX E J own cc mL k n pc lv st g m := by
  intro p e s mi args below meth c0 H locs ls hC hW hL hl T hT X
  obtain ⟨hx, hb, -, -, hown, hts, -, -, -, hV, hs⟩ := id hC
  have hz : s.heap.size ≤ H.size := by rw [← hT]; exact (vx_frame X.same).1
  exact va_gets hx hb ((hV.2.2.2.2.2.2.2.1 _ hk).kept (xK0 hs)) (xS0 hs hW hz hL) hown (hts _ hlk) (fun _ h9 => h9) hd (h p e s mi args below meth c0 H locs ls hC hW hL hl) T hT X
theorem x_getsZ {idx : Nat} (hlk : Cond.fieldLink own idx "java/lang/String" "COMPACT_STRINGS" "Z" ∈ xTb) (hd : decode cc pc = .ok (.getstatic idx, 3)) (h : xX E J own cc mL k n (pc + 3) lv (vi 1 :: st) g m) : xX E J own cc mL k n pc lv st g m := by
  intro p e s mi args below meth c0 H locs ls hC hW hL hl T hT X
  obtain ⟨hx, hb, -, -, hown, hts, -, -, -, hV, hs⟩ := id hC
  have hz : s.heap.size ≤ H.size := by rw [← hT]; exact (vx_frame X.same).1
  exact va_gets hx hb (hV.2.2.2.2.2.2.2.2.2.1.kept (xK0 hs)) (xS0 hs hW hz hL) hown (hts _ hlk) (fun _ h9 => h9) hd (h p e s mi args below meth c0 H locs ls hC hW hL hl) T hT X
/-- the world with later cells of which nothing is known -/
theorem xWH.grow {E : xE} {g : xG} {m : xM} {H H1 : Heap} (hE : xEok E) (hW : xWH E g m H) (hz : H.size ≤ H1.size) (oq : ∀ q, q < H.size → H1[q]? = H[q]?) : xWH E (g.1, g.2.1, g.2.2.1, g.2.2.2 + (H1.size - H.size)) m H1 := by
  obtain ⟨w1, w2, w3, w4⟩ := hW
  refine ⟨by show nS ≤ g.2.2.2 + _; omega, by show H1.size + nS = xB E + (g.2.2.2 + _); omega, fun q hq => ?_, fun c e he => ?_⟩
  · have : xB E ≤ H.size := by omega
    rw [oq q (by omega)]
    exact w3 q hq
  · obtain ⟨a1, a2, a3⟩ := w4 c e he
    exact ⟨a1, by show c < g.2.2.2 + _; omega, a3.kept (oq _ a3.lt)⟩
/-- new E("text") thrown: nothing behind it but a cell of which nothing is known -/
theorem x_throw {cls text : String} {names : List String} {ik is ic c : Nat} (hcls : Bundle.fit cls = true) (hnames : ∀ n ∈ names, Bundle.fit n = true)
    (hk : Cond.classLink own ik cls ∈ xTb) (hini : Cond.initialized cls ∈ xTb) (hstr : (own, is, text, c) ∈ xstr) (hat : ∀ w ∈ vx_atS own ic cls names, w ∈ xTb)
    (hgood : ∀ w ∈ Cond.classLink own ik cls :: Cond.initialized cls :: vx_atS own ic cls names, vx_ot w = true)
    (d0 : decode cc pc = .ok (.new ik, 3)) (d3 : decode cc (pc + 3) = .ok (.dup, 1)) (d4 : decode cc (pc + 4) = .ok (.ldc is, 2)) (d6 : decode cc (pc + 6) = .ok (.invokespecial ic, 3)) (d9 : decode cc (pc + 9) = .ok (.athrow, 1))
    (hRf : names.length + 3 < d) (hRl : (st.map fun v => v.category).sum ≤ 8) (hc : k + 1 ≤ mc) (hs : n + 6 ≤ ms)
    (hP : ∀ j, PX cls (g.1, g.2.1, g.2.2.1, g.2.2.2 + j) m) : xX E ((nm, ret, []), (d, mc, ms), P, PX) own cc mL k n pc lv st g m := by
  intro p e s mi args below meth c0 H locs ls hC hW hL hl T hT X
  obtain ⟨hx, hb, -, hml, hown, hts, hlk, htb, -, hV, h0⟩ := id hC
  have hz : s.heap.size ≤ H.size := by rw [← hT]; exact (vx_frame X.same).1
  refine vx_throwS (A := xF E) (sa := xad E c) hx hb hV.2.2.1 hown hcls hnames (hts _ hk) (hts _ hini) (hV.2.2.2.1 _ hstr) (fun w hw => hts _ (hat w hw)) hgood (hV.2.2.2.2.1.kept (xK0 h0)) (hV.2.2.2.2.2.1.kept (xK0 h0)) (xS0 h0 hW hz hL) (hl.1.trans hml.symm) d0 d3 d4 d6 d9 (by rw [htb]; intro x hx9; cases hx9) hRf ?_ hc hs hlk (fun t _ h1 h2 => ⟨_, m, hP (t.heap.size - H.size), hW.grow hV.2.1 h1 h2⟩) hL hc hs T hT X
  show _ ≤ 64 * d
  omega
end XL
