section XLW
variable {E : xE} {J : xJ} {own : String} {cc : ByteArray} {mL k n pc : Nat} {lv : List (Nat × Value)} {st : List Value} {g : xG} {m : xM}
variable {nm : String} {ret : Option FieldType} {hh : List (Nat × Nat × Nat × Nat)} {d mc ms : Nat} {P : xPo} {PX : xPx}
theorem x_throwW {cls text : String} {names : List String} {ik is ic c : Nat} (hcls : Bundle.fit cls = true) (hnames : ∀ n ∈ names, Bundle.fit n = true)
    (hk : Cond.classLink own ik cls ∈ xTb) (hini : Cond.initialized cls ∈ xTb) (hstr : (own, is, text, c) ∈ xstr) (hat : ∀ w ∈ vx_atS own ic cls names, w ∈ xTb)
    (hgood : ∀ w ∈ Cond.classLink own ik cls :: Cond.initialized cls :: vx_atS own ic cls names, vx_ot w = true)
    (d0 : decode cc pc = .ok (.new ik, 3)) (d3 : decode cc (pc + 3) = .ok (.dup, 1)) (d4 : decode cc (pc + 4) = .ok (.ldc_w is, 3)) (d7 : decode cc (pc + 7) = .ok (.invokespecial ic, 3)) (d10 : decode cc (pc + 10) = .ok (.athrow, 1))
    (hRf : names.length + 3 < d) (hRl : (st.map fun v => v.category).sum ≤ 8) (hc : k + 1 ≤ mc) (hs : n + 6 ≤ ms)
    (hP : ∀ j, PX cls (g.1, g.2.1, g.2.2.1, g.2.2.2 + j) m) : xX E ((nm, ret, []), (d, mc, ms), P, PX) own cc mL k n pc lv st g m := by
  intro p e s mi args below meth c0 H locs ls hC hW hL hl T hT X
  obtain ⟨hx, hb, -, hml, hown, hts, hlk, htb, -, hV, h0⟩ := id hC
  have hz : s.heap.size ≤ H.size := by rw [← hT]; exact (vx_frame X.same).1
  refine vx_throwSW (A := xF E) (sa := xad E c) hx hb hV.2.2.1 hown hcls hnames (hts _ hk) (hts _ hini) (hV.2.2.2.1 _ hstr) (fun w hw => hts _ (hat w hw)) hgood (hV.2.2.2.2.1.kept (xK0 h0)) (hV.2.2.2.2.2.1.kept (xK0 h0)) (xS0 h0 hW hz hL) (hl.1.trans hml.symm) d0 d3 d4 d7 d10 (by rw [htb]; intro x hx9; cases hx9) hRf ?_ hc hs hlk (fun t _ h1 h2 => ⟨_, m, hP (t.heap.size - H.size), hW.grow hV.2.1 h1 h2⟩) hL hc hs T hT X
  show _ ≤ 64 * d
  omega
end XLW
