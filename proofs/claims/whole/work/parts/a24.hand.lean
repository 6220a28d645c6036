section HD
/-! methods that catch -/
def xwsH (Y : xY) (hh : List (Nat × Nat × Nat × Nat)) : List Cond := Cond.codeWith Y.1 Y.2.1 Y.2.2.1 Y.2.2.2 hh :: xTb
def xCH (E : xE) (Y : xY) (hh : List (Nat × Nat × Nat × Nat)) (d mc ms : Nat) (as : List Value) (g : xG) (m : xM) (P : xPo) : Prop :=
  Met E.1 Y.1 (xwsH Y hh) (xR d mc ms) (va_Pc as (xWd E g m)) (xQ E P) mc ms (xF E)
theorem x_enterH {E : xE} {y : MethodName} {cc : ByteArray} {mL : Nat} {ret : Option FieldType} {hh : List (Nat × Nat × Nat × Nat)} {d mc ms : Nat} {as : List Value} {g : xG} {m : xM} {P : xPo} {own nm : String}
    (hy : plainName y.cls = true) (ho : y.cls = own) (hn : y.name = nm) (hle : (lg_sl as).length ≤ mL)
    (h : xX E ((nm, ret, hh), (d, mc, ms), P, fun _ _ _ => False) own cc mL 0 0 0 (lv_args 0 as) [] g m) : xCH E (y, cc, mL, ret) hh d mc ms as g m P := by
  have hv : vx_Met E.1 y (xwsH (y, cc, mL, ret) hh) (xR d mc ms) (va_Pc as (xWd E g m)) (xQ E P) (xQX E (fun _ _ _ => False)) mc ms (xF E) := by
    refine vx_ofWH (cc := cc) (maxL := mL) (ret := ret) (hh := hh) hy rfl ?_
    intro p e s mi args below meth c s₁ B hml hv
    obtain ⟨rfl, hW, hV⟩ := hv
    have hl := lv_entry as (n := mL) hle
    rw [lg_entry_eq]
    have hown : s.vm.findClass own = some mi.cls := by rw [← ho]; exact findClass_of_methodNamed B.named
    have hts := atoms_spec (ws := xwsH (y, cc, mL, ret) hh) B.pre
    refine h p e s mi _ below meth c s.heap [] _ ⟨B.exec, B.bytes, B.returns, hml, hown, fun w hw => hts w (List.mem_cons_of_mem _ hw), B.notSynchronized, ?_, ?_, hV, hW.2.2.1⟩ hW (fun q hq => by cases hq) hl
    · exact vx_table (x := y) B (hts _ List.mem_cons_self)
    · rw [← hn]; exact (name_of_methodNamed B.named B.method).1
  intro p e a1 a2 a3 s mi args below a4 a5 a6 a7
  obtain ⟨n9, o, b1, b2, b3, b4⟩ := hv p e a1 a2 a3 s mi args below a4 a5 a6 a7
  refine ⟨n9, o, b1, b2, b3, ?_⟩
  rcases b4 with b4 | ⟨q, -, En, ce, L, ⟨g', m', hf, -⟩, -⟩
  · exact b4
  · exact hf.elim
/-- the row of a table that catches X thrown at pc -/
def xcat (own : String) (hh : List (Nat × Nat × Nat × Nat)) (pc : Nat) (X : String) (hpc : Nat) : Prop :=
  ∃ (pre : List ExceptionTableEntry) (x : ExceptionTableEntry) (suf : List ExceptionTableEntry), tableOf hh = pre ++ x :: suf ∧ (∀ z ∈ pre, covers z pc = false ∨ (z.catchType ≠ 0 ∧ ∃ nm : String, Cond.classLink own z.catchType nm ∈ xTb ∧ (X, nm) ∈ xncl)) ∧ covers x pc = true ∧ x.catchType ≠ 0 ∧ Cond.classLink own x.catchType X ∈ xTb ∧ X ∈ xexc ∧ x.handlerPc = hpc
section R
variable {E : xE} {own : String} {cc : ByteArray} {mL k n pc : Nat} {lv : List (Nat × Value)} {st : List Value} {g : xG} {m : xM}
variable {nm : String} {ret : Option FieldType} {hh : List (Nat × Nat × Nat × Nat)} {d mc ms : Nat} {P : xPo} {PX : xPx}
theorem x_callVH {idx na K c dc mc' ms' : Nat} {y : MethodName} {cy : ByteArray} {ml : Nat} {rt : Option FieldType} {as rest : List Value} (hM : xMV own idx y cy ml rt na K) (hd : decode cc pc = .ok (.invokevirtual idx, 3)) (hk : g.2.1 c = K) (hst : st = as.reverse ++ vr E c :: rest) (hna : as.length = na) (hcat : (rest.map fun v => v.category).sum ≤ 8) (hdp : dc + 1 ≤ d) (hmc : k + mc' ≤ mc) (hms : n + ms' ≤ ms)
    (hc : xC E (y, cy, ml, rt) dc mc' ms' (vr E c :: as) g m (fun r g' m' => xX E ((nm, ret, hh), (d, mc, ms), P, PX) own cc mL (k + mc') (n + ms') (pc + 3) lv (xpush r rest) g' m') (fun X g' m' => ∃ hpc, xcat own hh pc X hpc ∧ ∀ q : Nat, xX E ((nm, ret, hh), (d, mc, ms), P, PX) own cc mL (k + mc') (n + ms') hpc lv [.ref q] g' m')) : xX E ((nm, ret, hh), (d, mc, ms), P, PX) own cc mL k n pc lv st g m := by
  intro p e s mi args below meth c0 H locs ls hC hW hL hl
  obtain ⟨hB, hI, hS, hK, hRn⟩ := hM
  obtain ⟨hx, hb, -, hml, hown, hts, -, -, -, hV, -⟩ := id hC
  obtain ⟨h0, -, cell, q1, q2, q3, -⟩ := xob hW hk hK
  obtain ⟨-, hfc, -⟩ := hV.1.1 K _ (xcl hK)
  subst hst
  rw [vr_pos h0] at hc ⊢
  have hr := vx_runV (p := p) (e := e) (below := below) (meth := meth) (H := H) (locs := locs) (cells := k) (slots := n) (R := xR d mc ms) (g := F0 mi pc ls (as.reverse ++ Value.ref (xad E c) :: rest)) (rest := rest) (As := as) (b := xad E c) (C := y.cls) ⟨hx, hb, hml, hown, hts⟩ hc ⟨xcallB hB hts hdp, hts _ hI, hts _ hS⟩ ⟨xblind, ⟨cell, q1, by rw [q3]; rfl, by rw [← hRn, q2]; exact hfc⟩, xPre hV hW⟩ rfl hna hl.1 rfl (lv_room hcat) hd ⟨hmc, hms⟩
  intro T hT X
  rcases hr T hT X with ⟨v, st₀, t, T', L, h0, X', hL', e1, e2, ⟨r, g', m', hv, hp, hw⟩, st⟩ | ⟨q, st₀, t, T', L, En, ce, h0, X', hL', e1, e2, ⟨g', m', ⟨hpc, ⟨pre, x, suf, t1, t2, t3, t4, t5, t6, t7⟩, hp⟩, hw⟩, hce, hcv, hcl, st⟩
  · cases hv
    have hLL : ∀ q ∈ locs ++ L, xF E q.base := fun q hq => (List.mem_append.mp hq).elim (hL q) (hL' q)
    obtain ⟨t2, a1, b1⟩ := hp p e s mi args below meth c0 T'.heap (locs ++ L) ls hC (by rw [e1]; exact hw) hLL hl T' rfl X'
    refine ⟨t2, st t2 ?_, b1⟩
    rw [xpush_eq]
    exact a1
  · have hLL : ∀ q ∈ locs ++ L, xF E q.base := fun q hq => (List.mem_append.mp hq).elim (hL q) (hL' q)
    have hexc := hV.2.2.2.2.2.2.2.2.2.2.2.2.1
    have hncl := hV.2.2.2.2.2.2.2.2.2.2.2.2.2.1
    obtain ⟨t2, a1, b1⟩ := vx_catch (Q := vx_MQ below (xQ E P) (xQX E PX) args s mc ms (xF E)) (pc := pc) (ls := ls) (rest := rest) hown pre x suf (by rw [hC.2.2.2.2.2.2.2.1]; exact t1) (fun z hz => by
        rcases t2 z hz with h | ⟨h1, nm', h2, h3⟩
        · exact Or.inl h
        · exact Or.inr ⟨h1, nm', hts _ h2, hncl _ h3⟩) t3 t4 (hts _ t5) (va_Nw.use rfl (hexc _ t6)) (by rw [e1]; exact hce) hcv hcl (by rw [t7]; exact hp q p e s mi args below meth c0 T'.heap (locs ++ L) ls hC (by rw [e1]; exact hw) hLL hl) T' rfl X'
    exact ⟨t2, st.trans a1, b1⟩
theorem x_i2lz {x : Int} (hd : decode cc pc = .ok (.i2l, 1)) (h : xX E ((nm, ret, hh), (d, mc, ms), P, PX) own cc mL k n (pc + 1) lv (vl (Int32.ofInt x).toInt :: st) g m) : xX E ((nm, ret, hh), (d, mc, ms), P, PX) own cc mL k n pc lv (vi x :: st) g m := by
  have e : vi x = vi (Int32.ofInt x).toInt := by unfold vi; rw [Int32.ofInt_toInt]
  rw [e]
  exact x_i2l hd ⟨by have := (Int32.ofInt x).le_toInt; omega, by have := (Int32.ofInt x).toInt_lt; omega⟩ h
/-- a static method that catches, called -/
theorem x_callSH {idx na dc mc' ms' : Nat} {y : MethodName} {cy : ByteArray} {ml : Nat} {rt : Option FieldType} {hy : List (Nat × Nat × Nat × Nat)} {as rest : List Value} (hlk : Cond.methodLink own idx y ∈ xTb) (hst9 : Cond.static y ∈ xTb) (hcw : Cond.codeWith y cy ml rt hy ∈ xTb) (hini : Cond.initialized y.cls ∈ xTb) (hny : y.cls ≠ "java/lang/invoke/MethodHandle" ∧ y.cls ≠ "java/lang/invoke/VarHandle") (hpar : (parseMethodDescriptor y.desc).map (fun d => d.parameters.length) = some na) (hm40 : ml ≤ 40) (hd : decode cc pc = .ok (.invokestatic idx, 3)) (hst : st = as.reverse ++ rest) (hna : as.length = na) (hcat : (rest.map fun v => v.category).sum ≤ 8) (hdp : dc + 1 ≤ d) (hmc : k + mc' ≤ mc) (hms : n + ms' ≤ ms)
    (hc : xCH E (y, cy, ml, rt) hy dc mc' ms' as g m (fun r g' m' => xX E ((nm, ret, hh), (d, mc, ms), P, PX) own cc mL (k + mc') (n + ms') (pc + 3) lv (xpush r rest) g' m')) : xX E ((nm, ret, hh), (d, mc, ms), P, PX) own cc mL k n pc lv st g m := by
  intro p e s mi args below meth c0 H locs ls hC hW hL hl
  obtain ⟨hx, hb, -, hml, hown, hts, -, -, -, hV, -⟩ := id hC
  subst hst
  have hr := vx_runSW (p := p) (e := e) (below := below) (meth := meth) (H := H) (locs := locs) (cells := k) (slots := n) (R := xR d mc ms) (g := F0 mi pc ls (as.reverse ++ rest)) (rest := rest) (As := as) ⟨hx, hb, hml, hown, hts⟩ hc ⟨⟨rfl, rfl, hdp, by show 8 + (ml + 11) + 64 * dc ≤ 64 * d; omega, fun w hw a' U hW => by
      rcases List.mem_cons.mp hw with rfl | hw
      · exact word_at hW (xTb_good hcw) (hts _ hcw)
      · exact word_at hW (xTb_good hw) (hts _ hw), List.mem_cons_self⟩, hts _ hcw, hts _ hini, hny, fun sig h => by rw [h] at hpar; exact (Option.some.inj hpar).symm, hts _ hlk, hts _ hst9⟩ ⟨xblind, xPre hV hW⟩ rfl hna hl.1 rfl (lv_room hcat) hd ⟨hmc, hms⟩
  exact x_afterI (fun T hT X => by
    obtain ⟨v, st₀, t, T', L, h0, X', hL', e1, e2, hq, st⟩ := hr T hT X
    exact ⟨v, st₀, t, T', L, h0, X', hL', e1, hq, st⟩) hC hL hl
end R
end HD
