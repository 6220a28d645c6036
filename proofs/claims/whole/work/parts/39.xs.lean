section XS
/-- the JDK's own methods: by their names, not their classes' -/
theorem vx_ofWF {l : Launch} {y : MethodName} {ws ws' : List Cond} {rm : Room} {Pc : Array Value → State → Prop} {Qc : Array Value → State → Outcome → State → Prop} {XC : String → State → State → Prop} {mc ms : Nat} {free : Addr → Prop} {cc : ByteArray} {maxL : Nat} {ret : Option FieldType}
    (hy : plainFor y = true) (hw : ws = Cond.code y cc maxL ret :: ws')
    (body : ∀ p e s m args below meth c s₁, BodyLoose p l y (headSpec ws rm) cc maxL ret e s m args below meth c s₁ → c.maxLocals = maxL → (∀ x ∈ c.exceptionTable.toList, False) → Pc args s →
      W p l e (headSpec ws rm).room s m args below meth c s.heap [] 0 0 (vx_MQ below Qc XC args s mc ms free) (entryFrame m args maxL)) : vx_Met l y ws rm Pc Qc XC mc ms free := by
  refine MetFree.of_bodySF (code := cc) (maxLocals := maxL) (ret := ret) hy ?_ ?_
  · intro args s m h hn
    obtain ⟨meth, c, h1, h2, h3, h4, h5, h6, -, -⟩ := Cond.code_spec hn (atoms_spec (ws := ws) h _ (by rw [hw]; exact List.mem_cons_self))
    exact ⟨meth, c, h1, h2, h3, h4, h5, h6⟩
  · intro p e s m args below meth c s₁ B hml hP _
    have hh0 : s₁.heap = s.heap := by rw [B.state]; rfl
    have ht : ∀ x ∈ c.exceptionTable.toList, False := by
      obtain ⟨meth9, c9, h1, h2, -, -, -, -, h7, -⟩ := Cond.code_spec B.named (atoms_spec (ws := ws) B.pre _ (by rw [hw]; exact List.mem_cons_self))
      cases Option.some.inj (h1.symm.trans B.method)
      cases Option.some.inj (h2.symm.trans (Stand.of_body B).code)
      intro x hx
      rw [Array.isEmpty_iff.mp h7] at hx
      cases hx
    obtain ⟨t, a1, o, b1, b2, b3⟩ := body p e s m args below meth c s₁ B hml ht hP s₁ hh0 (Stand.of_body B)
    exact ⟨t, o, a1, b1, b2, b3⟩
theorem x_enterF {E : xE} {y : MethodName} {cc : ByteArray} {mL : Nat} {ret : Option FieldType} {d mc ms : Nat} {as : List Value} {g : xG} {m : xM} {P : xPo} {PX : xPx} {own nm : String}
    (hy : plainFor y = true) (ho : y.cls = own) (hn : y.name = nm) (hle : (lg_sl as).length ≤ mL)
    (h : xX E ((nm, ret, []), (d, mc, ms), P, PX) own cc mL 0 0 0 (lv_args 0 as) [] g m) : xC E (y, cc, mL, ret) d mc ms as g m P PX := by
  refine vx_ofWF (cc := cc) (maxL := mL) (ret := ret) hy rfl ?_
  intro p e s mi args below meth c s₁ B hml htb hv
  obtain ⟨rfl, hW, hV⟩ := hv
  have hl := lv_entry as (n := mL) hle
  rw [lg_entry_eq]
  have hown : s.vm.findClass own = some mi.cls := by rw [← ho]; exact findClass_of_methodNamed B.named
  have hts := atoms_spec (ws := xws (y, cc, mL, ret)) B.pre
  refine h p e s mi _ below meth c s.heap [] _ ⟨B.exec, B.bytes, B.returns, hml, hown, fun w hw => hts w (List.mem_cons_of_mem _ hw), B.notSynchronized, ?_, ?_, hV, hW.2.2.1⟩ hW (fun q hq => by cases hq) hl
  · cases hq : c.exceptionTable.toList with
    | nil => rfl
    | cons a b => exact (htb a (by rw [hq]; exact List.mem_cons_self)).elim
  · rw [← hn]; exact (name_of_methodNamed B.named B.method).1
theorem x_lconst0 {E : xE} {J : xJ} {own : String} {cc : ByteArray} {mL k n pc : Nat} {lv : List (Nat × Value)} {st : List Value} {g : xG} {m : xM} (hd : decode cc pc = .ok (.lconst 0, 1)) (h : xX E J own cc mL k n (pc + 1) lv (vl 0 :: st) g m) : xX E J own cc mL k n pc lv st g m := x_lconst hd h
theorem x_lconst1 {E : xE} {J : xJ} {own : String} {cc : ByteArray} {mL k n pc : Nat} {lv : List (Nat × Value)} {st : List Value} {g : xG} {m : xM} (hd : decode cc pc = .ok (.lconst 1, 1)) (h : xX E J own cc mL k n (pc + 1) lv (vl 1 :: st) g m) : xX E J own cc mL k n pc lv st g m := x_lconst hd h
theorem xl_i {lv : List (Nat × Value)} {i : Nat} {z z' : Int} (h : xl lv i = some (vi z)) (e : z = z') : xl lv i = some (vi z') := by rw [← e]; exact h
theorem xl_l {lv : List (Nat × Value)} {i : Nat} {z z' : Int} (h : xl lv i = some (vl z)) (e : z = z') : xl lv i = some (vl z') := by rw [← e]; exact h
/-- two memories that differ in these cells alone -/
def ag (S : List Nat) (m m' : xM) : Prop := ∀ c, c ∉ S → m' c = m c
theorem ag.rf {S : List Nat} {m : xM} : ag S m m := fun _ _ => rfl
theorem ag.tr {S T U : List Nat} {m m' m'' : xM} (h : ag S m m') (h2 : ag T m' m'') (hs : ∀ c ∈ S, c ∈ U) (ht : ∀ c ∈ T, c ∈ U) : ag U m m'' := fun c hc => (h2 c (fun q => hc (ht c q))).trans (h c (fun q => hc (hs c q)))
theorem ag.tr1 {S : List Nat} {m m' m'' : xM} (h : ag S m m') (h2 : ag S m' m'') : ag S m m'' := fun c hc => (h2 c hc).trans (h c hc)
theorem ag.wk {S U : List Nat} {m m' : xM} (h : ag S m m') (hs : ∀ c ∈ S, c ∈ U) : ag U m m' := fun c hc => h c (fun q => hc (hs c q))
theorem ag.u {S : List Nat} {m m' : xM} {c j : Nat} {z : Int} (h : ag S m m') (hc : c ∈ S) : ag S m (xu m' c j z) := fun a ha => (xu_ne (m := m') (a := a) (c := c) (fun e => ha (by rw [e]; exact hc))).trans (h a ha)
theorem xu_s {m : xM} {c j : Nat} {z : Int} : xu m c j z c j = z := by simp [xu]
theorem xu_n {m : xM} {c j a b : Nat} {z : Int} (h : a ≠ c ∨ b ≠ j) : xu m c j z a b = m a b := by
  unfold xu
  by_cases q : a = c
  · rw [if_pos q]
    rcases h with h | h
    · exact absurd q h
    · rw [if_neg h]
  · rw [if_neg q]
end XS
