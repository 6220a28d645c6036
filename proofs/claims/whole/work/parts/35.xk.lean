section XK
variable {E : xE} {J : xJ} {own : String} {cc : ByteArray} {mL k n pc : Nat} {lv : List (Nat × Value)} {st : List Value} {g : xG} {m : xM}
variable {nm : String} {ret : Option FieldType} {hh : List (Nat × Nat × Nat × Nat)} {d mc ms : Nat} {P : xPo} {PX : xPx}
theorem x_iret {z : Int} (hd : decode cc pc = .ok (.ireturn, 1)) (hP : P (some (vi z)) g m) (hk : k ≤ mc := by decide) (hn : n ≤ ms := by decide) : xX E ((nm, some .int, hh), (d, mc, ms), P, PX) own cc mL k n pc lv [vi z] g m := by
  intro p e s mi args below meth c H locs ls hC hW hL hl
  refine W.widen (k := mc) (n := ms) hk hn (vx_ret ?_)
  exact W.iret hC.1 hC.2.1 hC.2.2.1 (fun t ht _ => ⟨_, g, m, rfl, hP, by rw [ht]; exact hW⟩) hL hd hC.2.2.2.2.2.2.1
theorem x_zret {z : Int} (hd : decode cc pc = .ok (.ireturn, 1)) (hz : z = 0 ∨ z = 1) (hP : P (some (vi z)) g m) (hk : k ≤ mc := by decide) (hn : n ≤ ms := by decide) : xX E ((nm, some .boolean, hh), (d, mc, ms), P, PX) own cc mL k n pc lv [vi z] g m := by
  intro p e s mi args below meth c H locs ls hC hW hL hl
  refine W.widen (k := mc) (n := ms) hk hn (vx_ret ?_)
  exact W.zret hC.1 hC.2.1 hC.2.2.1 (by rcases hz with rfl | rfl <;> decide) (fun t ht _ => ⟨_, g, m, rfl, hP, by rw [ht]; exact hW⟩) hL hd hC.2.2.2.2.2.2.1
theorem x_cret {z : Int} (hd : decode cc pc = .ok (.ireturn, 1)) (hz : narrow .char (vi z) = vi z) (hP : P (some (vi z)) g m) (hk : k ≤ mc := by decide) (hn : n ≤ ms := by decide) : xX E ((nm, some .char, hh), (d, mc, ms), P, PX) own cc mL k n pc lv [vi z] g m := by
  intro p e s mi args below meth c H locs ls hC hW hL hl
  refine W.widen (k := mc) (n := ms) hk hn (vx_ret ?_)
  exact W.zret hC.1 hC.2.1 hC.2.2.1 hz (fun t ht _ => ⟨_, g, m, rfl, hP, by rw [ht]; exact hW⟩) hL hd hC.2.2.2.2.2.2.1
theorem x_bret {z : Int} (hd : decode cc pc = .ok (.ireturn, 1)) (hz : narrow .byte (vi z) = vi z) (hP : P (some (vi z)) g m) (hk : k ≤ mc := by decide) (hn : n ≤ ms := by decide) : xX E ((nm, some .byte, hh), (d, mc, ms), P, PX) own cc mL k n pc lv [vi z] g m := by
  intro p e s mi args below meth c H locs ls hC hW hL hl
  refine W.widen (k := mc) (n := ms) hk hn (vx_ret ?_)
  exact W.zret hC.1 hC.2.1 hC.2.2.1 hz (fun t ht _ => ⟨_, g, m, rfl, hP, by rw [ht]; exact hW⟩) hL hd hC.2.2.2.2.2.2.1
theorem x_lret {z : Int} (hd : decode cc pc = .ok (.lreturn, 1)) (hP : P (some (vl z)) g m) (hk : k ≤ mc := by decide) (hn : n ≤ ms := by decide) : xX E ((nm, some .long, hh), (d, mc, ms), P, PX) own cc mL k n pc lv [vl z] g m := by
  intro p e s mi args below meth c H locs ls hC hW hL hl
  refine W.widen (k := mc) (n := ms) hk hn (vx_ret ?_)
  exact W.lret hC.1 hC.2.1 hC.2.2.1 (fun t ht _ => ⟨_, g, m, rfl, hP, by rw [ht]; exact hW⟩) hL hd hC.2.2.2.2.2.2.1
theorem x_vret (hd : decode cc pc = .ok (.return_, 1)) (hP : P none g m) (hk : k ≤ mc := by decide) (hn : n ≤ ms := by decide) : xX E ((nm, none, hh), (d, mc, ms), P, PX) own cc mL k n pc lv [] g m := by
  intro p e s mi args below meth c H locs ls hC hW hL hl
  refine W.widen (k := mc) (n := ms) hk hn (vx_ret ?_)
  exact W.vret hC.1 hC.2.1 hC.2.2.1 (fun t ht _ => ⟨_, g, m, rfl, hP, by rw [ht]; exact hW⟩) hL hd hC.2.2.2.2.2.2.1
theorem x_aret {rt : FieldType} {r : Nat} (hd : decode cc pc = .ok (.areturn, 1)) (hrt : xkt rt = 1) (hP : P (some (vr E r)) g m) (hk : k ≤ mc := by decide) (hn : n ≤ ms := by decide) : xX E ((nm, some rt, hh), (d, mc, ms), P, PX) own cc mL k n pc lv [vr E r] g m := by
  intro p e s mi args below meth c H locs ls hC hW hL hl
  refine W.widen (k := mc) (n := ms) hk hn (vx_ret ?_)
  refine W.aret hC.1 hC.2.1 hC.2.2.1 ?_ ?_ (fun t ht _ => ⟨_, g, m, rfl, hP, by rw [ht]; exact hW⟩) hL hd hC.2.2.2.2.2.2.1
  · cases rt <;> first | exact Or.inl ⟨_, rfl⟩ | exact Or.inr ⟨_, rfl⟩ | (simp [xkt] at hrt)
  · unfold vr
    cases xo E r with
    | none => exact Or.inl rfl
    | some a => exact Or.inr ⟨a, rfl⟩
/-! calls -/
def xpush (r : Option Value) (st : List Value) : List Value := match r with
  | none => st
  | some v => v :: st
theorem xpush_eq (r : Option Value) (st : List Value) : r.toList ++ st = xpush r st := by cases r <;> rfl
theorem xTb_good {w : Cond} (h : w ∈ xTb) : (w.onTables && w.keeps) = true ∨ ∃ ty, w = .arrayClass ty := good_of_word (List.mem_filter.mp h).2
theorem xcallB {own : String} {idx : Nat} {y : MethodName} {cy : ByteArray} {ml : Nat} {rt : Option FieldType} {na d dc mc ms mc' ms' : Nat} {args : Array Value} {s : State} (hM : xMB own idx y cy ml rt na) (hts : ∀ w ∈ xTb, w.before args s = true) (hdp : dc + 1 ≤ d) :
    CallB (xR d mc ms) s args own idx y cy ml rt (xws (y, cy, ml, rt)) (xR dc mc' ms') mc' ms' na := by
  obtain ⟨h1, h2, h3, h4, h5, h6⟩ := hM
  refine ⟨rfl, rfl, hdp, ?_, fun w hw a' U hW => ?_, List.mem_cons_self, hts _ h3, hts _ h2, h4, fun sig h => ?_, hts _ h1⟩
  · show 8 + (ml + 11) + 64 * dc ≤ 64 * d
    omega
  · rcases List.mem_cons.mp hw with rfl | hw
    · exact word_at hW (xTb_good h3) (hts _ h3)
    · exact word_at hW (xTb_good hw) (hts _ hw)
  · rw [h] at h5
    exact (Option.some.inj h5).symm
theorem xPre {E : xE} {g : xG} {m : xM} {s : State} {H : Heap} {as : List Value} (hV : xV E s) (hW : xWH E g m H) : ∀ U : State, U.heap = H → s.WarmedH U.vm → va_Pc as (xWd E g m) as.toArray U := fun U hU hw => ⟨rfl, by rw [hU]; exact hW, hV.moved hw⟩
/-- behind a call: it has come back, or its exception goes on to the caller -/
theorem x_after {p : Program} {e : Env} {s : State} {mi : MethodId} {args : Array Value} {below : List Frame} {meth : Method} {c : Code} {H : Heap} {locs : List Loc} {ls : Array Slot} {rest st0 : List Value} {mc' ms' : Nat} {a : Array Value}
    (hr : vx_Run p E.1 e (xR d mc ms) s mi args below meth c H locs k n mc' ms' (F0 mi pc ls st0) rest (xQ E (fun r g' m' => xX E ((nm, ret, []), (d, mc, ms), P, PX) own cc mL (k + mc') (n + ms') (pc + 3) lv (xpush r rest) g' m') a) (xQX E PX) (xF E))
    (hmc : k + mc' ≤ mc) (hms : n + ms' ≤ ms) (hC : xCtx E nm ret [] own cc mL p s mi args meth c) (hL : ∀ q ∈ locs, xF E q.base) (hl : lv_has ls mL lv) :
    W p E.1 e (xR d mc ms) s mi args below meth c H locs k n (vx_MQ below (xQ E P) (xQX E PX) args s mc ms (xF E)) (F0 mi pc ls st0) := by
  intro T hT X
  rcases hr T hT X with ⟨v, st₀, t, T', L, h0, X', hL', e1, e2, ⟨r, g', m', hv, hp, hw⟩, st⟩ | ⟨q, st₀, t, T', L, En, ce, h0, X', hL', e1, e2, ⟨g', m', hp, hw⟩, hce, hcv, hcl, st⟩
  · cases hv
    have hLL : ∀ q ∈ locs ++ L, xF E q.base := fun q hq => (List.mem_append.mp hq).elim (hL q) (hL' q)
    obtain ⟨t2, a1, b1⟩ := hp p e s mi args below meth c T'.heap (locs ++ L) ls hC (by rw [e1]; exact hw) hLL hl T' rfl X'
    refine ⟨t2, st t2 ?_, b1⟩
    rw [xpush_eq]
    exact a1
  · have hLL : ∀ q ∈ locs ++ L, xF E q.base := fun q hq => (List.mem_append.mp hq).elim (hL q) (hL' q)
    have hout : ∀ x ∈ c.exceptionTable.toList, covers x pc = false := by
      rw [hC.2.2.2.2.2.2.2.1]
      intro x hx
      cases hx
    obtain ⟨t2, a1, b1⟩ := vx_out (Qc := xQ E P) (XC := xQX E PX) (mc := mc) (ms := ms) (free := xF E) (args := args) (pc := pc) (ls := ls) (rest := rest) hout hC.2.2.2.2.2.2.1 (by rw [e1]; exact hce) hcv hcl (fun t9 ht _ => ⟨g', m', hp, by rw [ht, e1]; exact hw⟩) hLL hmc hms T' rfl X'
    exact ⟨t2, st.trans a1, b1⟩
theorem x_callV {idx na K c dc mc' ms' : Nat} {y : MethodName} {cy : ByteArray} {ml : Nat} {rt : Option FieldType} {as rest : List Value} (hM : xMV own idx y cy ml rt na K) (hd : decode cc pc = .ok (.invokevirtual idx, 3)) (hk : g.2.1 c = K) (hst : st = as.reverse ++ vr E c :: rest) (hna : as.length = na) (hcat : (rest.map fun v => v.category).sum ≤ 8) (hdp : dc + 1 ≤ d) (hmc : k + mc' ≤ mc) (hms : n + ms' ≤ ms)
    (hc : xC E (y, cy, ml, rt) dc mc' ms' (vr E c :: as) g m (fun r g' m' => xX E ((nm, ret, []), (d, mc, ms), P, PX) own cc mL (k + mc') (n + ms') (pc + 3) lv (xpush r rest) g' m') PX) : xX E ((nm, ret, []), (d, mc, ms), P, PX) own cc mL k n pc lv st g m := by
  intro p e s mi args below meth c0 H locs ls hC hW hL hl
  obtain ⟨hB, hI, hS, hK, hRn⟩ := hM
  obtain ⟨hx, hb, -, hml, hown, hts, -, -, -, hV, -⟩ := id hC
  obtain ⟨h0, -, cell, q1, q2, q3, -⟩ := xob hW hk hK
  obtain ⟨-, hfc, -⟩ := hV.1.1 K _ (xcl hK)
  subst hst
  rw [vr_pos h0] at hc ⊢
  refine x_after (vx_runV (As := as) (b := xad E c) (C := y.cls) ⟨hx, hb, hml, hown, hts⟩ hc ⟨xcallB hB hts hdp, hts _ hI, hts _ hS⟩ ⟨xblind, ⟨cell, q1, by rw [q3]; rfl, ?_⟩, xPre hV hW⟩ rfl hna hl.1 rfl (lv_room hcat) hd ⟨hmc, hms⟩) hmc hms hC hL hl
  rw [← hRn, q2]
  exact hfc
theorem x_callS {idx na dc mc' ms' : Nat} {y : MethodName} {cy : ByteArray} {ml : Nat} {rt : Option FieldType} {as rest : List Value} (hM : xMS own idx y cy ml rt na) (hd : decode cc pc = .ok (.invokestatic idx, 3)) (hst : st = as.reverse ++ rest) (hna : as.length = na) (hcat : (rest.map fun v => v.category).sum ≤ 8) (hdp : dc + 1 ≤ d) (hmc : k + mc' ≤ mc) (hms : n + ms' ≤ ms)
    (hc : xC E (y, cy, ml, rt) dc mc' ms' as g m (fun r g' m' => xX E ((nm, ret, []), (d, mc, ms), P, PX) own cc mL (k + mc') (n + ms') (pc + 3) lv (xpush r rest) g' m') PX) : xX E ((nm, ret, []), (d, mc, ms), P, PX) own cc mL k n pc lv st g m := by
  intro p e s mi args below meth c0 H locs ls hC hW hL hl
  obtain ⟨hB, hS⟩ := hM
  obtain ⟨hx, hb, -, hml, hown, hts, -, -, -, hV, -⟩ := id hC
  subst hst
  exact x_after (vx_runS (As := as) ⟨hx, hb, hml, hown, hts⟩ hc ⟨xcallB hB hts hdp, hts _ hS⟩ ⟨xblind, xPre hV hW⟩ rfl hna hl.1 rfl (lv_room hcat) hd ⟨hmc, hms⟩) hmc hms hC hL hl

theorem x_V0 {idx K c dc mc' ms' : Nat} {y : MethodName} {cy : ByteArray} {ml : Nat} {rt : Option FieldType} {rest : List Value} (hM : xMV own idx y cy ml rt 0 K) (hd : decode cc pc = .ok (.invokevirtual idx, 3)) (hk : g.2.1 c = K)
    (hc : xC E (y, cy, ml, rt) dc mc' ms' (vr E c :: []) g m (fun r g' m' => xX E ((nm, ret, []), (d, mc, ms), P, PX) own cc mL (k + mc') (n + ms') (pc + 3) lv (xpush r rest) g' m') PX) (hdp : dc + 1 ≤ d := by decide) (hmc : k + mc' ≤ mc := by decide) (hms : n + ms' ≤ ms := by decide) (hcat : (rest.map fun v => v.category).sum ≤ 8 := by first | exact Nat.le_of_ble_eq_true rfl | (simp only [List.map, vr_cat]; exact Nat.le_of_ble_eq_true rfl)) : xX E ((nm, ret, []), (d, mc, ms), P, PX) own cc mL k n pc lv (vr E c :: rest) g m :=
  x_callV (as := []) hM hd hk rfl rfl hcat hdp hmc hms hc
theorem x_S0 {idx dc mc' ms' : Nat} {y : MethodName} {cy : ByteArray} {ml : Nat} {rt : Option FieldType} {rest : List Value} (hM : xMS own idx y cy ml rt 0) (hd : decode cc pc = .ok (.invokestatic idx, 3))
    (hc : xC E (y, cy, ml, rt) dc mc' ms' [] g m (fun r g' m' => xX E ((nm, ret, []), (d, mc, ms), P, PX) own cc mL (k + mc') (n + ms') (pc + 3) lv (xpush r rest) g' m') PX) (hdp : dc + 1 ≤ d := by decide) (hmc : k + mc' ≤ mc := by decide) (hms : n + ms' ≤ ms := by decide) (hcat : (rest.map fun v => v.category).sum ≤ 8 := by first | exact Nat.le_of_ble_eq_true rfl | (simp only [List.map, vr_cat]; exact Nat.le_of_ble_eq_true rfl)) : xX E ((nm, ret, []), (d, mc, ms), P, PX) own cc mL k n pc lv (rest) g m :=
  x_callS (as := []) hM hd rfl rfl hcat hdp hmc hms hc
theorem x_V1 {idx K c dc mc' ms' : Nat} {y : MethodName} {cy : ByteArray} {ml : Nat} {rt : Option FieldType} {a1 : Value} {rest : List Value} (hM : xMV own idx y cy ml rt 1 K) (hd : decode cc pc = .ok (.invokevirtual idx, 3)) (hk : g.2.1 c = K)
    (hc : xC E (y, cy, ml, rt) dc mc' ms' (vr E c :: [a1]) g m (fun r g' m' => xX E ((nm, ret, []), (d, mc, ms), P, PX) own cc mL (k + mc') (n + ms') (pc + 3) lv (xpush r rest) g' m') PX) (hdp : dc + 1 ≤ d := by decide) (hmc : k + mc' ≤ mc := by decide) (hms : n + ms' ≤ ms := by decide) (hcat : (rest.map fun v => v.category).sum ≤ 8 := by first | exact Nat.le_of_ble_eq_true rfl | (simp only [List.map, vr_cat]; exact Nat.le_of_ble_eq_true rfl)) : xX E ((nm, ret, []), (d, mc, ms), P, PX) own cc mL k n pc lv (a1 :: vr E c :: rest) g m :=
  x_callV (as := [a1]) hM hd hk rfl rfl hcat hdp hmc hms hc
theorem x_S1 {idx dc mc' ms' : Nat} {y : MethodName} {cy : ByteArray} {ml : Nat} {rt : Option FieldType} {a1 : Value} {rest : List Value} (hM : xMS own idx y cy ml rt 1) (hd : decode cc pc = .ok (.invokestatic idx, 3))
    (hc : xC E (y, cy, ml, rt) dc mc' ms' [a1] g m (fun r g' m' => xX E ((nm, ret, []), (d, mc, ms), P, PX) own cc mL (k + mc') (n + ms') (pc + 3) lv (xpush r rest) g' m') PX) (hdp : dc + 1 ≤ d := by decide) (hmc : k + mc' ≤ mc := by decide) (hms : n + ms' ≤ ms := by decide) (hcat : (rest.map fun v => v.category).sum ≤ 8 := by first | exact Nat.le_of_ble_eq_true rfl | (simp only [List.map, vr_cat]; exact Nat.le_of_ble_eq_true rfl)) : xX E ((nm, ret, []), (d, mc, ms), P, PX) own cc mL k n pc lv (a1 :: rest) g m :=
  x_callS (as := [a1]) hM hd rfl rfl hcat hdp hmc hms hc
theorem x_V2 {idx K c dc mc' ms' : Nat} {y : MethodName} {cy : ByteArray} {ml : Nat} {rt : Option FieldType} {a1 a2 : Value} {rest : List Value} (hM : xMV own idx y cy ml rt 2 K) (hd : decode cc pc = .ok (.invokevirtual idx, 3)) (hk : g.2.1 c = K)
    (hc : xC E (y, cy, ml, rt) dc mc' ms' (vr E c :: [a1, a2]) g m (fun r g' m' => xX E ((nm, ret, []), (d, mc, ms), P, PX) own cc mL (k + mc') (n + ms') (pc + 3) lv (xpush r rest) g' m') PX) (hdp : dc + 1 ≤ d := by decide) (hmc : k + mc' ≤ mc := by decide) (hms : n + ms' ≤ ms := by decide) (hcat : (rest.map fun v => v.category).sum ≤ 8 := by first | exact Nat.le_of_ble_eq_true rfl | (simp only [List.map, vr_cat]; exact Nat.le_of_ble_eq_true rfl)) : xX E ((nm, ret, []), (d, mc, ms), P, PX) own cc mL k n pc lv (a2 :: a1 :: vr E c :: rest) g m :=
  x_callV (as := [a1, a2]) hM hd hk rfl rfl hcat hdp hmc hms hc
theorem x_S2 {idx dc mc' ms' : Nat} {y : MethodName} {cy : ByteArray} {ml : Nat} {rt : Option FieldType} {a1 a2 : Value} {rest : List Value} (hM : xMS own idx y cy ml rt 2) (hd : decode cc pc = .ok (.invokestatic idx, 3))
    (hc : xC E (y, cy, ml, rt) dc mc' ms' [a1, a2] g m (fun r g' m' => xX E ((nm, ret, []), (d, mc, ms), P, PX) own cc mL (k + mc') (n + ms') (pc + 3) lv (xpush r rest) g' m') PX) (hdp : dc + 1 ≤ d := by decide) (hmc : k + mc' ≤ mc := by decide) (hms : n + ms' ≤ ms := by decide) (hcat : (rest.map fun v => v.category).sum ≤ 8 := by first | exact Nat.le_of_ble_eq_true rfl | (simp only [List.map, vr_cat]; exact Nat.le_of_ble_eq_true rfl)) : xX E ((nm, ret, []), (d, mc, ms), P, PX) own cc mL k n pc lv (a2 :: a1 :: rest) g m :=
  x_callS (as := [a1, a2]) hM hd rfl rfl hcat hdp hmc hms hc
theorem x_V3 {idx K c dc mc' ms' : Nat} {y : MethodName} {cy : ByteArray} {ml : Nat} {rt : Option FieldType} {a1 a2 a3 : Value} {rest : List Value} (hM : xMV own idx y cy ml rt 3 K) (hd : decode cc pc = .ok (.invokevirtual idx, 3)) (hk : g.2.1 c = K)
    (hc : xC E (y, cy, ml, rt) dc mc' ms' (vr E c :: [a1, a2, a3]) g m (fun r g' m' => xX E ((nm, ret, []), (d, mc, ms), P, PX) own cc mL (k + mc') (n + ms') (pc + 3) lv (xpush r rest) g' m') PX) (hdp : dc + 1 ≤ d := by decide) (hmc : k + mc' ≤ mc := by decide) (hms : n + ms' ≤ ms := by decide) (hcat : (rest.map fun v => v.category).sum ≤ 8 := by first | exact Nat.le_of_ble_eq_true rfl | (simp only [List.map, vr_cat]; exact Nat.le_of_ble_eq_true rfl)) : xX E ((nm, ret, []), (d, mc, ms), P, PX) own cc mL k n pc lv (a3 :: a2 :: a1 :: vr E c :: rest) g m :=
  x_callV (as := [a1, a2, a3]) hM hd hk rfl rfl hcat hdp hmc hms hc
theorem x_S3 {idx dc mc' ms' : Nat} {y : MethodName} {cy : ByteArray} {ml : Nat} {rt : Option FieldType} {a1 a2 a3 : Value} {rest : List Value} (hM : xMS own idx y cy ml rt 3) (hd : decode cc pc = .ok (.invokestatic idx, 3))
    (hc : xC E (y, cy, ml, rt) dc mc' ms' [a1, a2, a3] g m (fun r g' m' => xX E ((nm, ret, []), (d, mc, ms), P, PX) own cc mL (k + mc') (n + ms') (pc + 3) lv (xpush r rest) g' m') PX) (hdp : dc + 1 ≤ d := by decide) (hmc : k + mc' ≤ mc := by decide) (hms : n + ms' ≤ ms := by decide) (hcat : (rest.map fun v => v.category).sum ≤ 8 := by first | exact Nat.le_of_ble_eq_true rfl | (simp only [List.map, vr_cat]; exact Nat.le_of_ble_eq_true rfl)) : xX E ((nm, ret, []), (d, mc, ms), P, PX) own cc mL k n pc lv (a3 :: a2 :: a1 :: rest) g m :=
  x_callS (as := [a1, a2, a3]) hM hd rfl rfl hcat hdp hmc hms hc
theorem x_V4 {idx K c dc mc' ms' : Nat} {y : MethodName} {cy : ByteArray} {ml : Nat} {rt : Option FieldType} {a1 a2 a3 a4 : Value} {rest : List Value} (hM : xMV own idx y cy ml rt 4 K) (hd : decode cc pc = .ok (.invokevirtual idx, 3)) (hk : g.2.1 c = K)
    (hc : xC E (y, cy, ml, rt) dc mc' ms' (vr E c :: [a1, a2, a3, a4]) g m (fun r g' m' => xX E ((nm, ret, []), (d, mc, ms), P, PX) own cc mL (k + mc') (n + ms') (pc + 3) lv (xpush r rest) g' m') PX) (hdp : dc + 1 ≤ d := by decide) (hmc : k + mc' ≤ mc := by decide) (hms : n + ms' ≤ ms := by decide) (hcat : (rest.map fun v => v.category).sum ≤ 8 := by first | exact Nat.le_of_ble_eq_true rfl | (simp only [List.map, vr_cat]; exact Nat.le_of_ble_eq_true rfl)) : xX E ((nm, ret, []), (d, mc, ms), P, PX) own cc mL k n pc lv (a4 :: a3 :: a2 :: a1 :: vr E c :: rest) g m :=
  x_callV (as := [a1, a2, a3, a4]) hM hd hk rfl rfl hcat hdp hmc hms hc
theorem x_S4 {idx dc mc' ms' : Nat} {y : MethodName} {cy : ByteArray} {ml : Nat} {rt : Option FieldType} {a1 a2 a3 a4 : Value} {rest : List Value} (hM : xMS own idx y cy ml rt 4) (hd : decode cc pc = .ok (.invokestatic idx, 3))
    (hc : xC E (y, cy, ml, rt) dc mc' ms' [a1, a2, a3, a4] g m (fun r g' m' => xX E ((nm, ret, []), (d, mc, ms), P, PX) own cc mL (k + mc') (n + ms') (pc + 3) lv (xpush r rest) g' m') PX) (hdp : dc + 1 ≤ d := by decide) (hmc : k + mc' ≤ mc := by decide) (hms : n + ms' ≤ ms := by decide) (hcat : (rest.map fun v => v.category).sum ≤ 8 := by first | exact Nat.le_of_ble_eq_true rfl | (simp only [List.map, vr_cat]; exact Nat.le_of_ble_eq_true rfl)) : xX E ((nm, ret, []), (d, mc, ms), P, PX) own cc mL k n pc lv (a4 :: a3 :: a2 :: a1 :: rest) g m :=
  x_callS (as := [a1, a2, a3, a4]) hM hd rfl rfl hcat hdp hmc hms hc
theorem x_V5 {idx K c dc mc' ms' : Nat} {y : MethodName} {cy : ByteArray} {ml : Nat} {rt : Option FieldType} {a1 a2 a3 a4 a5 : Value} {rest : List Value} (hM : xMV own idx y cy ml rt 5 K) (hd : decode cc pc = .ok (.invokevirtual idx, 3)) (hk : g.2.1 c = K)
    (hc : xC E (y, cy, ml, rt) dc mc' ms' (vr E c :: [a1, a2, a3, a4, a5]) g m (fun r g' m' => xX E ((nm, ret, []), (d, mc, ms), P, PX) own cc mL (k + mc') (n + ms') (pc + 3) lv (xpush r rest) g' m') PX) (hdp : dc + 1 ≤ d := by decide) (hmc : k + mc' ≤ mc := by decide) (hms : n + ms' ≤ ms := by decide) (hcat : (rest.map fun v => v.category).sum ≤ 8 := by first | exact Nat.le_of_ble_eq_true rfl | (simp only [List.map, vr_cat]; exact Nat.le_of_ble_eq_true rfl)) : xX E ((nm, ret, []), (d, mc, ms), P, PX) own cc mL k n pc lv (a5 :: a4 :: a3 :: a2 :: a1 :: vr E c :: rest) g m :=
  x_callV (as := [a1, a2, a3, a4, a5]) hM hd hk rfl rfl hcat hdp hmc hms hc
theorem x_S5 {idx dc mc' ms' : Nat} {y : MethodName} {cy : ByteArray} {ml : Nat} {rt : Option FieldType} {a1 a2 a3 a4 a5 : Value} {rest : List Value} (hM : xMS own idx y cy ml rt 5) (hd : decode cc pc = .ok (.invokestatic idx, 3))
    (hc : xC E (y, cy, ml, rt) dc mc' ms' [a1, a2, a3, a4, a5] g m (fun r g' m' => xX E ((nm, ret, []), (d, mc, ms), P, PX) own cc mL (k + mc') (n + ms') (pc + 3) lv (xpush r rest) g' m') PX) (hdp : dc + 1 ≤ d := by decide) (hmc : k + mc' ≤ mc := by decide) (hms : n + ms' ≤ ms := by decide) (hcat : (rest.map fun v => v.category).sum ≤ 8 := by first | exact Nat.le_of_ble_eq_true rfl | (simp only [List.map, vr_cat]; exact Nat.le_of_ble_eq_true rfl)) : xX E ((nm, ret, []), (d, mc, ms), P, PX) own cc mL k n pc lv (a5 :: a4 :: a3 :: a2 :: a1 :: rest) g m :=
  x_callS (as := [a1, a2, a3, a4, a5]) hM hd rfl rfl hcat hdp hmc hms hc
theorem x_V6 {idx K c dc mc' ms' : Nat} {y : MethodName} {cy : ByteArray} {ml : Nat} {rt : Option FieldType} {a1 a2 a3 a4 a5 a6 : Value} {rest : List Value} (hM : xMV own idx y cy ml rt 6 K) (hd : decode cc pc = .ok (.invokevirtual idx, 3)) (hk : g.2.1 c = K)
    (hc : xC E (y, cy, ml, rt) dc mc' ms' (vr E c :: [a1, a2, a3, a4, a5, a6]) g m (fun r g' m' => xX E ((nm, ret, []), (d, mc, ms), P, PX) own cc mL (k + mc') (n + ms') (pc + 3) lv (xpush r rest) g' m') PX) (hdp : dc + 1 ≤ d := by decide) (hmc : k + mc' ≤ mc := by decide) (hms : n + ms' ≤ ms := by decide) (hcat : (rest.map fun v => v.category).sum ≤ 8 := by first | exact Nat.le_of_ble_eq_true rfl | (simp only [List.map, vr_cat]; exact Nat.le_of_ble_eq_true rfl)) : xX E ((nm, ret, []), (d, mc, ms), P, PX) own cc mL k n pc lv (a6 :: a5 :: a4 :: a3 :: a2 :: a1 :: vr E c :: rest) g m :=
  x_callV (as := [a1, a2, a3, a4, a5, a6]) hM hd hk rfl rfl hcat hdp hmc hms hc
theorem x_S6 {idx dc mc' ms' : Nat} {y : MethodName} {cy : ByteArray} {ml : Nat} {rt : Option FieldType} {a1 a2 a3 a4 a5 a6 : Value} {rest : List Value} (hM : xMS own idx y cy ml rt 6) (hd : decode cc pc = .ok (.invokestatic idx, 3))
    (hc : xC E (y, cy, ml, rt) dc mc' ms' [a1, a2, a3, a4, a5, a6] g m (fun r g' m' => xX E ((nm, ret, []), (d, mc, ms), P, PX) own cc mL (k + mc') (n + ms') (pc + 3) lv (xpush r rest) g' m') PX) (hdp : dc + 1 ≤ d := by decide) (hmc : k + mc' ≤ mc := by decide) (hms : n + ms' ≤ ms := by decide) (hcat : (rest.map fun v => v.category).sum ≤ 8 := by first | exact Nat.le_of_ble_eq_true rfl | (simp only [List.map, vr_cat]; exact Nat.le_of_ble_eq_true rfl)) : xX E ((nm, ret, []), (d, mc, ms), P, PX) own cc mL k n pc lv (a6 :: a5 :: a4 :: a3 :: a2 :: a1 :: rest) g m :=
  x_callS (as := [a1, a2, a3, a4, a5, a6]) hM hd rfl rfl hcat hdp hmc hms hc
theorem x_V7 {idx K c dc mc' ms' : Nat} {y : MethodName} {cy : ByteArray} {ml : Nat} {rt : Option FieldType} {a1 a2 a3 a4 a5 a6 a7 : Value} {rest : List Value} (hM : xMV own idx y cy ml rt 7 K) (hd : decode cc pc = .ok (.invokevirtual idx, 3)) (hk : g.2.1 c = K)
    (hc : xC E (y, cy, ml, rt) dc mc' ms' (vr E c :: [a1, a2, a3, a4, a5, a6, a7]) g m (fun r g' m' => xX E ((nm, ret, []), (d, mc, ms), P, PX) own cc mL (k + mc') (n + ms') (pc + 3) lv (xpush r rest) g' m') PX) (hdp : dc + 1 ≤ d := by decide) (hmc : k + mc' ≤ mc := by decide) (hms : n + ms' ≤ ms := by decide) (hcat : (rest.map fun v => v.category).sum ≤ 8 := by first | exact Nat.le_of_ble_eq_true rfl | (simp only [List.map, vr_cat]; exact Nat.le_of_ble_eq_true rfl)) : xX E ((nm, ret, []), (d, mc, ms), P, PX) own cc mL k n pc lv (a7 :: a6 :: a5 :: a4 :: a3 :: a2 :: a1 :: vr E c :: rest) g m :=
  x_callV (as := [a1, a2, a3, a4, a5, a6, a7]) hM hd hk rfl rfl hcat hdp hmc hms hc
theorem x_S7 {idx dc mc' ms' : Nat} {y : MethodName} {cy : ByteArray} {ml : Nat} {rt : Option FieldType} {a1 a2 a3 a4 a5 a6 a7 : Value} {rest : List Value} (hM : xMS own idx y cy ml rt 7) (hd : decode cc pc = .ok (.invokestatic idx, 3))
    (hc : xC E (y, cy, ml, rt) dc mc' ms' [a1, a2, a3, a4, a5, a6, a7] g m (fun r g' m' => xX E ((nm, ret, []), (d, mc, ms), P, PX) own cc mL (k + mc') (n + ms') (pc + 3) lv (xpush r rest) g' m') PX) (hdp : dc + 1 ≤ d := by decide) (hmc : k + mc' ≤ mc := by decide) (hms : n + ms' ≤ ms := by decide) (hcat : (rest.map fun v => v.category).sum ≤ 8 := by first | exact Nat.le_of_ble_eq_true rfl | (simp only [List.map, vr_cat]; exact Nat.le_of_ble_eq_true rfl)) : xX E ((nm, ret, []), (d, mc, ms), P, PX) own cc mL k n pc lv (a7 :: a6 :: a5 :: a4 :: a3 :: a2 :: a1 :: rest) g m :=
  x_callS (as := [a1, a2, a3, a4, a5, a6, a7]) hM hd rfl rfl hcat hdp hmc hms hc
end XK
