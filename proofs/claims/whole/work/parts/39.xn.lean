section XN
/-- a cell more -/
def xng (g : xG) (K len : Nat) : xG := (fun a b => if a = g.2.2.2 then 0 else g.1 a b, fun a => if a = g.2.2.2 then K else g.2.1 a, fun a => if a = g.2.2.2 then len else g.2.2.1 a, g.2.2.2 + 1)
def xz0 (m : xM) (c : Nat) : xM := fun a b => if a = c then 0 else m a b
theorem xWH.new {E : xE} {g : xG} {m : xM} {H H1 : Heap} {K len : Nat} (hE : xEok E) (hW : xWH E g m H) (hz : H1.size = H.size + 1) (oq : ∀ q, q < H.size → H1[q]? = H[q]?)
    (hn : ∀ e, xc E K len (fun _ => 0) (fun _ => 0) = some e → va_at E.2.1 vwCl (H.size, e) H1) : xWH E (xng g K len) (xz0 m g.2.2.2) H1 := by
  obtain ⟨w1, w2, w3, w4⟩ := hW
  have hB : xB E ≤ H.size := by omega
  refine ⟨by show nS ≤ g.2.2.2 + 1; omega, by show H1.size + nS = xB E + (g.2.2.2 + 1); omega, fun q hq => ?_, fun c e he => ?_⟩
  · rw [oq q (by omega)]
    exact w3 q hq
  · by_cases hc : c = g.2.2.2
    · subst hc
      have ha : xad E g.2.2.2 = H.size := by have := hE.1 g.2.2.2 w1; omega
      rw [ha]
      refine ⟨by unfold nS at w1; omega, Nat.lt_succ_self _, hn e ?_⟩
      have e1 : (xng g K len).2.1 g.2.2.2 = K := by simp [xng]
      have e2 : (xng g K len).2.2.1 g.2.2.2 = len := by simp [xng]
      have e3 : (xng g K len).1 g.2.2.2 = fun _ => 0 := by funext b; simp [xng]
      have e4 : xz0 m g.2.2.2 g.2.2.2 = fun _ => 0 := by funext b; simp [xz0]
      rw [e1, e2, e3, e4] at he
      exact he
    · have he' : xc E (g.2.1 c) (g.2.2.1 c) (m c) (g.1 c) = some e := by
        have e1 : (xng g K len).2.1 c = g.2.1 c := by simp [xng, hc]
        have e2 : (xng g K len).2.2.1 c = g.2.2.1 c := by simp [xng, hc]
        have e3 : (xng g K len).1 c = g.1 c := by funext b; simp [xng, hc]
        have e4 : xz0 m g.2.2.2 c = m c := by funext b; simp [xz0, hc]
        rw [e1, e2, e3, e4] at he
        exact he
      obtain ⟨a1, a2, a3⟩ := w4 c e he'
      exact ⟨a1, Nat.lt_succ_of_lt a2, a3.kept (oq _ a3.lt)⟩
theorem xad_n {E : xE} {g : xG} {m : xM} {H : Heap} (hE : xEok E) (hW : xWH E g m H) : vr E g.2.2.2 = .ref H.size := by
  have h3 : nS ≤ g.2.2.2 := hW.1
  have h1 : xad E g.2.2.2 + nS = xB E + g.2.2.2 := hE.1 _ h3
  have h2 : H.size + nS = xB E + g.2.2.2 := hW.2.1
  rw [vr_pos (by unfold nS at h3; omega), show xad E g.2.2.2 = H.size by omega]
variable {E : xE} {J : xJ} {own : String} {cc : ByteArray} {mL k n pc : Nat} {lv : List (Nat × Value)} {st : List Value} {g : xG} {m : xM}
variable {nm : String} {ret : Option FieldType} {hh : List (Nat × Nat × Nat × Nat)} {d mc ms : Nat} {P : xPo} {PX : xPx}
def xnofl (ty : FieldType) : Bool := match ty with
  | .double => false
  | .float => false
  | _ => true
theorem xnoflK : ∀ K, K < 7 → ∀ j, j < xN K → xnofl (xty K j) = true := by decide
theorem xdef {E : xE} {ty : FieldType} (h : xnofl ty = true) : defaultValue ty = xf E ty 0 0 := by cases ty <;> first | rfl | (simp [xnofl] at h)
theorem x_new {idx K : Nat} (hK : K < 7) (hcl : Cond.classLink own idx (xRn K) ∈ xTb) (hin : Cond.instantiable (xRn K) (xN K) ∈ xTb) (hini : Cond.initialized (xRn K) ∈ xTb) (hd : decode cc pc = .ok (.new idx, 3))
    (h : xX E ((nm, ret, hh), (d, mc, ms), P, PX) own cc mL (k + 1) (n + xN K) (pc + 3) lv (vr E g.2.2.2 :: st) (xng g K 0) (xz0 m g.2.2.2)) (hc : k + 1 ≤ mc := by decide) (hs : n + xN K ≤ ms := by decide) : xX E ((nm, ret, hh), (d, mc, ms), P, PX) own cc mL k n pc lv st g m := by
  intro p e s mi args below meth c0 H locs ls hC hW hL hl
  obtain ⟨hx, hb, -, -, hown, hts, -, -, -, hV, -⟩ := id hC
  have hKn := hV.1.1 K _ (xcl hK)
  refine W.newcK hx hb hown (hts _ hcl) (hts _ hin) (hts _ hini) rfl hd hc hs hKn.2.1 rfl fun H1 kC hkC e1 z1 o1 => ?_
  rw [← xad_n hV.2.1 hW]
  refine h p e s mi args below meth c0 H1 locs ls hC (hW.new hV.2.1 z1 o1 (fun e9 he => ?_)) hL hl
  unfold xc at he
  rw [if_pos hK] at he
  obtain rfl := Option.some.inj he
  refine ⟨_, xcl hK, (u_born (xty K) hts (xin_in hK) hKn hkC e1 (xtyok hK)).to (fun j hj => ?_)⟩
  show _ = vp_V ((List.range (xN K)).map _) j
  rw [xV_map hj]
  exact xdef (xnoflK K hK j hj)
/-- new int[], byte[], boolean[], long[] -/
theorem x_newa {at_ : ArrayType} {K t len : Nat} {ty : FieldType} {z : Int} {a0 : vp_A} (hty : newarray.typeOf at_ = ty) (hw : Cond.arrayClass ty ∈ xTb) (hK : xc E K len (fun _ => 0) (fun _ => 0) = some (.inl (E.2.2.1 K, a0))) (ht : (xtys E)[t]? = some (E.2.2.1 K, ty)) (hRA : ∀ U cA, va_RA U cA ty = (U.vm.findClass ("[" ++ ty.toString) = some cA)) (ha : ∀ cA : ClassId, vp_cell cA a0 = arrV cA len (fun _ => defaultValue ty)) (hz : z = (len : Int)) (hb2 : len < 2147483648) (hby : len * componentBytes ty ≤ 536870912) (hd : decode cc pc = .ok (.newarray at_, 2))
    (h : xX E ((nm, ret, hh), (d, mc, ms), P, PX) own cc mL (k + 1) (n + len) (pc + 2) lv (vr E g.2.2.2 :: st) (xng g K len) (xz0 m g.2.2.2)) (hc : k + 1 ≤ mc) (hs : n + len ≤ ms) : xX E ((nm, ret, hh), (d, mc, ms), P, PX) own cc mL k n pc lv (vi z :: st) g m := by
  intro p e s mi args below meth c0 H locs ls hC hW hL hl
  obtain ⟨hx, hb, -, -, hown, hts, -, -, -, hV, -⟩ := id hC
  subst hty
  have hn : ¬ Int32.ofInt z < 0 := by
    rw [ri_l0 (by omega)]
    omega
  refine va_newaK hx hb (hts _ hw) rfl hd rfl hn (ix_cl hz hb2) hby hc hs rfl fun H1 cA e1 z1 o1 hAr hNm => ?_
  have hcA : cA = E.2.2.1 K := by
    have h9 := (hV.1.2 t _ ht).2
    rw [hRA] at h9
    exact Option.some.inj (hNm.symm.trans h9)
  subst hcA
  have h10 := h p e s mi args below meth c0 H1 locs ls hC (hW.new hV.2.1 z1 o1 (fun e9 he => by
    rw [hK] at he
    obtain rfl := Option.some.inj he
    show H1[H.size]? = some (vp_cell _ _)
    rw [ha]
    exact e1)) hL hl
  rw [xad_n hV.2.1 hW] at h10
  exact h10
theorem x_newI {len : Nat} {z : Int} (hw : Cond.arrayClass .int ∈ xTb) (hz : z = (len : Int)) (hb2 : len ≤ 100000000) (hd : decode cc pc = .ok (.newarray .int, 2))
    (h : xX E ((nm, ret, hh), (d, mc, ms), P, PX) own cc mL (k + 1) (n + len) (pc + 2) lv (vr E g.2.2.2 :: st) (xng g 8 len) (xz0 m g.2.2.2)) (hc : k + 1 ≤ mc) (hs : n + len ≤ ms) : xX E ((nm, ret, hh), (d, mc, ms), P, PX) own cc mL k n pc lv (vi z :: st) g m :=
  x_newa (at_ := .int) (ty := .int) (K := 8) (t := 1) (a0 := (len, .inl (fun _ => 0))) rfl hw rfl rfl (fun _ _ => rfl) (fun _ => rfl) hz (by omega) (by show len * 4 ≤ _; omega) hd h hc hs
theorem x_newJ {len : Nat} {z : Int} (hw : Cond.arrayClass .long ∈ xTb) (hz : z = (len : Int)) (hb2 : len ≤ 10000000) (hd : decode cc pc = .ok (.newarray .long, 2))
    (h : xX E ((nm, ret, hh), (d, mc, ms), P, PX) own cc mL (k + 1) (n + len) (pc + 2) lv (vr E g.2.2.2 :: st) (xng g 9 len) (xz0 m g.2.2.2)) (hc : k + 1 ≤ mc) (hs : n + len ≤ ms) : xX E ((nm, ret, hh), (d, mc, ms), P, PX) own cc mL k n pc lv (vi z :: st) g m :=
  x_newa (at_ := .long) (ty := .long) (K := 9) (t := 2) (a0 := (len, .inr (.inl (fun _ => 0)))) rfl hw rfl rfl (fun _ _ => rfl) (fun _ => rfl) hz (by omega) (by show len * 8 ≤ _; omega) hd h hc hs
theorem x_newB {len : Nat} {z : Int} (hw : Cond.arrayClass .byte ∈ xTb) (hz : z = (len : Int)) (hb2 : len ≤ 10000000) (hd : decode cc pc = .ok (.newarray .byte, 2))
    (h : xX E ((nm, ret, hh), (d, mc, ms), P, PX) own cc mL (k + 1) (n + len) (pc + 2) lv (vr E g.2.2.2 :: st) (xng g 7 len) (xz0 m g.2.2.2)) (hc : k + 1 ≤ mc) (hs : n + len ≤ ms) : xX E ((nm, ret, hh), (d, mc, ms), P, PX) own cc mL k n pc lv (vi z :: st) g m :=
  x_newa (at_ := .byte) (ty := .byte) (K := 7) (t := 0) (a0 := (len, .inl (fun _ => 0))) rfl hw rfl rfl (fun _ _ => rfl) (fun _ => rfl) hz (by omega) (by show len * 1 ≤ _; omega) hd h hc hs
theorem x_newZ {len : Nat} {z : Int} (hw : Cond.arrayClass .boolean ∈ xTb) (hz : z = (len : Int)) (hb2 : len ≤ 10000000) (hd : decode cc pc = .ok (.newarray .boolean, 2))
    (h : xX E ((nm, ret, hh), (d, mc, ms), P, PX) own cc mL (k + 1) (n + len) (pc + 2) lv (vr E g.2.2.2 :: st) (xng g 10 len) (xz0 m g.2.2.2)) (hc : k + 1 ≤ mc) (hs : n + len ≤ ms) : xX E ((nm, ret, hh), (d, mc, ms), P, PX) own cc mL k n pc lv (vi z :: st) g m :=
  x_newa (at_ := .boolean) (ty := .boolean) (K := 10) (t := 3) (a0 := (len, .inl (fun _ => 0))) rfl hw rfl rfl (fun _ _ => rfl) (fun _ => rfl) hz (by omega) (by show len * 1 ≤ _; omega) hd h hc hs
/-- new Chart[] -/
theorem x_newR {idx len : Nat} {z : Int} (hcl : Cond.classLink own idx RX0 ∈ xTb) (hz : z = (len : Int)) (hb2 : len ≤ 10000000) (hd : decode cc pc = .ok (.anewarray idx, 3))
    (h : xX E ((nm, ret, hh), (d, mc, ms), P, PX) own cc mL (k + 1) (n + len) (pc + 3) lv (vr E g.2.2.2 :: st) (xng g 11 len) (xz0 m g.2.2.2)) (hc : k + 1 ≤ mc) (hs : n + len ≤ ms) : xX E ((nm, ret, hh), (d, mc, ms), P, PX) own cc mL k n pc lv (vi z :: st) g m := by
  intro p e s mi args below meth c0 H locs ls hC hW hL hl
  obtain ⟨hx, hb, -, -, hown, hts, -, -, -, hV, -⟩ := id hC
  have hn : ¬ Int32.ofInt z < 0 := by
    rw [ri_l0 (by omega)]
    omega
  have hcl9 := ix_cl hz (show len < 2147483648 by omega)
  refine W.anew hx hb hown (hts _ hcl) (va_AO.use hV.2.2.2.2.2.2.2.2.2.2.1) rfl hd rfl hn (by rw [hcl9]; omega) hc (by rw [hcl9]; exact hs) fun cA kA comp f1 f2 f3 f4 => ?_
  rw [hcl9]
  obtain ⟨kA2, comp2, f5, f6, f7, f8⟩ := (hV.1.2 4 _ rfl).2
  have hcA : cA = E.2.2.1 11 := Option.some.inj (f1.symm.trans f8)
  subst hcA
  generalize hH1 : H.push ({ cls := E.2.2.1 11, slots := Array.replicate len .null, vm := .none } : Cell) = H1
  have z1 : H1.size = H.size + 1 := by rw [← hH1, Array.size_push]
  have e1 : H1[H.size]? = some (arrV (E.2.2.1 11) len (fun _ => .null)) := by rw [← hH1, Array.getElem?_push_size, ← arrV_new]
  have o1 : ∀ q : Nat, q < H.size → H1[q]? = H[q]? := fun q hq => by rw [← hH1, Array.getElem?_push, if_neg (Nat.ne_of_lt hq)]
  have h10 := h p e s mi args below meth c0 H1 locs ls hC (hW.new hV.2.1 z1 o1 (fun e9 he => by
    rw [show xc E 11 len (fun _ => 0) (fun _ => 0) = some (.inl (E.2.2.1 11, len, .inr (.inr (.inr (.inr (fun _ => none)))))) from rfl] at he
    obtain rfl := Option.some.inj he
    exact e1)) hL hl
  rw [xad_n hV.2.1 hW] at h10
  exact h10
/-- a Chart put into an array of them -/
theorem x_aast {c j r : Nat} {z : Int} (hd : decode cc pc = .ok (.aastore, 1)) (hk : g.2.1 c = 11) (hr : g.2.1 r = 0) (hc : nS ≤ c) (hz : z = (j : Int)) (hj : j < g.2.2.1 c) (hb : j < 2147483648)
    (h : xX E J own cc mL k n (pc + 1) lv st (xur g c j r) m) : xX E J own cc mL k n pc lv (vr E r :: vi z :: vr E c :: st) g m := by
  intro p e s mi args below meth c0 H locs ls hC hW hL hl
  have hV := hC.2.2.2.2.2.2.2.2.2.1
  obtain ⟨h0, h1, h2⟩ := xarr hW (xc_11 hk)
  obtain ⟨r0, -, cellV, g1, g2, g3, -⟩ := xob hW hr (by decide)
  have hcls := (hV.1.1 0 _ (xcl (by decide))).2
  obtain ⟨kA, comp, k1, k2, k3, -⟩ := (hV.1.2 4 _ rfl).2
  have hcomp : comp = E.2.1.1 0 := Option.some.inj (k3.symm.trans hcls.1)
  subst hcomp
  obtain ⟨kC, hkC, -⟩ := hcls.2
  rw [vr_pos h0, vr_pos r0]
  have hin := ix_in hz hj hb
  refine W.aast hC.1 hC.2.1 h2 (fun q h => by cases h) (fun h => by cases h) k1 k2 rfl hkC ⟨fun q => hin (Or.inl q), by show _ < (arrV _ _ _).slots.size; rw [arrV_size, ix_cl hz hb]; exact hj⟩ g1 (fun q h => by rw [g3] at h; cases h) (by rw [g2]; exact hkC) (by rw [g2]; exact va_assign hcls) rfl rfl hd fun H1 e1 e2 e3 => ?_
  rw [ix_cl hz hb] at e1 ⊢
  refine h p e s mi args below meth c0 H1 _ ls hC ?_ (xloc hV.2.1 hc hL) hl
  refine hW.arr (F1 := fun i => va_rf (xo E ((xur g c j r).1 c i))) (a0 := (g.2.2.1 c, .inr (.inr (.inr (.inr (fun i => xo E ((xur g c j r).1 c i))))))) hV.2.1 hc h1 e1 e2 e3 rfl (fun a ha => xur_ne ha) (fun _ _ => rfl) (xc_11 hk) rfl (fun i => ?_)
  rw [xur_eq]
  by_cases q : i = j
  · simp only [q, if_true]
    exact vr_pos r0
  · simp only [q, if_false]
/-- Object.<init> -/
theorem x_obj {idx c : Nat} (hlk : Cond.methodLink own idx objectInit ∈ xTb) (hin : Cond.instanceMethod objectInit ∈ xTb) (hco : Cond.code objectInit ⟨#[0xb1]⟩ 1 none ∈ xTb) (hd : decode cc pc = .ok (.invokespecial idx, 3)) (hc : 0 < c) (hcat : (st.map fun v => v.category).sum ≤ 8) (hdp : 1 ≤ d)
    (h : xX E ((nm, ret, hh), (d, mc, ms), P, PX) own cc mL k n (pc + 3) lv st g m) : xX E ((nm, ret, hh), (d, mc, ms), P, PX) own cc mL k n pc lv (vr E c :: st) g m := by
  intro p e s mi args below meth c0 H locs ls hC hW hL hl
  obtain ⟨hx, hb, -, hml, hown, hts, -, -, -, hV, -⟩ := id hC
  rw [vr_pos hc]
  refine W.objInit hx hb hown (hts _ hlk) (hts _ hin) (hts _ hco) rfl (hl.1.trans hml.symm) rfl hd hdp ?_ (h p e s mi args below meth c0 H locs ls hC hW hL hl)
  show 2 * 0 + _ + 12 ≤ 64 * d
  omega
/-- a contract without exceptions -/
theorem xMet {E : xE} {Y : xY} {d mc ms : Nat} {as : List Value} {g : xG} {m : xM} {P : xPo} (h : xC E Y d mc ms as g m P (fun _ _ _ => False)) : Met E.1 Y.1 (xws Y) (xR d mc ms) (va_Pc as (xWd E g m)) (xQ E P) mc ms (xF E) := by
  intro p e a1 a2 a3 s mi args below a4 a5 a6 a7
  obtain ⟨n9, o, b1, b2, b3, b4⟩ := h p e a1 a2 a3 s mi args below a4 a5 a6 a7
  refine ⟨n9, o, b1, b2, b3, ?_⟩
  rcases b4 with b4 | ⟨q, -, En, ce, L, ⟨g', m', hf, -⟩, -⟩
  · exact b4
  · exact hf.elim
theorem x_afterI {p : Program} {e : Env} {s : State} {mi : MethodId} {args : Array Value} {below : List Frame} {meth : Method} {c : Code} {H : Heap} {locs : List Loc} {ls : Array Slot} {rest st0 : List Value} {mc' ms' : Nat} {a : Array Value}
    (hr : CallRun p E.1 e (xR d mc ms) s mi args below meth c H locs k n mc' ms' (F0 mi pc ls st0) rest (xQ E (fun r g' m' => xX E ((nm, ret, hh), (d, mc, ms), P, PX) own cc mL (k + mc') (n + ms') (pc + 3) lv (xpush r rest) g' m') a) (xF E))
    (hC : xCtx E nm ret hh own cc mL p s mi args meth c) (hL : ∀ q ∈ locs, xF E q.base) (hl : lv_has ls mL lv) :
    W p E.1 e (xR d mc ms) s mi args below meth c H locs k n (vx_MQ below (xQ E P) (xQX E PX) args s mc ms (xF E)) (F0 mi pc ls st0) := by
  intro T hT X
  obtain ⟨v, st₀, t, T', L, h0, X', hL', e1, ⟨r, g', m', hv, hp, hw⟩, st⟩ := hr T hT X
  cases hv
  have hLL : ∀ q ∈ locs ++ L, xF E q.base := fun q hq => (List.mem_append.mp hq).elim (hL q) (hL' q)
  obtain ⟨t2, a1, b1⟩ := hp p e s mi args below meth c T'.heap (locs ++ L) ls hC (by rw [e1]; exact hw) hLL hl T' rfl X'
  refine ⟨t2, st t2 ?_, b1⟩
  rw [xpush_eq]
  exact a1
/-- a constructor called; its class's own name is asked -/
theorem x_init {idx na c dc mc' ms' : Nat} {y : MethodName} {cy : ByteArray} {ml : Nat} {as rest : List Value} (hM : xMB own idx y cy ml none na) (hI : Cond.instanceMethod y ∈ xTb) (hn1 : y.name = "<init>") (hd : decode cc pc = .ok (.invokespecial idx, 3)) (h0 : 0 < c) (hst : st = as.reverse ++ vr E c :: rest) (hna : as.length = na) (hcat : (rest.map fun v => v.category).sum ≤ 8) (hdp : dc + 1 ≤ d) (hmc : k + mc' ≤ mc) (hms : n + ms' ≤ ms)
    (hc : xC E (y, cy, ml, none) dc mc' ms' (vr E c :: as) g m (fun r g' m' => xX E ((nm, ret, hh), (d, mc, ms), P, PX) own cc mL (k + mc') (n + ms') (pc + 3) lv (xpush r rest) g' m') (fun _ _ _ => False)) : xX E ((nm, ret, hh), (d, mc, ms), P, PX) own cc mL k n pc lv st g m := by
  intro p e s mi args below meth c0 H locs ls hC hW hL hl
  obtain ⟨hx, hb, -, hml, hown, hts, -, -, -, hV, -⟩ := id hC
  subst hst
  rw [vr_pos h0] at hc ⊢
  exact x_afterI (W.runI (As := as) (b := xad E c) ⟨hx, hb, hml, hown, hts⟩ (xMet hc) ⟨xcallB hM hts hdp, hn1, hts _ hI⟩ ⟨xblind, xPre hV hW⟩ rfl hna hl.1 rfl (lv_room hcat) hd ⟨hmc, hms⟩) hC hL hl
theorem xcallN {own host : String} {idx : Nat} {y : MethodName} {cy : ByteArray} {ml na d dc mc ms mc' ms' : Nat} {args : Array Value} {s : State} (hlk : (Cond.methodLinkNest own idx y host).before args s = true) (hini : Cond.initialized y.cls ∈ xTb) (hco : Cond.code y cy ml none ∈ xTb) (hy : y.cls ≠ "java/lang/invoke/MethodHandle" ∧ y.cls ≠ "java/lang/invoke/VarHandle") (hpar : (parseMethodDescriptor y.desc).map (fun d => d.parameters.length) = some na) (hm40 : ml ≤ 40) (hts : ∀ w ∈ xTb, w.before args s = true) (hdp : dc + 1 ≤ d) :
    va_CN (xR d mc ms) s args own idx y host cy ml none (xws (y, cy, ml, none)) (xR dc mc' ms') mc' ms' na := by
  refine ⟨⟨rfl, rfl, hdp, ?_, fun w hw a' U hW => ?_, List.mem_cons_self⟩, hts _ hco, hts _ hini, hy, fun sig h => ?_, hlk⟩
  · show 8 + (ml + 11) + 64 * dc ≤ 64 * d
    omega
  · rcases List.mem_cons.mp hw with rfl | hw
    · exact word_at hW (xTb_good hco) (hts _ hco)
    · exact word_at hW (xTb_good hw) (hts _ hw)
  · rw [h] at hpar
    exact (Option.some.inj hpar).symm
/-- .. a private one of a nest mate -/
theorem x_initN {idx na c dc mc' ms' : Nat} {y : MethodName} {cy : ByteArray} {ml : Nat} {as rest : List Value} (hlk : (own, idx) ∈ xnst) (hyy : y = yX0_init) (hini : Cond.initialized y.cls ∈ xTb) (hco : Cond.code y cy ml none ∈ xTb) (hy : y.cls ≠ "java/lang/invoke/MethodHandle" ∧ y.cls ≠ "java/lang/invoke/VarHandle") (hpar : (parseMethodDescriptor y.desc).map (fun d => d.parameters.length) = some na) (hm40 : ml ≤ 40) (hI : Cond.instanceMethod y ∈ xTb) (hn1 : y.name = "<init>") (hd : decode cc pc = .ok (.invokespecial idx, 3)) (h0 : 0 < c) (hst : st = as.reverse ++ vr E c :: rest) (hna : as.length = na) (hcat : (rest.map fun v => v.category).sum ≤ 8) (hdp : dc + 1 ≤ d) (hmc : k + mc' ≤ mc) (hms : n + ms' ≤ ms)
    (hc : xC E (y, cy, ml, none) dc mc' ms' (vr E c :: as) g m (fun r g' m' => xX E ((nm, ret, hh), (d, mc, ms), P, PX) own cc mL (k + mc') (n + ms') (pc + 3) lv (xpush r rest) g' m') (fun _ _ _ => False)) : xX E ((nm, ret, hh), (d, mc, ms), P, PX) own cc mL k n pc lv st g m := by
  intro p e s mi args below meth c0 H locs ls hC hW hL hl
  obtain ⟨hx, hb, -, hml, hown, hts, -, -, -, hV, -⟩ := id hC
  subst hst
  rw [vr_pos h0] at hc ⊢
  subst hyy
  have hr := va_runIN (As := as) (b := xad E c) (host := "TideGates") (p := p) (e := e) (below := below) (meth := meth) (H := H) (locs := locs) (cells := k) (slots := n) (g := F0 mi pc ls (as.reverse ++ Value.ref (xad E c) :: rest)) (rest := rest) (R := xR d mc ms) ⟨hx, hb, hml, hown, hts⟩ (xMet hc) ⟨xcallN (va_Nw.use rfl (hV.2.2.2.2.2.2.2.2.2.2.2.1 _ hlk)) hini hco hy hpar hm40 hts hdp, hn1, hts _ hI⟩ ⟨xblind, xPre hV hW⟩ rfl hna hl.1 rfl (lv_room hcat) hd ⟨hmc, hms⟩
  exact x_afterI (fun T hT X => by
    obtain ⟨v, st₀, t, T', L, h0, X', hL', e1, e2, hq, st⟩ := hr T hT X
    exact ⟨v, st₀, t, T', L, h0, X', hL', e1, hq, st⟩) hC hL hl
end XN
