section XH
/-- a number written -/
def xu (m : xM) (c j : Nat) (z : Int) : xM := fun a b => if a = c then (if b = j then z else m a b) else m a b
/-- a reference written -/
def xur (g : xG) (c j r : Nat) : xG := (fun a b => if a = c then (if b = j then r else g.1 a b) else g.1 a b, g.2)
theorem xu_ne {m : xM} {c j a : Nat} {z : Int} (h : a ≠ c) : xu m c j z a = m a := by funext b; simp [xu, h]
theorem xu_eq {m : xM} {c j : Nat} {z : Int} : xu m c j z c = fun b => if b = j then z else m c b := by funext b; simp [xu]
theorem xur_ne {g : xG} {c j a r : Nat} (h : a ≠ c) : (xur g c j r).1 a = g.1 a := by funext b; simp [xur, h]
theorem xur_eq {g : xG} {c j r : Nat} : (xur g c j r).1 c = fun b => if b = j then r else g.1 c b := by funext b; simp [xur]
theorem xf_0 {E : xE} {ty : FieldType} {z : Int} {r : Nat} (h : xkt ty = 0) : xf E ty z r = vi z := by cases ty <;> first | rfl | (simp [xkt] at h)
theorem xf_1 {E : xE} {ty : FieldType} {z : Int} {r : Nat} (h : xkt ty = 1) : xf E ty z r = vr E r := by cases ty <;> first | rfl | (simp [xkt] at h)
theorem xf_2 {E : xE} {ty : FieldType} {z : Int} {r : Nat} (h : xkt ty = 2) : xf E ty z r = vl z := by cases ty <;> first | rfl | (simp [xkt] at h)
theorem xV_map {N : Nat} {F : Nat → Value} {j : Nat} (h : j < N) : vp_V ((List.range N).map F) j = F j := by
  unfold vp_V
  simp [List.getD, h]
theorem xad_ne {E : xE} (hE : xEok E) {c c' : Nat} (h : nS ≤ c) (hne : c' ≠ c) : xad E c' ≠ xad E c := by
  have h1 := hE.1 c h
  by_cases q : nS ≤ c'
  · have h2 := hE.1 c' q
    omega
  · have h2 := hE.2 c' (by omega)
    omega
theorem vr_pos {E : xE} {c : Nat} (h : 0 < c) : vr E c = .ref (xad E c) := by
  obtain ⟨k, rfl⟩ : ∃ k, c = k + 1 := ⟨c - 1, by omega⟩
  rfl
/-- an object of the world -/
theorem xob {E : xE} {g : xG} {m : xM} {H : Heap} {c K : Nat} (hW : xWH E g m H) (hk : g.2.1 c = K) (hK : K < 7) : 0 < c ∧ c < g.2.2.2 ∧ t_OB (xad E c) (E.2.1.1 K) (xN K) (E.2.1.2 K) H (fun j => xf E (xty K j) (m c j) (g.1 c j)) := by
  subst hk
  obtain ⟨h1, h2, r, h3, h4⟩ := hW.2.2.2 c _ (by unfold xc; rw [if_pos hK])
  have e1 := Option.some.inj (h3.symm.trans (xcl hK))
  subst e1
  exact ⟨h1, h2, h4.to (fun j hj => xV_map hj)⟩
theorem xarr {E : xE} {g : xG} {m : xM} {H : Heap} {c : Nat} {x : ClassId × vp_A} (hW : xWH E g m H) (hx : xc E (g.2.1 c) (g.2.2.1 c) (m c) (g.1 c) = some (.inl x)) : 0 < c ∧ c < g.2.2.2 ∧ H[xad E c]? = some (vp_cell x.1 x.2) := hW.2.2.2 c _ hx
/-- the world behind a write to cell c -/
theorem xWH.put {E : xE} {g g1 : xG} {m m1 : xM} {H H1 : Heap} {c : Nat} (hE : xEok E) (hW : xWH E g m H) (hc : nS ≤ c) (hz : H1.size = H.size) (oq : ∀ q, q ≠ xad E c → H1[q]? = H[q]?)
    (hg : g1.2 = g.2) (hr : ∀ a, a ≠ c → g1.1 a = g.1 a) (hm : ∀ a, a ≠ c → m1 a = m a)
    (hn : ∀ e, xc E (g.2.1 c) (g.2.2.1 c) (m1 c) (g1.1 c) = some e → 0 < c ∧ c < g.2.2.2 ∧ va_at E.2.1 vwCl (xad E c, e) H1) : xWH E g1 m1 H1 := by
  obtain ⟨w1, w2, w3, w4⟩ := hW
  have hB : xB E ≤ xad E c := by have := hE.1 c hc; omega
  refine ⟨by rw [hg]; exact w1, by rw [hz, hg]; exact w2, fun q hq => by rw [oq q (by omega)]; exact w3 q hq, fun a e he => ?_⟩
  rw [hg] at he ⊢
  by_cases h : a = c
  · subst h
    exact hn e he
  · rw [hr a h, hm a h] at he
    obtain ⟨a1, a2, a3⟩ := w4 a e he
    exact ⟨a1, a2, a3.kept (oq _ (xad_ne hE hc h))⟩
theorem xin_in {K : Nat} (h : K < 7) : ∀ w ∈ u_ws (xRn K) (xTt K) (xN K), w ∈ xTb := by
  have a0 : ∀ w ∈ u_ws RX0 TX0 12, w ∈ lw_tbl ∧ goodWord w = true := by decide +kernel
  have a1 : ∀ w ∈ u_ws RX1 TX1 3, w ∈ lw_tbl ∧ goodWord w = true := by decide +kernel
  have a2 : ∀ w ∈ u_ws RX2 TX2 10, w ∈ lw_tbl ∧ goodWord w = true := by decide +kernel
  have a3 : ∀ w ∈ u_ws RX3 TX3 10, w ∈ lw_tbl ∧ goodWord w = true := by decide +kernel
  have a4 : ∀ w ∈ u_ws RX4 TX4 3, w ∈ lw_tbl ∧ goodWord w = true := by decide +kernel
  have a5 : ∀ w ∈ u_ws RX5 TX5 12, w ∈ lw_tbl ∧ goodWord w = true := by decide +kernel
  have a6 : ∀ w ∈ u_ws RX6 TX6 27, w ∈ lw_tbl ∧ goodWord w = true := by decide +kernel
  match K, h with
  | 0, _ => exact fun w hw => List.mem_filter.mpr (a0 w hw)
  | 1, _ => exact fun w hw => List.mem_filter.mpr (a1 w hw)
  | 2, _ => exact fun w hw => List.mem_filter.mpr (a2 w hw)
  | 3, _ => exact fun w hw => List.mem_filter.mpr (a3 w hw)
  | 4, _ => exact fun w hw => List.mem_filter.mpr (a4 w hw)
  | 5, _ => exact fun w hw => List.mem_filter.mpr (a5 w hw)
  | 6, _ => exact fun w hw => List.mem_filter.mpr (a6 w hw)
variable {E : xE} {J : xJ} {own : String} {cc : ByteArray} {mL k n pc : Nat} {lv : List (Nat × Value)} {st : List Value} {g : xG} {m : xM}
theorem x_get {idx K j t c : Nat} {v : Value} (hf : xFL own idx K j t) (hd : decode cc pc = .ok (.getfield idx, 3)) (hk : g.2.1 c = K) (hv : xf E (xty K j) (m c j) (g.1 c j) = v) (h : xX E J own cc mL k n (pc + 3) lv (v :: st) g m) : xX E J own cc mL k n pc lv (vr E c :: st) g m := by
  intro p e s mi args below meth c0 H locs ls hC hW hL hl
  obtain ⟨hK, hj, -, hlk⟩ := hf
  obtain ⟨hx, hb, -, -, hown, hts, -, -, -, hV, -⟩ := id hC
  obtain ⟨h0, -, cell, q1, q2, q3, q4⟩ := xob hW hk hK
  obtain ⟨hS, hfc, kC, hkC, hkind⟩ := hV.1.1 K _ (xcl hK)
  obtain ⟨cf, kf, fi, f, hi, hsl⟩ := hS j hj
  rw [vr_pos h0]
  refine W.getf hx hb hown (hts _ hlk) hi (u_facts hfc hkC (u_lays hts (xin_in hK) hj) hi).1 q1 (by rw [q3]; exact fun h => by cases h) (v := v) ?_ rfl rfl hd (h p e s mi args below meth c0 H locs ls hC hW hL hl)
  rw [hsl, q4 j hj]
  exact congrArg some hv
theorem x_getI {idx K j c : Nat} (hf : xFL own idx K j 0) (hd : decode cc pc = .ok (.getfield idx, 3)) (hk : g.2.1 c = K) (h : xX E J own cc mL k n (pc + 3) lv (vi (m c j) :: st) g m) : xX E J own cc mL k n pc lv (vr E c :: st) g m := x_get hf hd hk (xf_0 hf.2.2.1) h
theorem x_getR {idx K j c r : Nat} (hf : xFL own idx K j 1) (hd : decode cc pc = .ok (.getfield idx, 3)) (hk : g.2.1 c = K) (hr : g.1 c j = r) (h : xX E J own cc mL k n (pc + 3) lv (vr E r :: st) g m) : xX E J own cc mL k n pc lv (vr E c :: st) g m := x_get hf hd hk (by rw [xf_1 hf.2.2.1, hr]) h
theorem x_getL {idx K j c : Nat} (hf : xFL own idx K j 2) (hd : decode cc pc = .ok (.getfield idx, 3)) (hk : g.2.1 c = K) (h : xX E J own cc mL k n (pc + 3) lv (vl (m c j) :: st) g m) : xX E J own cc mL k n pc lv (vr E c :: st) g m := x_get hf hd hk (xf_2 hf.2.2.1) h
/-- a field written (not final; final in the class's own constructor) -/
theorem x_put {idx K j t c : Nat} {v : Value} {m1 : xM} {g1 : xG} (hf : xFL own idx K j t) (hd : decode cc pc = .ok (.putfield idx, 3)) (hk : g.2.1 c = K) (hc : nS ≤ c)
    (hfin : ((xTt K) j).2.2.2 = false ∨ (((xTt K) j).2.2.2 = true ∧ J.1.1 = "<init>" ∧ ((xTt K) j).1 = own)) (hnv : narrow (xty K j) v = v) (hfit : fits (xty K j) v = true)
    (hg : g1.2 = g.2) (hr : ∀ a, a ≠ c → g1.1 a = g.1 a) (hm : ∀ a, a ≠ c → m1 a = m a) (hnew : ∀ i, i < xN K → xf E (xty K i) (m1 c i) (g1.1 c i) = if i = j then v else xf E (xty K i) (m c i) (g.1 c i))
    (h : xX E J own cc mL k n (pc + 3) lv st g1 m1) : xX E J own cc mL k n pc lv (v :: vr E c :: st) g m := by
  intro p e s mi args below meth c0 H locs ls hC hW hL hl
  obtain ⟨hK, hj, -, hlk⟩ := hf
  obtain ⟨hx, hb, -, -, hown, hts, -, -, hname, hV, -⟩ := id hC
  obtain ⟨h0, hlt, cell, q1, q2, q3, q4⟩ := xob hW hk hK
  obtain ⟨hS, hfc, kC, hkC, hkind⟩ := hV.1.1 K _ (xcl hK)
  obtain ⟨cf, kf, fi, f, hi, hsl⟩ := hS j hj
  have hap := va_apart (own := own) hts (xin_in hK) (xty K) (xtyok hK) (xnm hK) hV.1 (xcl hK)
  have hlay := hts _ (xin_in hK _ (u_in_lay hj))
  have hst := (u_facts hfc hkC (u_lays hts (xin_in hK) hj) hi).1
  have hd1 := xtyok hK j hj
  rw [vr_pos h0]
  have key : ∀ H1 : Heap, H1[xad E c]? = some (cell.setSlot f.slot v) → H1.size = H.size → (∀ q, q ≠ xad E c → H1[q]? = H[q]?) → W p E.1 e (xR J.2.1.1 J.2.1.2.1 J.2.1.2.2) s mi args below meth c0 H1 (locs ++ [⟨xad E c, f.slot⟩]) k n (vx_MQ below (xQ E J.2.2.1) (xQX E J.2.2.2) args s J.2.1.2.1 J.2.1.2.2 (xF E)) (F0 mi (pc + 3) ls st) := by
    intro H1 e1 e2 e3
    rw [hsl] at e1
    have hW1 : xWH E g1 m1 H1 := by
      refine hW.put hV.2.1 hc e2 e3 hg hr hm (fun e9 he => ?_)
      rw [hk] at he
      unfold xc at he
      rw [if_pos hK] at he
      obtain rfl := Option.some.inj he
      refine ⟨h0, hlt, _, xcl hK, t_OB.to (V := updV (fun i => xf E (xty K i) (m c i) (g.1 c i)) j v) ⟨_, e1, q2, q3, t_set q4 hap hj v⟩ (fun i hi9 => ?_)⟩
      show _ = vp_V ((List.range (xN K)).map _) i
      rw [xV_map hi9, hnew i hi9]
      rfl
    refine h p e s mi args below meth c0 H1 _ ls hC hW1 (fun q hq => ?_) hl
    rcases List.mem_append.mp hq with h1 | h1
    · exact hL q h1
    · rw [List.mem_singleton.mp h1]
      have := hV.2.1.1 c hc
      show xB E ≤ xad E c
      omega
  unfold u_lay at hlay
  rcases hfin with hfin | ⟨hfin, hin2, hdecl⟩
  · rw [if_neg (by rw [hfin]; decide)] at hlay
    have h6 := u_store hfc hkC hkind hlay hi hd1 hnv hfit
    exact W.putK hx hb (f := f) ⟨hown, hts _ hlk, ⟨_, _, _, hi⟩, hst⟩ (by rw [q2]; exact h6) q1 q3 (by rw [hsl]; exact k2_hasslot (q4 j hj)) rfl rfl hd key
  · rw [if_pos hfin] at hlay
    have hcf : mi.cls = cf := by
      obtain ⟨_, _, c', _, _, _, -, -, hf', -, -, -, hown2, -⟩ := Cond.laysFinal_spec hlay
      have e1 : c' = cf := by have := hi.symm.trans hf'; simp at this; exact this.1.symm
      rw [hdecl] at hown2
      rw [← e1]; exact Option.some.inj (hown.symm.trans hown2)
    have h6 := u_fits hfc hkC hkind (Or.inr hlay) hi hd1 hnv hfit
    exact W.putFinK hx hb hown (hts _ hlk) hi hst hcf (hname.trans hin2) (by rw [q2]; exact h6) q1 q3 (by rw [hsl]; exact k2_hasslot (q4 j hj)) rfl rfl hd key
end XH
