section XI
variable {E : xE} {J : xJ} {own : String} {cc : ByteArray} {mL k n pc : Nat} {lv : List (Nat × Value)} {st : List Value} {g : xG} {m : xM}
theorem xnew_u {E : xE} {g : xG} {m : xM} {c j K : Nat} {z : Int} {v : Value} (hv : xf E (xty K j) z (g.1 c j) = v) : ∀ i, i < xN K → xf E (xty K i) (xu m c j z c i) (g.1 c i) = if i = j then v else xf E (xty K i) (m c i) (g.1 c i) := by
  intro i _
  rw [xu_eq]
  by_cases h : i = j
  · subst h; simp [hv]
  · simp [h]
theorem xnew_r {E : xE} {g : xG} {m : xM} {c j K r : Nat} {v : Value} (hv : xf E (xty K j) (m c j) r = v) : ∀ i, i < xN K → xf E (xty K i) (m c i) ((xur g c j r).1 c i) = if i = j then v else xf E (xty K i) (m c i) (g.1 c i) := by
  intro i _
  rw [xur_eq]
  by_cases h : i = j
  · subst h; simp [hv]
  · simp [h]
/-- may field j of class K be written here -/
def xfin (K j : Nat) (nm own : String) : Bool := !((xTt K) j).2.2.2 || (decide (nm = "<init>") && decide (((xTt K) j).1 = own))
theorem xfin_ok {K j : Nat} {nm own : String} (h : xfin K j nm own = true) : ((xTt K) j).2.2.2 = false ∨ (((xTt K) j).2.2.2 = true ∧ nm = "<init>" ∧ ((xTt K) j).1 = own) := by
  unfold xfin at h
  cases hq : ((xTt K) j).2.2.2 with
  | false => exact Or.inl rfl
  | true =>
    rw [hq] at h
    simp only [Bool.not_true, Bool.false_or, Bool.and_eq_true, decide_eq_true_eq] at h
    exact Or.inr ⟨rfl, h.1, h.2⟩
theorem x_putI {idx K j c : Nat} {z : Int} (hf : xFL own idx K j 0) (hd : decode cc pc = .ok (.putfield idx, 3)) (hk : g.2.1 c = K) (hc : nS ≤ c) (hfin : xfin K j J.1.1 own = true) (hty : xty K j = .int)
    (h : xX E J own cc mL k n (pc + 3) lv st g (xu m c j z)) : xX E J own cc mL k n pc lv (vi z :: vr E c :: st) g m :=
  x_put (v := vi z) hf hd hk hc (xfin_ok hfin) (by rw [hty]; rfl) (by rw [hty]; rfl) rfl (fun _ _ => rfl) (fun a ha => xu_ne ha) (xnew_u (xf_0 hf.2.2.1)) h
theorem x_putZ {idx K j c : Nat} {z : Int} (hf : xFL own idx K j 0) (hd : decode cc pc = .ok (.putfield idx, 3)) (hk : g.2.1 c = K) (hc : nS ≤ c) (hfin : xfin K j J.1.1 own = true) (hty : xty K j = .boolean) (hz : z = 0 ∨ z = 1)
    (h : xX E J own cc mL k n (pc + 3) lv st g (xu m c j z)) : xX E J own cc mL k n pc lv (vi z :: vr E c :: st) g m :=
  x_put (v := vi z) hf hd hk hc (xfin_ok hfin) (by rw [hty]; rcases hz with rfl | rfl <;> decide) (by rw [hty]; rcases hz with rfl | rfl <;> decide) rfl (fun _ _ => rfl) (fun a ha => xu_ne ha) (xnew_u (xf_0 hf.2.2.1)) h
theorem x_putL {idx K j c : Nat} {z : Int} (hf : xFL own idx K j 2) (hd : decode cc pc = .ok (.putfield idx, 3)) (hk : g.2.1 c = K) (hc : nS ≤ c) (hfin : xfin K j J.1.1 own = true) (hty : xty K j = .long)
    (h : xX E J own cc mL k n (pc + 3) lv st g (xu m c j z)) : xX E J own cc mL k n pc lv (vl z :: vr E c :: st) g m :=
  x_put (v := vl z) hf hd hk hc (xfin_ok hfin) (by rw [hty]; rfl) (by rw [hty]; rfl) rfl (fun _ _ => rfl) (fun a ha => xu_ne ha) (xnew_u (xf_2 hf.2.2.1)) h
theorem vr_nar {E : xE} {r : Nat} {ty : FieldType} (h : xkt ty = 1) : narrow ty (vr E r) = vr E r := by
  unfold vr
  cases xo E r <;> cases ty <;> first | rfl | (simp [xkt] at h)
theorem vr_fit {E : xE} {r : Nat} {ty : FieldType} (h : xkt ty = 1) : fits ty (vr E r) = true := by
  unfold vr
  cases xo E r <;> cases ty <;> first | rfl | (simp [xkt] at h)
theorem x_putR {idx K j c r : Nat} (hf : xFL own idx K j 1) (hd : decode cc pc = .ok (.putfield idx, 3)) (hk : g.2.1 c = K) (hc : nS ≤ c) (hfin : xfin K j J.1.1 own = true)
    (h : xX E J own cc mL k n (pc + 3) lv st (xur g c j r) m) : xX E J own cc mL k n pc lv (vr E r :: vr E c :: st) g m :=
  x_put (v := vr E r) (g1 := xur g c j r) hf hd hk hc (xfin_ok hfin) (vr_nar hf.2.2.1) (vr_fit hf.2.2.1) rfl (fun a ha => xur_ne ha) (fun _ _ => rfl) (xnew_r (xf_1 hf.2.2.1)) h
/-! arrays -/
theorem xc_7 {E : xE} {K len : Nat} {f : Nat → Int} {r : Nat → Nat} (h : K = 7) : xc E K len f r = some (.inl (E.2.2.1 7, len, .inl (fun j => Int32.ofInt (f j)))) := by subst h; rfl
theorem xc_8 {E : xE} {K len : Nat} {f : Nat → Int} {r : Nat → Nat} (h : K = 8) : xc E K len f r = some (.inl (E.2.2.1 8, len, .inl (fun j => Int32.ofInt (f j)))) := by subst h; rfl
theorem xc_9 {E : xE} {K len : Nat} {f : Nat → Int} {r : Nat → Nat} (h : K = 9) : xc E K len f r = some (.inl (E.2.2.1 9, len, .inr (.inl (fun j => Int64.ofInt (f j))))) := by subst h; rfl
theorem xc_10 {E : xE} {K len : Nat} {f : Nat → Int} {r : Nat → Nat} (h : K = 10) : xc E K len f r = some (.inl (E.2.2.1 10, len, .inl (fun j => Int32.ofInt (f j)))) := by subst h; rfl
theorem xc_11 {E : xE} {K len : Nat} {f : Nat → Int} {r : Nat → Nat} (h : K = 11) : xc E K len f r = some (.inl (E.2.2.1 11, len, .inr (.inr (.inr (.inr (fun j => xo E (r j))))))) := by subst h; rfl
theorem ofN_I (n : Nat) : Int32.ofNat n = Int32.ofInt (n : Int) := by
  apply Int32.toBitVec_inj.mp
  show BitVec.ofNat 32 n = BitVec.ofInt 32 (n : Int)
  rw [BitVec.ofInt_natCast]
theorem ix_in {z : Int} {j N : Nat} (hz : z = (j : Int)) (hj : j < N) (hb : j < 2147483648) : vp_in (Int32.ofInt z) N := by
  subst hz
  exact vp_in_iff.mpr (by rw [ri_to (by omega)]; omega)
theorem ix_cl {z : Int} {j : Nat} (hz : z = (j : Int)) (hb : j < 2147483648) : (Int32.ofInt z).toNatClampNeg = j := by
  subst hz
  exact pk_cl j rfl hb
theorem xP1 {D : va_G} {cl : List vw_C} {q : Nat × va_E} {H : Heap} (h : va_at D cl q H) : va_P D cl [q] H := by
  intro k r hk
  match k, hk with
  | 0, hk => cases hk; exact h
theorem x_iald {c j : Nat} {z : Int} (hd : decode cc pc = .ok (.iaload, 1)) (hk : g.2.1 c = 8) (hz : z = (j : Int)) (hj : j < g.2.2.1 c) (hb : j < 2147483648)
    (h : xX E J own cc mL k n (pc + 1) lv (vi (m c j) :: st) g m) : xX E J own cc mL k n pc lv (vi z :: vr E c :: st) g m := by
  intro p e s mi args below meth c0 H locs ls hC hW hL hl
  obtain ⟨h0, h1, h2⟩ := hW.2.2.2 c _ (xc_8 hk)
  rw [vr_pos h0]
  refine va_iald hC.1 hC.2.1 hC.2.2.2.2.2.2.2.2.2.1.1 (xP1 h2) 0 1 rfl rfl (ix_in hz hj hb) hd ?_
  rw [ix_cl hz hb]
  exact h p e s mi args below meth c0 H locs ls hC hW hL hl
theorem x_bald {c j : Nat} {z : Int} (hd : decode cc pc = .ok (.baload, 1)) (hk : g.2.1 c = 7) (hz : z = (j : Int)) (hj : j < g.2.2.1 c) (hb : j < 2147483648)
    (h : xX E J own cc mL k n (pc + 1) lv (vi (m c j) :: st) g m) : xX E J own cc mL k n pc lv (vi z :: vr E c :: st) g m := by
  intro p e s mi args below meth c0 H locs ls hC hW hL hl
  obtain ⟨h0, h1, h2⟩ := hW.2.2.2 c _ (xc_7 hk)
  rw [vr_pos h0]
  refine va_bald hC.1 hC.2.1 hC.2.2.2.2.2.2.2.2.2.1.1 (xP1 h2) 0 0 rfl rfl (ix_in hz hj hb) hd ?_
  rw [ix_cl hz hb]
  exact h p e s mi args below meth c0 H locs ls hC hW hL hl
theorem x_zald {c j : Nat} {z : Int} (hd : decode cc pc = .ok (.baload, 1)) (hk : g.2.1 c = 10) (hz : z = (j : Int)) (hj : j < g.2.2.1 c) (hb : j < 2147483648)
    (h : xX E J own cc mL k n (pc + 1) lv (vi (m c j) :: st) g m) : xX E J own cc mL k n pc lv (vi z :: vr E c :: st) g m := by
  intro p e s mi args below meth c0 H locs ls hC hW hL hl
  obtain ⟨h0, h1, h2⟩ := hW.2.2.2 c _ (xc_10 hk)
  rw [vr_pos h0]
  refine va_zald hC.1 hC.2.1 hC.2.2.2.2.2.2.2.2.2.1.1 (xP1 h2) 0 3 rfl rfl (ix_in hz hj hb) hd ?_
  rw [ix_cl hz hb]
  exact h p e s mi args below meth c0 H locs ls hC hW hL hl
theorem x_lald {c j : Nat} {z : Int} (hd : decode cc pc = .ok (.laload, 1)) (hk : g.2.1 c = 9) (hz : z = (j : Int)) (hj : j < g.2.2.1 c) (hb : j < 2147483648)
    (h : xX E J own cc mL k n (pc + 1) lv (vl (m c j) :: st) g m) : xX E J own cc mL k n pc lv (vi z :: vr E c :: st) g m := by
  intro p e s mi args below meth c0 H locs ls hC hW hL hl
  obtain ⟨h0, h1, h2⟩ := hW.2.2.2 c _ (xc_9 hk)
  rw [vr_pos h0]
  refine va_lald hC.1 hC.2.1 hC.2.2.2.2.2.2.2.2.2.1.1 (xP1 h2) 0 2 rfl rfl (ix_in hz hj hb) hd ?_
  rw [ix_cl hz hb]
  exact h p e s mi args below meth c0 H locs ls hC hW hL hl
theorem x_aald {c j r : Nat} {z : Int} (hd : decode cc pc = .ok (.aaload, 1)) (hk : g.2.1 c = 11) (hz : z = (j : Int)) (hj : j < g.2.2.1 c) (hb : j < 2147483648) (hr : g.1 c j = r)
    (h : xX E J own cc mL k n (pc + 1) lv (vr E r :: st) g m) : xX E J own cc mL k n pc lv (vi z :: vr E c :: st) g m := by
  intro p e s mi args below meth c0 H locs ls hC hW hL hl
  obtain ⟨h0, h1, h2⟩ := hW.2.2.2 c _ (xc_11 hk)
  rw [vr_pos h0]
  refine va_aldq hC.1 hC.2.1 hC.2.2.2.2.2.2.2.2.2.1.1 (xP1 h2) 0 4 rfl rfl (ix_in hz hj hb) hd ?_
  rw [ix_cl hz hb, hr]
  exact h p e s mi args below meth c0 H locs ls hC hW hL hl
theorem x_alen {c t N : Nat} (hd : decode cc pc = .ok (.arraylength, 1)) (hk : g.2.1 c = t) (ht : 7 ≤ t ∧ t ≤ 11) (hN : g.2.2.1 c = N)
    (h : xX E J own cc mL k n (pc + 1) lv (vi (N : Int) :: st) g m) : xX E J own cc mL k n pc lv (vr E c :: st) g m := by
  intro p e s mi args below meth c0 H locs ls hC hW hL hl
  have hh := h p e s mi args below meth c0 H locs ls hC hW hL hl
  subst hN
  have hv : Int32.ofNat (g.2.2.1 c) = Int32.ofInt (g.2.2.1 c : Int) := ofN_I _
  rcases (by omega : t = 7 ∨ t = 8 ∨ t = 9 ∨ t = 10 ∨ t = 11) with rfl | rfl | rfl | rfl | rfl
  · obtain ⟨h0, h1, h2⟩ := hW.2.2.2 c _ (xc_7 hk)
    rw [vr_pos h0]
    exact va_alen hC.1 hC.2.1 hC.2.2.2.2.2.2.2.2.2.1.1 (xP1 h2) 0 0 rfl rfl hv hd hh
  · obtain ⟨h0, h1, h2⟩ := hW.2.2.2 c _ (xc_8 hk)
    rw [vr_pos h0]
    exact va_alen hC.1 hC.2.1 hC.2.2.2.2.2.2.2.2.2.1.1 (xP1 h2) 0 1 rfl rfl hv hd hh
  · obtain ⟨h0, h1, h2⟩ := hW.2.2.2 c _ (xc_9 hk)
    rw [vr_pos h0]
    exact va_alen hC.1 hC.2.1 hC.2.2.2.2.2.2.2.2.2.1.1 (xP1 h2) 0 2 rfl rfl hv hd hh
  · obtain ⟨h0, h1, h2⟩ := hW.2.2.2 c _ (xc_10 hk)
    rw [vr_pos h0]
    exact va_alen hC.1 hC.2.1 hC.2.2.2.2.2.2.2.2.2.1.1 (xP1 h2) 0 3 rfl rfl hv hd hh
  · obtain ⟨h0, h1, h2⟩ := hW.2.2.2 c _ (xc_11 hk)
    rw [vr_pos h0]
    exact va_alen hC.1 hC.2.1 hC.2.2.2.2.2.2.2.2.2.1.1 (xP1 h2) 0 4 rfl rfl hv hd hh
/-- static arrays of ints -/
theorem x_salen {c : Nat} (hd : decode cc pc = .ok (.arraylength, 1)) (hc : 0 < c) (hc6 : c < 6)
    (h : xX E J own cc mL k n (pc + 1) lv (vi ((E.2.2.2.2.2 c).1 : Int) :: st) g m) : xX E J own cc mL k n pc lv (vr E c :: st) g m := by
  intro p e s mi args below meth c0 H locs ls hC hW hL hl
  have hX := hC.2.2.2.2.2.2.2.2.2.1.2.2.2.2.2.2.1 c hc hc6
  have hB : xad E c < xB E := hC.2.2.2.2.2.2.2.2.2.1.2.1.2 c (by unfold nS; omega)
  rw [vr_pos hc]
  have hX1 : vy_X (xad E c) (E.2.2.2.2.2 c).1 (fun j => Int32.ofInt ((E.2.2.2.2.2 c).2 j)) s H := hX.kept (hW.2.2.1 _ hB)
  obtain ⟨scr, a1, a2, a3, a4, a5⟩ := hX1
  exact W.alen (n := Int32.ofInt ((E.2.2.2.2.2 c).1 : Int)) hC.1 hC.2.1 a1 a2 (a4.2.trans (ofN_I _)) rfl rfl hd (h p e s mi args below meth c0 H locs ls hC hW hL hl)
theorem x_siald {c j : Nat} {z : Int} (hd : decode cc pc = .ok (.iaload, 1)) (hc : 0 < c) (hc6 : c < 6) (hz : z = (j : Int)) (hj : j < (E.2.2.2.2.2 c).1) (hb : j < 2147483648)
    (h : xX E J own cc mL k n (pc + 1) lv (vi ((E.2.2.2.2.2 c).2 j) :: st) g m) : xX E J own cc mL k n pc lv (vi z :: vr E c :: st) g m := by
  intro p e s mi args below meth c0 H locs ls hC hW hL hl
  have hX := hC.2.2.2.2.2.2.2.2.2.1.2.2.2.2.2.2.1 c hc hc6
  have hB : xad E c < xB E := hC.2.2.2.2.2.2.2.2.2.1.2.1.2 c (by unfold nS; omega)
  rw [vr_pos hc]
  have hX1 : vy_X (xad E c) (E.2.2.2.2.2 c).1 (fun j => Int32.ofInt ((E.2.2.2.2.2 c).2 j)) s H := hX.kept (hW.2.2.1 _ hB)
  obtain ⟨scr, a1, a2, a3, a4, a5⟩ := hX1
  refine W.iald (v := vi ((E.2.2.2.2.2 c).2 j)) hC.1 hC.2.1 a1 a2 a3 (fun q => ix_in hz hj hb (q.elim Or.inl (fun h => Or.inr (Nat.le_trans a4.1 h)))) (by rw [ix_cl hz hb]; exact a5 j hj) rfl rfl hd (h p e s mi args below meth c0 H locs ls hC hW hL hl)
/-- the world behind a write to an array -/
theorem xWH.arr {E : xE} {g g1 : xG} {m m1 : xM} {H H1 : Heap} {c j : Nat} {x : Value} {F F1 : Nat → Value} {cA : ClassId} {N : Nat} {a0 : vp_A} (hE : xEok E) (hW : xWH E g m H) (hc : nS ≤ c) (hlt : c < g.2.2.2)
    (he : H1[xad E c]? = some ((arrV cA N F).setSlot j x)) (hz : H1.size = H.size) (oq : ∀ q, q ≠ xad E c → H1[q]? = H[q]?)
    (hg : g1.2 = g.2) (hr : ∀ a, a ≠ c → g1.1 a = g.1 a) (hm : ∀ a, a ≠ c → m1 a = m a)
    (hn : xc E (g.2.1 c) (g.2.2.1 c) (m1 c) (g1.1 c) = some (.inl (cA, a0))) (hcell : vp_cell cA a0 = arrV cA N F1) (hF : ∀ i, F1 i = if i = j then x else F i) : xWH E g1 m1 H1 := by
  refine hW.put hE hc hz oq hg hr hm (fun e9 h9 => ?_)
  rw [hn] at h9
  obtain rfl := Option.some.inj h9
  refine ⟨by unfold nS at hc; omega, hlt, ?_⟩
  show H1[xad E c]? = some (vp_cell cA a0)
  rw [he, hcell, arrV_store]
  congr 2
  funext i
  rw [hF i]
  rfl
theorem xloc {E : xE} (hE : xEok E) {c i : Nat} {locs : List Loc} (hc : nS ≤ c) (hL : ∀ q ∈ locs, xF E q.base) : ∀ q ∈ locs ++ [⟨xad E c, i⟩], xF E q.base := by
  intro q hq
  rcases List.mem_append.mp hq with h1 | h1
  · exact hL q h1
  · rw [List.mem_singleton.mp h1]
    have := hE.1 c hc
    show xB E ≤ xad E c
    omega
theorem x_iast {c j : Nat} {z x : Int} (hd : decode cc pc = .ok (.iastore, 1)) (hk : g.2.1 c = 8) (hc : nS ≤ c) (hz : z = (j : Int)) (hj : j < g.2.2.1 c) (hb : j < 2147483648)
    (h : xX E J own cc mL k n (pc + 1) lv st g (xu m c j x)) : xX E J own cc mL k n pc lv (vi x :: vi z :: vr E c :: st) g m := by
  intro p e s mi args below meth c0 H locs ls hC hW hL hl
  have hV := hC.2.2.2.2.2.2.2.2.2.1
  have hc8 : xc E (g.2.1 c) (g.2.2.1 c) (m c) (g.1 c) = some (.inl (E.2.2.1 8, g.2.2.1 c, .inl (fun i => Int32.ofInt (m c i)))) := xc_8 hk
  obtain ⟨h0, h1, h2⟩ := xarr hW hc8
  rw [vr_pos h0]
  refine W.iast hC.1 hC.2.1 h2 ((hV.1.2 1 _ rfl).1 _ (fun i => .int (Int32.ofInt (m c i)))) (fun q => by cases q) (by show ¬ (_ ∨ (arrV _ _ _).slots.size ≤ _); rw [arrV_size]; exact ix_in hz hj hb) rfl rfl hd fun H1 e1 e2 e3 => ?_
  rw [ix_cl hz hb] at e1 ⊢
  refine h p e s mi args below meth c0 H1 _ ls hC ?_ (xloc hV.2.1 hc hL) hl
  refine hW.arr (F1 := fun i => .int (Int32.ofInt (xu m c j x c i))) (a0 := (g.2.2.1 c, .inl (fun i => Int32.ofInt (xu m c j x c i)))) hV.2.1 hc h1 e1 e2 e3 rfl (fun _ _ => rfl) (fun a ha => xu_ne ha) (xc_8 hk) rfl (fun i => ?_)
  rw [xu_eq]
  by_cases q : i = j <;> simp [q]
theorem x_last {c j : Nat} {z x : Int} (hd : decode cc pc = .ok (.lastore, 1)) (hk : g.2.1 c = 9) (hc : nS ≤ c) (hz : z = (j : Int)) (hj : j < g.2.2.1 c) (hb : j < 2147483648)
    (h : xX E J own cc mL k n (pc + 1) lv st g (xu m c j x)) : xX E J own cc mL k n pc lv (vl x :: vi z :: vr E c :: st) g m := by
  intro p e s mi args below meth c0 H locs ls hC hW hL hl
  have hV := hC.2.2.2.2.2.2.2.2.2.1
  have hc8 : xc E (g.2.1 c) (g.2.2.1 c) (m c) (g.1 c) = some (.inl (E.2.2.1 9, g.2.2.1 c, .inr (.inl (fun i => Int64.ofInt (m c i))))) := xc_9 hk
  obtain ⟨h0, h1, h2⟩ := xarr hW hc8
  rw [vr_pos h0]
  refine W.last hC.1 hC.2.1 h2 ((hV.1.2 2 _ rfl).1 _ (fun i => .long (Int64.ofInt (m c i)))) (fun q => by cases q) (by show ¬ (_ ∨ (arrV _ _ _).slots.size ≤ _); rw [arrV_size]; exact ix_in hz hj hb) rfl rfl hd fun H1 e1 e2 e3 => ?_
  rw [ix_cl hz hb] at e1 ⊢
  refine h p e s mi args below meth c0 H1 _ ls hC ?_ (xloc hV.2.1 hc hL) hl
  refine hW.arr (F1 := fun i => .long (Int64.ofInt (xu m c j x c i))) (a0 := (g.2.2.1 c, .inr (.inl (fun i => Int64.ofInt (xu m c j x c i))))) hV.2.1 hc h1 e1 e2 e3 rfl (fun _ _ => rfl) (fun a ha => xu_ne ha) (xc_9 hk) rfl (fun i => ?_)
  rw [xu_eq]
  by_cases q : i = j <;> simp [q]
theorem nar_byte {x : Int} (hx : -128 ≤ x ∧ x ≤ 127) : narrow .byte (.int (Int32.ofInt x)) = .int (Int32.ofInt x) := by
  have e1 : (Int32.ofInt x).toInt8.toInt32 = Int32.ofInt x := by
    rw [Int32.toInt8_ofInt]
    apply Int32.toInt_inj.mp
    rw [ri_to (by omega)]
    simp
    rw [show Int8.size = 256 from rfl, Int.bmod_def]
    split <;> omega
  show Value.int (Int32.ofInt x).toInt8.toInt32 = _
  rw [e1]
theorem x_bast {c j : Nat} {z x : Int} (hd : decode cc pc = .ok (.bastore, 1)) (hk : g.2.1 c = 7) (hc : nS ≤ c) (hz : z = (j : Int)) (hj : j < g.2.2.1 c) (hb : j < 2147483648) (hx : -128 ≤ x ∧ x ≤ 127)
    (h : xX E J own cc mL k n (pc + 1) lv st g (xu m c j x)) : xX E J own cc mL k n pc lv (vi x :: vi z :: vr E c :: st) g m := by
  intro p e s mi args below meth c0 H locs ls hC hW hL hl
  have hV := hC.2.2.2.2.2.2.2.2.2.1
  have hc8 : xc E (g.2.1 c) (g.2.2.1 c) (m c) (g.1 c) = some (.inl (E.2.2.1 7, g.2.2.1 c, .inl (fun i => Int32.ofInt (m c i)))) := xc_7 hk
  obtain ⟨h0, h1, h2⟩ := xarr hW hc8
  rw [vr_pos h0]
  refine W.bast hC.1 hC.2.1 h2 ((hV.1.2 0 _ rfl).1 _ (fun i => .int (Int32.ofInt (m c i)))) (fun q => by cases q) (by show ¬ (_ ∨ (arrV _ _ _).slots.size ≤ _); rw [arrV_size]; exact ix_in hz hj hb) rfl rfl hd fun H1 e1 e2 e3 => ?_
  rw [ix_cl hz hb] at e1 ⊢
  rw [nar_byte hx] at e1
  refine h p e s mi args below meth c0 H1 _ ls hC ?_ (xloc hV.2.1 hc hL) hl
  refine hW.arr (F1 := fun i => .int (Int32.ofInt (xu m c j x c i))) (a0 := (g.2.2.1 c, .inl (fun i => Int32.ofInt (xu m c j x c i)))) hV.2.1 hc h1 e1 e2 e3 rfl (fun _ _ => rfl) (fun a ha => xu_ne ha) (xc_7 hk) rfl (fun i => ?_)
  rw [xu_eq]
  by_cases q : i = j <;> simp [q]
theorem x_zast {c j : Nat} {z x : Int} (hd : decode cc pc = .ok (.bastore, 1)) (hk : g.2.1 c = 10) (hc : nS ≤ c) (hz : z = (j : Int)) (hj : j < g.2.2.1 c) (hb : j < 2147483648) (hx : x = 0 ∨ x = 1)
    (h : xX E J own cc mL k n (pc + 1) lv st g (xu m c j x)) : xX E J own cc mL k n pc lv (vi x :: vi z :: vr E c :: st) g m := by
  intro p e s mi args below meth c0 H locs ls hC hW hL hl
  have hV := hC.2.2.2.2.2.2.2.2.2.1
  have hc8 : xc E (g.2.1 c) (g.2.2.1 c) (m c) (g.1 c) = some (.inl (E.2.2.1 10, g.2.2.1 c, .inl (fun i => Int32.ofInt (m c i)))) := xc_10 hk
  obtain ⟨h0, h1, h2⟩ := xarr hW hc8
  rw [vr_pos h0]
  refine W.zast hC.1 hC.2.1 h2 ((hV.1.2 3 _ rfl).1 _ (fun i => .int (Int32.ofInt (m c i)))) (fun q => by cases q) (by show ¬ (_ ∨ (arrV _ _ _).slots.size ≤ _); rw [arrV_size]; exact ix_in hz hj hb) rfl rfl hd fun H1 e1 e2 e3 => ?_
  rw [ix_cl hz hb] at e1 ⊢
  have hnr : narrow .boolean (.int (Int32.ofInt x)) = .int (Int32.ofInt x) := by rcases hx with rfl | rfl <;> decide
  rw [hnr] at e1
  refine h p e s mi args below meth c0 H1 _ ls hC ?_ (xloc hV.2.1 hc hL) hl
  refine hW.arr (F1 := fun i => .int (Int32.ofInt (xu m c j x c i))) (a0 := (g.2.2.1 c, .inl (fun i => Int32.ofInt (xu m c j x c i)))) hV.2.1 hc h1 e1 e2 e3 rfl (fun _ _ => rfl) (fun a ha => xu_ne ha) (xc_10 hk) rfl (fun i => ?_)
  rw [xu_eq]
  by_cases q : i = j <;> simp [q]
end XI
