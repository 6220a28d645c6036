section CI
/-! a view changed below 1000 only by what is told -/
theorem vOk_l {v w : Nat → Int} (h : ∀ k, k < 1000 → v k = w k) (hw : vOk w) : vOk v := by
  obtain ⟨⟨a0, a1, a2, a3, a4, a5⟩, a6⟩ := hw
  refine ⟨⟨?_, ?_, ?_, ?_, ?_, ?_⟩, ?_⟩
  · rw [h 0 (by omega)]; exact a0
  · rw [h 1 (by omega)]; exact a1
  · rw [h 2 (by omega)]; exact a2
  · exact wOk_c (h 3 (by omega)) (fun k _ _ => h k (by omega)) a3
  · exact bOk_c (h 4 (by omega)) (fun k _ _ => h k (by omega)) a4
  · exact sOk_c (h 5 (by omega)) (fun k _ _ => h k (by omega)) a5
  · have hb := a6.1
    have hi : ∀ k, k < 600 → fi v k = fi w k := fun k hk => h _ (by omega)
    have hd : ∀ k, k ≤ 600 → fd v k = fd w k := by
      intro k
      induction k with
      | zero => intro _; rfl
      | succ k ih => intro hk; show (if fi v k ≤ -11 then _ else _) = (if fi w k ≤ -11 then _ else _); rw [hi k (by omega), ih (by omega)]
    unfold fOk
    rw [h 108 (by omega)]
    refine ⟨hb, fun k hk => ?_, fun hk => ?_⟩
    · rw [hi k (by omega), hd k (by omega)]; exact a6.2.1 k hk
    · rw [hd _ (by omega)]; exact a6.2.2 hk
theorem wsum_c {v w : Nat → Int} {t : Int} (h : ∀ k, 6 ≤ k → k < 24 → v k = w k) : ∀ k, k ≤ 6 → wsum v t k = wsum w t k := by
  intro k
  induction k with
  | zero => intro _; rfl
  | succ k ih =>
    intro hk
    show wsum v t k + (v (6 + 3 * k + 0) * wpt t (v (6 + 3 * k + 1)) (v (6 + 3 * k + 2))).tdiv 1000 = wsum w t k + (w (6 + 3 * k + 0) * wpt t (w (6 + 3 * k + 1)) (w (6 + 3 * k + 2))).tdiv 1000
    rw [ih (by omega), h _ (by omega) (by omega), h _ (by omega) (by omega), h _ (by omega) (by omega)]
/-- the waves by their tellings: at most six each, and those that were not told yet sum up to nothing kept -/
def ghI (v : Nat → Int) (T : Int) : Prop := (∀ t : Int, gw v t 3 ≤ 6) ∧ ∀ t : Int, T < t → ∀ x : Int, -300 ≤ x → x < 14700 → gws v t x = -100000
def gdm : Nat → Int := fun k => if k = 3 then 1 else if k = 6 then -100000 else if k = 7 then 7200000000 else if k = 8 then -1801000000 else 0
theorem gdm_s {x : Int} (h1 : -300 ≤ x) (h2 : x < 14700) : wsum gdm x 1 = -100000 := by
  show 0 + ((-100000 : Int) * wpt x 7200000000 (-1801000000)).tdiv 1000 = _
  have e1 : (x - -1801000000) % 7200000000 = x + 1801000000 := by omega
  have e2 : ((x + 1801000000) * 3600).tdiv 7200000000 = 900 := by
    rw [Int.tdiv_eq_ediv_of_nonneg (by omega)]; omega
  unfold wpt
  rw [e1, e2]
  decide
theorem gw_c {v w : Nat → Int} (h : ∀ k, 1000 ≤ k → v k = w k) (t : Int) : gw v t = gw w t := by
  funext k; exact h _ (by omega)
theorem gws_c {v w : Nat → Int} (h : ∀ k, 1000 ≤ k → v k = w k) (t : Int) : gws v t = gws w t := by
  funext x; unfold gws; rw [gw_c h]
theorem ghI.c {v w : Nat → Int} {T : Int} (h : ∀ k, 1000 ≤ k → w k = v k) (hg : ghI v T) : ghI w T := by
  refine ⟨fun t => ?_, fun t ht x h1 h2 => ?_⟩
  · rw [gw_c h]; exact hg.1 t
  · rw [gws_c h]; exact hg.2 t ht x h1 h2
/-- what is told anew -/
def vtx (v r : Nat → Int) (T : Nat) : Nat → Int := fun k => if k < 1000 then r k else if 1000 + 24 * T ≤ k ∧ k < 1024 + 24 * T then r (k - 1000 - 24 * T) else v k
theorem vtx_l {v r : Nat → Int} {T k : Nat} (h : k < 1000) : vtx v r T k = r k := if_pos h
theorem vtx_s {v r : Nat → Int} {T k : Nat} (h : k < 24) : gw (vtx v r T) (T : Int) k = r k := by
  show vtx v r T (1000 + 24 * ((T : Int)).toNat + k) = _
  unfold vtx
  rw [if_neg (by omega), if_pos (by omega)]
  congr 1; omega
theorem vtx_n {v r : Nat → Int} {T k : Nat} {t : Int} (h : k < 24) (ht : t.toNat ≠ T) : gw (vtx v r T) t k = gw v t k := by
  show vtx v r T (1000 + 24 * t.toNat + k) = v (1000 + 24 * t.toNat + k)
  unfold vtx
  rw [if_neg (by omega), if_neg (by omega)]
theorem vtx_gs {v r : Nat → Int} {T : Nat} {x : Int} (h : r 3 ≤ 6) : gws (vtx v r T) (T : Int) x = wsum r x (r 3).toNat := by
  unfold gws
  rw [vtx_s (by omega)]
  exact wsum_c (fun k _ hk => vtx_s hk) _ (by omega)
theorem vtx_gn {v r : Nat → Int} {T : Nat} {t x : Int} (h : gw v t 3 ≤ 6) (ht : t.toNat ≠ T) : gws (vtx v r T) t x = gws v t x := by
  unfold gws
  rw [vtx_n (by omega) ht]
  exact wsum_c (fun k _ hk => vtx_n hk ht) _ (by omega)
theorem ghI.x {v r : Nat → Int} {T : Int} (hT : 0 ≤ T) (hg : ghI v T) (hr : r 3 ≤ 6) : ghI (vtx v r (T.toNat + 1)) (T + 1) := by
  refine ⟨fun t => ?_, fun t ht x h1 h2 => ?_⟩
  · by_cases c : t.toNat = T.toNat + 1
    · rw [show t = ((T.toNat + 1 : Nat) : Int) by omega, vtx_s (by omega)]; exact hr
    · rw [vtx_n (by omega) c]; exact hg.1 t
  · rw [vtx_gn (hg.1 t) (by omega)]; exact hg.2 t (by omega) x h1 h2
/-! a chart's cells hold a view -/
def hC (c : Nat) (w : Nat → Int) (f : Nat → Nat) (D : Nat → Nat × Nat) (m : xM) : Prop :=
  ((m c 0 = w 0 ∧ m c 1 = w 1 ∧ m c 2 = w 2) ∧ (m c 3 = w 3 ∧ ∀ i : Nat, (i : Int) < 3 * w 3 → m (c + 1) i = w (6 + i)) ∧ (m c 4 = w 4 ∧ ∀ i : Nat, (i : Int) < 6 * w 4 → m (c + 2) i = w (24 + i)) ∧ (m c 5 = w 5 ∧ ∀ i : Nat, (i : Int) < 8 * w 5 → m (c + 3) i = w (60 + i))) ∧
  ((w 108 = 0 ∧ f c = 2) ∨ (0 < w 108 ∧ 112 ≤ f c ∧ D (f c) = (8, (w 108).toNat) ∧ ∀ k : Nat, (k : Int) < w 108 → m (f c) k = cv (fi w k))) ∧
  ((m c 10 = 0 ∧ ∀ k : Nat, (k : Int) < w 108 → fi w k ≠ -4) ∨ m c 10 = 1)
theorem hC_41 {v : Nat → Int} {f : Nat → Nat} {D : Nat → Nat × Nat} {m : xM} : hC 41 v f D m ↔ cC v m ∧ cF v f D m := Iff.rfl
theorem hC.mv {c : Nat} {w : Nat → Int} {f f' : Nat → Nat} {D D' : Nat → Nat × Nat} {m m' : xM} (h : hC c w f D m) (hf : f' c = f c) (hD : D' (f c) = D (f c)) (h0 : m' c = m c) (h1 : m' (c + 1) = m (c + 1)) (h2 : m' (c + 2) = m (c + 2)) (h3 : m' (c + 3) = m (c + 3)) (hF : 112 ≤ f c → m' (f c) = m (f c)) : hC c w f' D' m' := by
  unfold hC at *
  rw [hf, h0, h1, h2, h3, hD]
  refine ⟨h.1, ?_, h.2.2⟩
  rcases h.2.1 with q | ⟨q1, q2, q3, q4⟩
  · exact Or.inl q
  · exact Or.inr ⟨q1, q2, q3, by rw [hF q2]; exact q4⟩
theorem hC.v {c : Nat} {w w' : Nat → Int} {f : Nat → Nat} {D : Nat → Nat × Nat} {m : xM} (h : hC c w f D m) (hw : vOk w) (he : ∀ k, k < 1000 → w' k = w k) : hC c w' f D m := by
  have h3 := hw.1.2.2.2.1.1
  have h4 := hw.1.2.2.2.2.1.1
  have h5 := hw.1.2.2.2.2.2.1
  have h8 := hw.2.1
  obtain ⟨⟨⟨a0, a1, a2⟩, ⟨a3, a4⟩, ⟨a5, a6⟩, ⟨a7, a8⟩⟩, b, c⟩ := h
  unfold hC
  rw [he 0 (by omega), he 1 (by omega), he 2 (by omega), he 3 (by omega), he 4 (by omega), he 5 (by omega), he 108 (by omega)]
  have hfi : ∀ k : Nat, (k : Int) < w 108 → fi w' k = fi w k := fun k hk => he _ (by omega)
  refine ⟨⟨⟨a0, a1, a2⟩, ⟨a3, fun i hi => ?_⟩, ⟨a5, fun i hi => ?_⟩, ⟨a7, fun i hi => ?_⟩⟩, ?_, ?_⟩
  · rw [he _ (by omega)]; exact a4 i hi
  · rw [he _ (by omega)]; exact a6 i hi
  · rw [he _ (by omega)]; exact a8 i hi
  · rcases b with q | ⟨q1, q2, q3, q4⟩
    · exact Or.inl q
    · exact Or.inr ⟨q1, q2, q3, fun k hk => by rw [hfi k hk]; exact q4 k hk⟩
  · rcases c with ⟨q1, q2⟩ | q
    · exact Or.inl ⟨q1, fun k hk => by rw [hfi k hk]; exact q2 k hk⟩
    · exact Or.inr q
theorem hC.cp {c d : Nat} {w : Nat → Int} {f : Nat → Nat} {D : Nat → Nat × Nat} {m m' : xM} (h : hC d w f D m) (hw : vOk w) (hc : c ∈ chL) (hp : cpR c d m m') : hC c w (fu f c (f d)) D m' := by
  have h3 := hw.1.2.2.2.1.1
  have h4 := hw.1.2.2.2.2.1.1
  have h5 := hw.1.2.2.2.2.2.1
  have hcb := (ch_1 c hc).1
  obtain ⟨⟨⟨a0, a1, a2⟩, ⟨a3, a4⟩, ⟨a5, a6⟩, ⟨a7, a8⟩⟩, b, e⟩ := h
  obtain ⟨p0, p1, p2, -, p4, p5, p6⟩ := hp
  unfold hC
  rw [p1 0 (by omega), p1 1 (by omega), p1 2 (by omega), p1 3 (by omega), p1 4 (by omega), p1 5 (by omega), p2, fu_s]
  refine ⟨⟨⟨a0, a1, a2⟩, ⟨a3, fun i hi => ?_⟩, ⟨a5, fun i hi => ?_⟩, ⟨a7, fun i hi => ?_⟩⟩, ?_, e⟩
  · rw [p4 i (by omega)]; exact a4 i hi
  · rw [p5 i (by omega)]; exact a6 i hi
  · rw [p6 i (by omega)]; exact a8 i hi
  · rcases b with q | ⟨q1, q2, q3, q4⟩
    · exact Or.inl q
    · exact Or.inr ⟨q1, q2, q3, by rw [p0 (f d) (by simp; omega)]; exact q4⟩
/-- a chart that was told: its waves are those of its telling -/
def hA (c : Nat) (w v : Nat → Int) (f : Nat → Nat) (D : Nat → Nat × Nat) (m : xM) : Prop :=
  vOk w ∧ hC c w f D m ∧ (∀ x, gws v (m c 11) x = wsum w x (w 3).toNat) ∧ 0 ≤ m c 11 ∧ m c 11 ≤ m 40 7
/-- the class as the document's state: the view told, the views kept -/
def cI (v : Nat → Int) (h : List (Nat → Int)) (f : Nat → Nat) (D : Nat → Nat × Nat) (n : Nat) (m : xM) : Prop :=
  cV v f D m ∧ ghI v (m 40 7) ∧ (m 41 11 ≤ m 40 7 ∧ m 40 7 ≤ 100000) ∧ 112 ≤ n ∧ (∀ c ∈ chL, f c < n) ∧
  ∃ p : Nat, m 45 1 = (p : Int) ∧ p < 8 ∧ m 45 2 = (h.length : Int) ∧ h.length ≤ 8 ∧
    ∀ i, i < h.length → hA (47 + 4 * ((p + 8 - h.length + i) % 8)) (h.getD i (fun _ => 0)) v f D m
theorem cI.a41 {v : Nat → Int} {h : List (Nat → Int)} {f : Nat → Nat} {D : Nat → Nat × Nat} {n : Nat} {m : xM} (hI : cI v h f D n m) : hA 41 v v f D m :=
  ⟨hI.1.1, hC_41.mpr ⟨hI.1.2.1.1, hI.1.2.2⟩, hI.1.2.1.2.1.2, hI.1.2.1.2.2.1.1, hI.2.2.1.1⟩
theorem hA.mv {c : Nat} {w v v' : Nat → Int} {f f' : Nat → Nat} {D D' : Nat → Nat × Nat} {m m' : xM} (h : hA c w v f D m) (hf : f' c = f c) (hD : D' (f c) = D (f c)) (h0 : m' c = m c) (h1 : m' (c + 1) = m (c + 1)) (h2 : m' (c + 2) = m (c + 2)) (h3 : m' (c + 3) = m (c + 3)) (hF : 112 ≤ f c → m' (f c) = m (f c)) (hT : m 40 7 ≤ m' 40 7) (hv : ∀ t x, 0 ≤ t → t ≤ m 40 7 → gws v' t x = gws v t x) : hA c w v' f' D' m' := by
  obtain ⟨a, b, d, e, g⟩ := h
  refine ⟨a, b.mv hf hD h0 h1 h2 h3 hF, fun x => ?_, ?_, ?_⟩
  · rw [h0, hv _ _ e g]; exact d x
  · rw [h0]; exact e
  · rw [h0]; omega
theorem hA.cp {c d : Nat} {w v : Nat → Int} {f : Nat → Nat} {D : Nat → Nat × Nat} {m m' : xM} (h : hA d w v f D m) (hc : c ∈ chL) (hp : cpR c d m m') (h7 : m' 40 7 = m 40 7) : hA c w v (fu f c (f d)) D m' := by
  obtain ⟨a, b, e, g, i⟩ := h
  refine ⟨a, b.cp a hc hp, fun x => ?_, ?_, ?_⟩
  · rw [hp.2.2.2.1]; exact e x
  · rw [hp.2.2.2.1]; exact g
  · rw [hp.2.2.2.1, h7]; exact i

theorem cV.f {v : Nat → Int} {f f' : Nat → Nat} {D D' : Nat → Nat × Nat} {m : xM} (h : cV v f D m) (hf : f' 41 = f 41) (hD : D' (f 41) = D (f 41)) : cV v f' D' m := by
  refine ⟨h.1, h.2.1, ?_⟩
  have := h.2.2
  unfold cF at *
  rw [hf, hD]; exact this
theorem ch_ap {c d : Nat} (hc : c ∈ chL) (hd : d ∈ chL) (h : d ≠ c) : ∀ q, q = d ∨ q = d + 1 ∨ q = d + 2 ∨ q = d + 3 → q ∉ [c, c + 1, c + 2, c + 3] := by
  intro q hq
  have := ch_3 c hc d hd h
  simp
  omega
/-- the view told is kept -/
theorem cI.keep {v : Nat → Int} {h : List (Nat → Int)} {f : Nat → Nat} {D : Nat → Nat × Nat} {n p : Nat} {m m1 : xM} (hI : cI v h f D n m) (hp : m 45 1 = (p : Int)) (hp8 : p < 8) (hcp : cpR (47 + 4 * p) 41 m m1) : cI v (psh h v) (fu f (47 + 4 * p) (f 41)) D n (xu (xu m1 45 1 (((p + 1) % 8 : Nat) : Int)) 45 2 ((min (h.length + 1) 8 : Nat) : Int)) := by
  have h41 := hI.a41
  obtain ⟨i1, i2, i3, i5, i6, p', q1, q2, q3, q4, q5⟩ := hI
  have hpp : p' = p := by omega
  subst hpp
  have hcL := ch_4 p' hp8
  generalize hm2 : xu (xu m1 45 1 (((p' + 1) % 8 : Nat) : Int)) 45 2 ((min (h.length + 1) 8 : Nat) : Int) = m2
  have e45 : ∀ q, q ≠ 45 → m2 q = m1 q := fun q hq => by rw [← hm2, xu_ne hq, xu_ne hq]
  have eo : ∀ q, q ∉ [47 + 4 * p', 47 + 4 * p' + 1, 47 + 4 * p' + 2, 47 + 4 * p' + 3] → q ≠ 45 → m2 q = m q := fun q h1 h2 => by rw [e45 q h2, hcp.1 q h1]
  have ha : ag [47 + 4 * p', 47 + 4 * p' + 1, 47 + 4 * p' + 2, 47 + 4 * p' + 3, 45] m m2 := fun q hq => eo q (by simp at hq ⊢; omega) (by simp at hq; omega)
  have e40 : m2 40 = m 40 := eo 40 (by simp; omega) (by omega)
  have e41 : m2 41 = m 41 := eo 41 (by simp; omega) (by omega)
  have f41 : fu f (47 + 4 * p') (f 41) 41 = f 41 := fu_n (by omega)
  refine ⟨(i1.ag ha (by simp; omega) (by simp; omega) (by simp; omega) (by simp; omega) (by simp; omega) (by simp; omega) (by simp; omega)).f f41 rfl, by rw [e40]; exact i2, by rw [e40, e41]; exact i3, i5, fun c hc => ?_, (p' + 1) % 8, ?_, by omega, ?_, ?_, fun i hi => ?_⟩
  · by_cases z : c = 47 + 4 * p'
    · rw [z, fu_s]; exact i6 41 (by decide)
    · rw [fu_n z]; exact i6 c hc
  · rw [← hm2]; simp [xu_if]
  · rw [← hm2]; simp only [xu_if, psh_len q4, if_true]; split <;> omega
  · rw [psh_len q4]; split <;> omega
  · rw [psh_len q4] at hi
    have hnew : hA (47 + 4 * p') v v (fu f (47 + 4 * p') (f 41)) D m2 := by
      have := h41.cp hcL hcp (by rw [hcp.1 40 (by simp; omega)])
      refine this.mv rfl rfl (e45 _ (by omega)) (e45 _ (by omega)) (e45 _ (by omega)) (e45 _ (by omega)) (fun z => e45 _ (by omega)) (by rw [e45 40 (by omega)]; exact Int.le_refl _) (fun _ _ _ _ => rfl)
    have hold : ∀ d i, d ≠ p' → d < 8 → hA (47 + 4 * d) i v f D m → hA (47 + 4 * d) i v (fu f (47 + 4 * p') (f 41)) D m2 := by
      intro d i hd hd8 hh
      have hap := ch_ap hcL (ch_4 d hd8) (show 47 + 4 * d ≠ 47 + 4 * p' by omega)
      refine hh.mv (fu_n (by omega)) rfl (eo _ (hap _ (by omega)) (by omega)) (eo _ (hap _ (by omega)) (by omega)) (eo _ (hap _ (by omega)) (by omega)) (eo _ (hap _ (by omega)) (by omega)) (fun z => eo _ (by simp; omega) (by omega)) (by rw [e40]; exact Int.le_refl _) (fun _ _ _ _ => rfl)
    rw [psh_len q4]
    unfold psh
    rw [getD_ap]
    by_cases c8 : h.length = 8
    · rw [if_pos c8] at hi
      simp only [if_pos c8, if_true, List.length_tail, c8]
      by_cases c7 : i < 7
      · rw [if_pos (by omega), getD_tl]
        have := q5 (i + 1) (by omega)
        rw [c8] at this
        rw [show ((p' + 1) % 8 + 8 - 8 + i) % 8 = (p' + 8 - 8 + (i + 1)) % 8 by omega]
        exact hold _ _ (by omega) (by omega) this
      · rw [if_neg (by omega), if_pos (by omega), show ((p' + 1) % 8 + 8 - 8 + i) % 8 = p' by omega]
        exact hnew
    · rw [if_neg c8] at hi
      simp only [if_neg c8]
      by_cases c7 : i < h.length
      · rw [if_pos c7]
        have := q5 i c7
        rw [show ((p' + 1) % 8 + 8 - (h.length + 1) + i) % 8 = (p' + 8 - h.length + i) % 8 by omega]
        exact hold _ _ (by omega) (by omega) this
      · rw [if_neg c7, if_pos (by omega), show ((p' + 1) % 8 + 8 - (h.length + 1) + i) % 8 = p' by omega]
        exact hnew
/-- the view told changes, its waves do not -/
theorem cI.upd {v v' : Nat → Int} {h : List (Nat → Int)} {f : Nat → Nat} {D : Nat → Nat × Nat} {n : Nat} {m m' : xM} (hI : cI v h f D n m) (hv : vOk v') (h3 : v' 3 = v 3) (hw : ∀ k, 6 ≤ k → k < 24 → v' k = v k) (hk : ∀ k, 108 ≤ k → v' k = v k) (ha : ag [41, 43, 44] m m') (h10 : m' 41 10 = m 41 10) (h11 : m' 41 11 = m 41 11) (hC : cC v' m') : cI v' h f D n m' := by
  obtain ⟨⟨i0, ⟨j1, ⟨j2, j3⟩, j4, j5⟩, j6, j7⟩, i2, i3, i5, i6, p, q1, q2, q3, q4, q5⟩ := hI
  have hg : ∀ k, 1000 ≤ k → v' k = v k := fun k h => hk k (by omega)
  have e40 : m' 40 = m 40 := ha 40 (by decide)
  have e86 : m' 86 = m 86 := ha 86 (by decide)
  have e87 : m' 87 = m 87 := ha 87 (by decide)
  have e45 : m' 45 = m 45 := ha 45 (by decide)
  have hv3 := i0.1.2.2.2.1.1
  have hfi : ∀ k, fi v' k = fi v k := fun k => hk _ (by omega)
  refine ⟨⟨hv, ⟨hC, ⟨?_, ?_⟩, by rw [h11]; exact j4, by rw [e86]; exact j5⟩, ?_, ?_⟩, by rw [e40]; exact i2.c hg, by rw [h11, e40]; exact i3, i5, i6, p, by rw [e45]; exact q1, q2, by rw [e45]; exact q3, q4, fun i hi => ?_⟩
  · rw [e86, e87, gws_c hg]; exact j2
  · intro x
    rw [h11, gws_c hg, j3 x, h3]
    exact (wsum_c hw _ (by omega)).symm
  · rw [hk 108 (by omega)]
    rcases j6 with q | ⟨r1, r2, r3, r4⟩
    · exact Or.inl q
    · exact Or.inr ⟨r1, r2, r3, fun k hk' => by rw [hfi, ha _ (by simp; omega)]; exact r4 k hk'⟩
  · rw [hk 108 (by omega), h10]
    rcases j7 with ⟨r1, r2⟩ | q
    · exact Or.inl ⟨r1, fun k hk' => by rw [hfi]; exact r2 k hk'⟩
    · exact Or.inr q
  · refine (q5 i hi).mv rfl rfl (ha _ (by simp; omega)) (ha _ (by simp; omega)) (ha _ (by simp; omega)) (ha _ (by simp; omega)) (fun z => ha _ (by simp; omega)) (by rw [e40]; exact Int.le_refl _) (fun t x _ _ => by rw [gws_c hg])
/-- the last view kept comes back -/
def vun (v w : Nat → Int) : Nat → Int := fun k => if k < 1000 then w k else v k
theorem cI.give {v : Nat → Int} {h : List (Nat → Int)} {f : Nat → Nat} {D : Nat → Nat × Nat} {n p : Nat} {m m' : xM} (hI : cI v h f D n m) (h0 : 0 < h.length) (hp : m 45 1 = (p : Int)) (hp8 : p < 8) (hcp : cpR 41 (47 + 4 * ((p + 7) % 8)) (xu (xu m 45 2 ((h.length : Int) - 1)) 45 1 (((p + 7) % 8 : Nat) : Int)) m') : cI (vun v (h.getD (h.length - 1) (fun _ => 0))) h.dropLast (fu f 41 (f (47 + 4 * ((p + 7) % 8)))) D n m' := by
  obtain ⟨⟨i0, ⟨j1, ⟨j2, j3⟩, j4, j5⟩, j6, j7⟩, i2, i3, i5, i6, p', q1, q2, q3, q4, q5⟩ := hI
  have hpp : p' = p := by omega
  subst hpp
  have hL := q5 (h.length - 1) (by omega)
  rw [show (p' + 8 - h.length + (h.length - 1)) % 8 = (p' + 7) % 8 by omega] at hL
  generalize hd8 : (p' + 7) % 8 = d at *
  have hd : d < 8 := by omega
  generalize hw : h.getD (h.length - 1) (fun _ => 0) = w at *
  have hdL := ch_4 d hd
  generalize hm1 : xu (xu m 45 2 ((h.length : Int) - 1)) 45 1 ((d : Nat) : Int) = m1 at hcp
  have e1 : ∀ q, q ≠ 45 → m1 q = m q := fun q hq => by rw [← hm1, xu_ne hq, xu_ne hq]
  have hL1 : hA (47 + 4 * d) w v f D m1 := hL.mv rfl rfl (e1 _ (by omega)) (e1 _ (by omega)) (e1 _ (by omega)) (e1 _ (by omega)) (fun z => e1 _ (by omega)) (by rw [e1 40 (by omega)]; exact Int.le_refl _) (fun _ _ _ _ => rfl)
  have eo : ∀ q, q ∉ [41, 42, 43, 44] → q ≠ 45 → m' q = m q := fun q h1 h2 => by rw [hcp.1 q h1, e1 q h2]
  have e40 : m' 40 = m 40 := eo 40 (by decide) (by omega)
  have hN := hL1.cp (c := 41) (by decide) hcp (by rw [hcp.1 40 (by decide)])
  have hg : ∀ k, 1000 ≤ k → vun v w k = v k := fun k hk => if_neg (by omega)
  have hl : ∀ k, k < 1000 → vun v w k = w k := fun k hk => if_pos hk
  obtain ⟨a1, a2, a3, a4, a5⟩ := hN
  have hvu : vOk (vun v w) := vOk_l hl a1
  obtain ⟨b1, b2⟩ := hC_41.mp (a2.v a1 hl)
  have e45 : m' 45 = m1 45 := hcp.1 45 (by decide)
  refine ⟨⟨hvu, ⟨b1, ⟨?_, ?_⟩, ⟨a4, ?_⟩, ?_⟩, b2⟩, by rw [e40]; exact i2.c hg, ⟨a5, by rw [e40]; exact i3.2⟩, i5, fun c hc => ?_, d, ?_, hd, ?_, ?_, fun i hi => ?_⟩
  · rw [eo 86 (by decide) (by omega), eo 87 (by decide) (by omega), gws_c hg]; exact j2
  · intro x
    rw [gws_c hg, a3 x, hl 3 (by omega)]
    have := a1.1.2.2.2.1.1
    exact (wsum_c (fun k _ h2 => hl k (by omega)) _ (by omega)).symm
  · rw [e40] at a5; have := i3.2; omega
  · rw [eo 86 (by decide) (by omega)]; exact j5
  · by_cases z : c = 41
    · rw [z, fu_s]; exact i6 _ hdL
    · rw [fu_n z]; exact i6 c hc
  · rw [e45, ← hm1]; simp [xu_if]
  · rw [e45, ← hm1]; simp [xu_if]; omega
  · simp; omega
  · simp at hi
    rw [getD_dl (by omega)]
    simp only [List.length_dropLast]
    have := q5 i (by omega)
    rw [show (d + 8 - (h.length - 1) + i) % 8 = (p' + 8 - h.length + i) % 8 by omega]
    have hap := ch_ap (c := 41) (by decide) (ch_4 ((p' + 8 - h.length + i) % 8) (by omega)) (by omega)
    exact this.mv (fu_n (by omega)) rfl (eo _ (hap _ (by omega)) (by omega)) (eo _ (hap _ (by omega)) (by omega)) (eo _ (hap _ (by omega)) (by omega)) (eo _ (hap _ (by omega)) (by omega)) (fun z => eo _ (by simp; omega) (by omega)) (by rw [e40]; exact Int.le_refl _) (fun t x _ _ => by rw [gws_c hg])
end CI
