section VU
theorem vup_ne {v : Nat → Int} {i k : Nat} {z : Int} (h : k ≠ i) : vup v i z k = v k := if_neg h
theorem vup_eq {v : Nat → Int} {i : Nat} {z : Int} : vup v i z i = z := if_pos rfl
theorem fOk_c {v v' : Nat → Int} (h : ∀ k, 108 ≤ k → v' k = v k) (hf : fOk v) : fOk v' := by
  have hi : ∀ k, fi v' k = fi v k := fun k => h _ (by omega)
  have hd : ∀ k, fd v' k = fd v k := by
    intro k
    induction k with
    | zero => rfl
    | succ k ih => show (if fi v' k ≤ -11 then _ else _) = (if fi v k ≤ -11 then _ else _); rw [hi, ih]
  unfold fOk
  rw [h 108 (by omega)]
  refine ⟨hf.1, fun k hk => ?_, fun hk => ?_⟩
  · rw [hi, hd]; exact hf.2.1 k hk
  · rw [hd]; exact hf.2.2 hk
theorem wOk_c {v v' : Nat → Int} (h3 : v' 3 = v 3) (h : ∀ k, 6 ≤ k → k < 24 → v' k = v k) (hw : wOk v) : wOk v' := by
  unfold wOk
  rw [h3]
  refine ⟨hw.1, fun w hw9 => ?_⟩
  have e : ∀ j, j < 3 → wv v' w j = wv v w j := fun j hj => h _ (by omega) (by have := hw.1; omega)
  rw [e 0 (by omega), e 1 (by omega), e 2 (by omega)]
  exact hw.2 w hw9
theorem bOk_c {v v' : Nat → Int} (h4 : v' 4 = v 4) (h : ∀ k, 24 ≤ k → k < 60 → v' k = v k) (hb : bOk v) : bOk v' := by
  unfold bOk
  rw [h4]
  refine ⟨hb.1, fun b hb9 => ?_⟩
  have e : ∀ j, j < 6 → br v' b j = br v b j := fun j hj => h _ (by omega) (by have := hb.1; omega)
  rw [e 0 (by omega), e 1 (by omega), e 2 (by omega), e 3 (by omega), e 4 (by omega), e 5 (by omega)]
  exact hb.2 b hb9
theorem sOk_c {v v' : Nat → Int} (h5 : v' 5 = v 5) (h : ∀ k, 60 ≤ k → k < 108 → v' k = v k) (hs : sOk v) : sOk v' := by
  unfold sOk
  rw [h5]
  refine ⟨hs.1, fun s hs9 => ?_⟩
  have e : ∀ j, j < 8 → sh v' s j = sh v s j := fun j hj => h _ (by omega) (by have := hs.1; omega)
  rw [e 0 (by omega), e 1 (by omega), e 2 (by omega), e 3 (by omega), e 4 (by omega), e 5 (by omega), e 6 (by omega), e 7 (by omega)]
  exact hs.2 s hs9
theorem vOk_surge {v : Nat → Int} {z : Int} (hv : vOk v) (hz : -300 ≤ z ∧ z ≤ 300) : vOk (vup v 2 z) := by
  obtain ⟨⟨h0, h1, h2, h3, h4, h5⟩, h6⟩ := hv
  refine ⟨⟨by rw [vup_ne (by omega)]; exact h0, by rw [vup_ne (by omega)]; exact h1, by rw [vup_eq]; exact hz, wOk_c (vup_ne (by omega)) (fun k _ _ => vup_ne (by omega)) h3, bOk_c (vup_ne (by omega)) (fun k _ _ => vup_ne (by omega)) h4, sOk_c (vup_ne (by omega)) (fun k _ _ => vup_ne (by omega)) h5⟩, fOk_c (fun k _ => vup_ne (by omega)) h6⟩
theorem vOk_sound {v : Nat → Int} {b : Nat} {z : Int} (hv : vOk v) (hb : (b : Int) < v 4) (hz : 100 ≤ z ∧ z ≤ 3000) : vOk (vup v (24 + 6 * b + 1) z) := by
  obtain ⟨⟨h0, h1, h2, h3, h4, h5⟩, h6⟩ := hv
  have hb6 := h4.1
  refine ⟨⟨by rw [vup_ne (by omega)]; exact h0, by rw [vup_ne (by omega)]; exact h1, by rw [vup_ne (by omega)]; exact h2, wOk_c (vup_ne (by omega)) (fun k _ _ => vup_ne (by omega)) h3, ?_, sOk_c (vup_ne (by omega)) (fun k _ _ => vup_ne (by omega)) h5⟩, fOk_c (fun k _ => vup_ne (by omega)) h6⟩
  unfold bOk
  rw [vup_ne (by omega)]
  refine ⟨h4.1, fun c hc => ?_⟩
  have e : ∀ j, j < 6 → j ≠ 1 → br (vup v (24 + 6 * b + 1) z) c j = br v c j := fun j hj hn => vup_ne (by omega)
  have e1 : br (vup v (24 + 6 * b + 1) z) c 1 = if c = b then z else br v c 1 := by
    show (if 24 + 6 * c + 1 = 24 + 6 * b + 1 then z else _) = _
    by_cases q : c = b
    · rw [if_pos q, if_pos (by omega)]
    · rw [if_neg q, if_neg (by omega)]; rfl
  rw [e 0 (by omega) (by omega), e1, e 2 (by omega) (by omega), e 3 (by omega) (by omega), e 4 (by omega) (by omega), e 5 (by omega) (by omega)]
  have h9 := h4.2 c hc
  refine ⟨h9.1, ?_, h9.2.2⟩
  split
  · exact hz
  · exact h9.2.1
theorem vOk_load {v : Nat → Int} {s : Nat} {z : Int} (hv : vOk v) (hs : (s : Int) < v 5) (hz : 100 ≤ z ∧ z ≤ 2500) : vOk (vup v (60 + 8 * s + 0) z) := by
  obtain ⟨⟨h0, h1, h2, h3, h4, h5⟩, h6⟩ := hv
  have hs6 := h5.1
  refine ⟨⟨by rw [vup_ne (by omega)]; exact h0, by rw [vup_ne (by omega)]; exact h1, by rw [vup_ne (by omega)]; exact h2, wOk_c (vup_ne (by omega)) (fun k _ _ => vup_ne (by omega)) h3, bOk_c (vup_ne (by omega)) (fun k _ _ => vup_ne (by omega)) h4, ?_⟩, fOk_c (fun k _ => vup_ne (by omega)) h6⟩
  unfold sOk
  rw [vup_ne (by omega)]
  refine ⟨h5.1, fun c hc => ?_⟩
  have e : ∀ j, j < 8 → j ≠ 0 → sh (vup v (60 + 8 * s + 0) z) c j = sh v c j := fun j hj hn => vup_ne (by omega)
  have e1 : sh (vup v (60 + 8 * s + 0) z) c 0 = if c = s then z else sh v c 0 := by
    show (if 60 + 8 * c + 0 = 60 + 8 * s + 0 then z else _) = _
    by_cases q : c = s
    · rw [if_pos q, if_pos (by omega)]
    · rw [if_neg q, if_neg (by omega)]; rfl
  rw [e1, e 1 (by omega) (by omega), e 2 (by omega) (by omega), e 3 (by omega) (by omega), e 4 (by omega) (by omega), e 5 (by omega) (by omega), e 6 (by omega) (by omega), e 7 (by omega) (by omega)]
  have h9 := h5.2 c hc
  refine ⟨?_, h9.2⟩
  split
  · exact hz
  · exact h9.1
/-- a ship booked, or a booking taken back -/
def vbk (v : Nat → Int) (s : Nat) (a b : Int) : Nat → Int := vup (vup v (60 + 8 * s + 6) a) (60 + 8 * s + 7) b
theorem vbk_ne {v : Nat → Int} {s k : Nat} {a b : Int} (h1 : k ≠ 60 + 8 * s + 6) (h2 : k ≠ 60 + 8 * s + 7) : vbk v s a b k = v k := by unfold vbk; rw [vup_ne h2, vup_ne h1]
theorem vOk_bk {v : Nat → Int} {s : Nat} {a b : Int} (hv : vOk v) (hs : (s : Int) < v 5) (hz : (a = -1 ∧ b = -1) ∨ (0 ≤ a ∧ a ≤ 2000 ∧ 4 ≤ b ∧ b ≤ 25)) : vOk (vbk v s a b) := by
  obtain ⟨⟨h0, h1, h2, h3, h4, h5⟩, h6⟩ := hv
  have hs6 := h5.1
  refine ⟨⟨by rw [vbk_ne (by omega) (by omega)]; exact h0, by rw [vbk_ne (by omega) (by omega)]; exact h1, by rw [vbk_ne (by omega) (by omega)]; exact h2, wOk_c (vbk_ne (by omega) (by omega)) (fun k _ _ => vbk_ne (by omega) (by omega)) h3, bOk_c (vbk_ne (by omega) (by omega)) (fun k _ _ => vbk_ne (by omega) (by omega)) h4, ?_⟩, fOk_c (fun k _ => vbk_ne (by omega) (by omega)) h6⟩
  unfold sOk
  rw [vbk_ne (by omega) (by omega)]
  refine ⟨h5.1, fun c hc => ?_⟩
  have e : ∀ j, j < 6 → sh (vbk v s a b) c j = sh v c j := fun j hj => vbk_ne (by omega) (by omega)
  have e6 : sh (vbk v s a b) c 6 = if c = s then a else sh v c 6 := by
    unfold sh vbk
    rw [vup_ne (by omega)]
    by_cases q : c = s
    · rw [if_pos q, q, vup_eq]
    · rw [if_neg q, vup_ne (by omega)]
  have e7 : sh (vbk v s a b) c 7 = if c = s then b else sh v c 7 := by
    unfold sh vbk
    by_cases q : c = s
    · rw [if_pos q, q, vup_eq]
    · rw [if_neg q, vup_ne (by omega), vup_ne (by omega)]
  rw [e 0 (by omega), e 1 (by omega), e 2 (by omega), e 3 (by omega), e 4 (by omega), e 5 (by omega), e6, e7]
  have h9 := h5.2 c hc
  refine ⟨h9.1, h9.2.1, h9.2.2.1, h9.2.2.2.1, h9.2.2.2.2.1, ?_⟩
  by_cases q : c = s
  · rw [if_pos q, if_pos q]; exact hz
  · rw [if_neg q, if_neg q]; exact h9.2.2.2.2.2
theorem Tm_c {v v' : Nat → Int} {sp : Int} (h : ∀ k, 24 ≤ k → k < 60 → v' k = v k) : ∀ k : Nat, k ≤ 6 → Tm v' sp k = Tm v sp k := by
  intro k
  induction k with
  | zero => intro _; rfl
  | succ k ih =>
    intro hk
    show Tm v' sp k + sg v' sp k = Tm v sp k + sg v sp k
    rw [ih (by omega)]
    unfold sg br
    rw [h _ (by omega) (by omega), h _ (by omega) (by omega)]
theorem pt_c {v v' : Nat → Int} {s : Nat} {sp : Int} (h4 : v' 4 = v 4) (hb : 0 ≤ v 4 ∧ v 4 ≤ 6) (h : ∀ k, 24 ≤ k → k < 60 → v' k = v k) (h5 : sh v' s 5 = sh v s 5) : pt v' s sp = pt v s sp := by
  unfold pt cm
  rw [h4, h5]
  by_cases c : v 4 = 0
  · rw [if_pos c, if_pos c]
  · rw [if_neg c, if_neg c]
    have e : ∀ b j, b < 6 → j < 6 → br v' b j = br v b j := fun b j hb hj => h _ (by omega) (by omega)
    rw [Tm_c h (v 4).toNat (by omega), Tm_c h (0 + 1) (by omega), Tm_c h 0 (by omega), Tm_c h ((v 4).toNat - 1 + 1) (by omega), Tm_c h ((v 4).toNat - 1) (by omega), e 0 0 (by omega) (by omega), e 0 2 (by omega) (by omega), e ((v 4).toNat - 1) 0 (by omega) (by omega), e ((v 4).toNat - 1) 2 (by omega) (by omega)]
end VU
