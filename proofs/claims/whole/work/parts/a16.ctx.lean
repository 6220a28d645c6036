section CY
theorem s_cundo {E : xE} {f : Nat → Nat} {D : Nat → Nat × Nat} {n : Nat} {m : xM} {P : xPo} {PX : xPx} {v : Nat → Int} {h : List (Nat → Int)} (hI : cI v h f D n m) (hP0 : h = [] → P (some (vi (-1))) (gS f D n) m) (hP : ∀ t m' f', h.length = t + 1 → cI (vun v (h.getD t (fun _ => 0))) h.dropLast f' D n m' → kp [] m m' → P (some (vi (t : Int))) (gS f' D n) m') : xC E (yX5_undo, cX5_undo, 1, some .int) 12 8 64 [vr E 40] (gS f D n) m P PX := by
  refine x_enter (by decide) rfl rfl (Nat.le_of_ble_eq_true rfl) ?_
  have hI0 := hI
  obtain ⟨i1, i2, i3, i5, i6, p, q1, q2, q3, q4, q5⟩ := hI
  have h10 : 0 < h.length → 0 ≤ m (47 + 4 * ((p + 7) % 8)) 10 ∧ m (47 + 4 * ((p + 7) % 8)) 10 ≤ 1 := by
    intro h0
    have := (q5 (h.length - 1) (by omega)).2.1.2.2
    rw [show (p + 8 - h.length + (h.length - 1)) % 8 = (p + 7) % 8 by omega] at this
    rcases this with ⟨q, -⟩ | q <;> omega
  refine x_aload_n dX5_undo_0 rfl ?_
  refine x_getR (r := 45) fX5_19 dX5_undo_1 rfl rfl ?_
  refine x_aload_n dX5_undo_4 rfl ?_
  refine x_getR (r := 41) fX5_10 dX5_undo_5 rfl rfl ?_
  refine x_V1 mX5_139 dX5_undo_8 rfl (s_giveBack q1 q2 q3 q4 h10 (fun h0 => ?_) (fun h0 m' hcp => ?_))
  · refine x_if_eq (tgt := 24) dX5_undo_11 (by decide) (by decide) (fun h11 => ?_) (fun h11 => ?_)
    · refine x_iconst dX5_undo_24 ?_
      exact x_iret dX5_undo_25 (hP0 (List.length_eq_zero_iff.mp h0))
    · exact absurd rfl h11
  · refine x_if_eq (tgt := 24) dX5_undo_11 (by decide) (by decide) (fun h11 => ?_) (fun h11 => ?_)
    · omega
    · obtain ⟨t, ht⟩ : ∃ t, h.length = t + 1 := ⟨h.length - 1, by omega⟩
      have hG := hI0.give h0 q1 q2 hcp
      have e45 : m' 45 2 = (t : Int) := by rw [hcp.1 45 (by decide)]; simp [xu_if]; omega
      refine x_aload_n dX5_undo_14 rfl ?_
      refine x_getR (r := 45) fX5_19 dX5_undo_15 rfl rfl ?_
      refine x_getI fX5_143 dX5_undo_18 rfl ?_
      refine x_top e45 ?_
      refine x_goto (tgt := 25) dX5_undo_21 (by decide) ?_
      refine x_iret dX5_undo_25 (hP t m' _ ht (by rw [ht] at hG; exact hG) ⟨fun c x y => ?_, ?_, fun j _ => ?_⟩)
      · rw [hcp.1 c (by simp; omega), xu_ne (by omega), xu_ne (by omega)]
      · rw [hcp.1 79 (by decide), xu_ne (by omega), xu_ne (by omega)]
      · rw [hcp.1 40 (by decide), xu_ne (by omega), xu_ne (by omega)]
/-- a text read: the draft becomes the chart -/
theorem cI.fr {v : Nat → Int} {h : List (Nat → Int)} {f f' : Nat → Nat} {D D' : Nat → Nat × Nat} {n n' : Nat} {m m' : xM} (hI : cI v h f D n m) (hn : n ≤ n' ∧ f' 82 < n') (hf : ∀ c, c ≠ 82 → f' c = f c) (hD : ∀ c, c < n → D' c = D c) (hm : ∀ c, c < n → c ∉ ([80, 81, 82, 83, 84, 85] : List Nat) → c ≠ 40 → m' c = m c) (h7 : m' 40 7 = m 40 7) : cI v h f' D' n' m' := by
  obtain ⟨⟨j0, j1, j2⟩, i2, i3, i5, i6, p, q1, q2, q3, q4, q5⟩ := hI
  have h41 : hA 41 v v f D m := ⟨j0, hC_41.mpr ⟨j1.1, j2⟩, j1.2.1.2, j1.2.2.1.1, i3.1⟩
  have hmv : ∀ c w, c ∈ chL → c ≠ 82 → hA c w v f D m → hA c w v f' D' m' := by
    intro c w hc h82 hh
    have hcb := ch_1 c hc
    have hap := ch_3 82 (by decide) c hc h82
    have h80 : c + 3 < 80 := by revert hap h82; revert hc; unfold chL; simp; omega
    refine hh.mv (hf c h82) (hD _ (i6 c hc)) (hm _ (by omega) (by simp; omega) (by omega)) (hm _ (by omega) (by simp; omega) (by omega)) (hm _ (by omega) (by simp; omega) (by omega)) (hm _ (by omega) (by simp; omega) (by omega)) (fun z => hm _ (i6 c hc) (by simp; omega) (by omega)) (by rw [h7]; exact Int.le_refl _) (fun _ _ _ _ => rfl)
  obtain ⟨a1, a2, a3, a4, a5⟩ := hmv 41 v (by decide) (by decide) h41
  obtain ⟨b1, b2⟩ := hC_41.mp a2
  have e45 : m' 45 = m 45 := hm 45 (by omega) (by decide) (by decide)
  refine ⟨⟨j0, ⟨b1, ⟨?_, a3⟩, ⟨a4, by rw [h7] at a5; omega⟩, ?_⟩, b2⟩, by rw [h7]; exact i2, ⟨a5, by rw [h7]; exact i3.2⟩, by omega, fun c hc => ?_, p, by rw [e45]; exact q1, q2, by rw [e45]; exact q3, q4, fun i hi => hmv _ _ (ch_4 _ (by omega)) (by omega) (q5 i hi)⟩
  · rw [hm 86 (by omega) (by decide) (by decide), hm 87 (by omega) (by decide) (by decide)]; exact j1.2.1.1
  · rw [hm 86 (by omega) (by decide) (by decide)]; exact j1.2.2.2
  · by_cases z : c = 82
    · rw [z]; exact hn.2
    · rw [hf c z]; have := i6 c hc; omega
theorem cI.tx {v r : Nat → Int} {h : List (Nat → Int)} {f : Nat → Nat} {D : Nat → Nat × Nat} {n : Nat} {m m1 m2 : xM} (hI : cI v h f D n m) (hr : vOk r) (h82 : hC 82 r f D m) (hT : m 40 7 < 100000) (h1 : m1 = xu m 40 7 (m 40 7 + 1)) (hcp : cpR 41 82 m1 m2) : cI (vtx v r ((m 40 7).toNat + 1)) h (fu f 41 (f 82)) D n (xu m2 41 11 (m 40 7 + 1)) := by
  obtain ⟨⟨j0, ⟨j1, ⟨j2, j3⟩, j4, j5⟩, j6, j7⟩, i2, i3, i5, i6, p, q1, q2, q3, q4, q5⟩ := hI
  have hT0 : 0 ≤ m 40 7 := by omega
  have hr3 := hr.1.2.2.2.1.1
  generalize hm3 : xu m2 41 11 (m 40 7 + 1) = m3
  have e1 : ∀ q, q ≠ 40 → m1 q = m q := fun q hq => by rw [h1, xu_ne hq]
  have eo : ∀ q, q ∉ [41, 42, 43, 44] → q ≠ 40 → m3 q = m q := fun q h2 h3 => by rw [← hm3, xu_ne (by simp at h2; omega), hcp.1 q h2, e1 q h3]
  have e7 : m3 40 7 = m 40 7 + 1 := by rw [← hm3, xu_ne (by omega), hcp.1 40 (by decide), h1]; simp [xu_if]
  have e11 : m3 41 11 = m 40 7 + 1 := by rw [← hm3]; simp [xu_if]
  have h82' : hC 82 r f D m1 := h82.mv rfl rfl (e1 _ (by omega)) (e1 _ (by omega)) (e1 _ (by omega)) (e1 _ (by omega)) (fun z => e1 _ (by omega))
  have ho : ∀ j, j ≠ 11 → m3 41 j = m2 41 j := fun j hj => by rw [← hm3, xu_if, if_neg hj]
  have hN : hC 41 r (fu f 41 (f 82)) D m3 := by
    have h0 := h82'.cp hr (show 41 ∈ chL by decide) hcp
    unfold hC at *
    rw [ho 0 (by omega), ho 1 (by omega), ho 2 (by omega), ho 3 (by omega), ho 4 (by omega), ho 5 (by omega), ho 10 (by omega), fu_s]
    rw [fu_s] at h0
    have e2 : ∀ q, q ≠ 41 → m3 q = m2 q := fun q hq => by rw [← hm3, xu_ne hq]
    rw [e2 42 (by omega), e2 43 (by omega), e2 44 (by omega)]
    refine ⟨h0.1, ?_, h0.2.2⟩
    rcases h0.2.1 with q | ⟨r1, r2, r3, r4⟩
    · exact Or.inl q
    · exact Or.inr ⟨r1, r2, r3, by rw [e2 _ (by omega)]; exact r4⟩
  have hl : ∀ k, k < 1000 → vtx v r ((m 40 7).toNat + 1) k = r k := fun k hk => vtx_l hk
  obtain ⟨b1, b2⟩ := hC_41.mp (hN.v hr hl)
  have hgn : ∀ t x, 0 ≤ t → t ≤ m 40 7 → gws (vtx v r ((m 40 7).toNat + 1)) t x = gws v t x := fun t x h2 h3 => vtx_gn (i2.1 t) (by omega)
  refine ⟨⟨vOk_l hl hr, ⟨b1, ⟨?_, ?_⟩, by rw [e11]; omega, ?_⟩, b2⟩, ?_, by rw [e11, e7]; omega, i5, fun c hc => ?_, p, by rw [eo 45 (by decide) (by omega)]; exact q1, q2, by rw [eo 45 (by decide) (by omega)]; exact q3, q4, fun i hi => ?_⟩
  · rw [eo 86 (by decide) (by omega), eo 87 (by decide) (by omega)]
    intro q hq
    by_cases c : m 86 2 = m 40 7 + 1
    · left
      rcases j2 q hq with z | z
      · exact z
      · rw [i2.2 (m 86 2) (by omega) _ (by omega) (by omega)] at z; omega
    · rw [vtx_gn (i2.1 _) (by omega)]; exact j2 q hq
  · intro x
    rw [e11, show m 40 7 + 1 = (((m 40 7).toNat + 1 : Nat) : Int) by omega, vtx_gs hr3.2, hl 3 (by omega)]
    exact (wsum_c (fun k _ h2 => hl k (by omega)) _ (by omega)).symm
  · rw [eo 86 (by decide) (by omega)]; exact j5
  · rw [e7]; exact i2.x hT0 hr3.2
  · by_cases z : c = 41
    · rw [z, fu_s]; exact i6 82 (by decide)
    · rw [fu_n z]; exact i6 c hc
  · have hap := ch_ap (c := 41) (by decide) (ch_4 ((p + 8 - h.length + i) % 8) (by omega)) (by omega)
    exact (q5 i hi).mv (fu_n (by omega)) rfl (eo _ (hap _ (by omega)) (by omega)) (eo _ (hap _ (by omega)) (by omega)) (eo _ (hap _ (by omega)) (by omega)) (eo _ (hap _ (by omega)) (by omega)) (fun z => eo _ (by simp; omega) (by omega)) (by rw [e7]; omega) hgn
end CY
