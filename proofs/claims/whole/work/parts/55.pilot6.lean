section PW
/-- a row of minutes begins; how many begin ahead; where it ends; what is asked of rows -/
def wst (S : Nat → Prop) (i : Nat) : Prop := S i ∧ (i = 0 ∨ ¬ S (i - 1))
noncomputable def wn (S : Nat → Prop) : Nat → Int
  | 0 => 0
  | i + 1 => wn S i + zi (wst S i)
def wnd (S : Nat → Prop) (i e : Nat) : Prop := i ≤ e ∧ e < 1440 ∧ (∀ j, i < j → j ≤ e → S j) ∧ (e + 1 = 1440 ∨ ¬ S (e + 1))
def wR (S : Nat → Prop) (k what r : Int) : Prop :=
  (∃ i : Nat, i < 1440 ∧ wst S i ∧ wn S i = k ∧ ((what = 0 ∧ r = (i : Int)) ∨ (what ≠ 0 ∧ ∃ e : Nat, wnd S i e ∧ r = (e : Int)))) ∨
  ((∀ i : Nat, i < 1440 → wst S i → wn S i ≠ k) ∧ ((k = -1 ∧ r = wn S 1440) ∨ (k ≠ -1 ∧ r = -1000000)))
theorem wn_b (S : Nat → Prop) : ∀ i : Nat, 0 ≤ wn S i ∧ wn S i ≤ (i : Int) := by
  intro i
  induction i with
  | zero => exact ⟨Int.le_refl _, Int.le_refl _⟩
  | succ i ih =>
    have := zi_01 (wst S i)
    show 0 ≤ wn S i + zi (wst S i) ∧ wn S i + zi (wst S i) ≤ _
    omega
theorem wn_t {S : Nat → Prop} {i : Nat} (h : wst S i) : wn S (i + 1) = wn S i + 1 := by show wn S i + zi (wst S i) = _; rw [zi_t h]
theorem wn_f {S : Nat → Prop} {i : Nat} (h : ¬ wst S i) : wn S (i + 1) = wn S i := by show wn S i + zi (wst S i) = _; rw [zi_f h]; omega
theorem wn_m (S : Nat → Prop) (i : Nat) : ∀ j : Nat, wn S i ≤ wn S (i + j) := by
  intro j
  induction j with
  | zero => exact Int.le_refl _
  | succ j ih =>
    have := zi_01 (wst S (i + j))
    show _ ≤ wn S (i + j) + zi (wst S (i + j))
    omega
theorem wn_u {S : Nat → Prop} {i j : Nat} (hi : wst S i) (hj : wst S j) (h : wn S i = wn S j) : i = j := by
  have aux : ∀ a b : Nat, wst S a → a < b → wn S a < wn S b := by
    intro a b ha hab
    have h1 := wn_m S (a + 1) (b - (a + 1))
    rw [show a + 1 + (b - (a + 1)) = b by omega, wn_t ha] at h1
    omega
  rcases (by omega : i < j ∨ i = j ∨ j < i) with q | q | q
  · have := aux i j hi q; omega
  · exact q
  · have := aux j i hj q; omega
theorem wnd_u {S : Nat → Prop} {i a b : Nat} (ha : wnd S i a) (hb : wnd S i b) : a = b := by
  obtain ⟨a1, a2, a3, a4⟩ := ha
  obtain ⟨b1, b2, b3, b4⟩ := hb
  rcases (by omega : a < b ∨ a = b ∨ b < a) with q | q | q
  · rcases a4 with z | z
    · omega
    · exact absurd (b3 (a + 1) (by omega) (by omega)) z
  · exact q
  · rcases b4 with z | z
    · omega
    · exact absurd (a3 (b + 1) (by omega) (by omega)) z
theorem wR_u {S : Nat → Prop} {k what r r' : Int} (h : wR S k what r) (h' : wR S k what r') : r = r' := by
  rcases h with ⟨i, h1, h2, h3, h4⟩ | ⟨h1, h2⟩
  · rcases h' with ⟨j, g1, g2, g3, g4⟩ | ⟨g1, g2⟩
    · have e := wn_u h2 g2 (by omega)
      subst e
      rcases h4 with ⟨q1, q2⟩ | ⟨q1, e, q2, q3⟩
      · rcases g4 with ⟨p1, p2⟩ | ⟨p1, e, p2, p3⟩
        · omega
        · exact absurd q1 p1
      · rcases g4 with ⟨p1, p2⟩ | ⟨p1, e', p2, p3⟩
        · exact absurd p1 q1
        · have := wnd_u q2 p2
          omega
    · exact absurd h3 (g1 i h1 h2)
  · rcases h' with ⟨j, g1, g2, g3, g4⟩ | ⟨g1, g2⟩
    · exact absurd g3 (h1 j g1 g2)
    · omega
theorem wR_b {S : Nat → Prop} {k what r : Int} (h : wR S k what r) : (r = -1000000 ∧ k ≠ -1) ∨ (0 ≤ r ∧ r ≤ 1440) := by
  rcases h with ⟨i, h1, h2, h3, h4⟩ | ⟨h1, h2⟩
  · rcases h4 with ⟨q1, q2⟩ | ⟨q1, e, q2, q3⟩
    · omega
    · have := q2.2.1; omega
  · have := wn_b S 1440
    omega
set_option maxRecDepth 20000 in
theorem s_windowEnd {E : xE} {f : Nat → Nat} {D : Nat → Nat × Nat} {n : Nat} {m : xM} {P : xPo} {PX : xPx} {S : Nat → Prop} {i0 : Nat} (hS : ∀ i : Nat, i < 1440 → 0 ≤ m 92 i ∧ m 92 i < 64 ∧ (m 92 i ≠ 0 ↔ S i)) (hi : i0 < 1440) (hP : ∀ e : Nat, wnd S i0 e → P (some (vi (e : Int))) (gS f D n) m) : xC E (yX2_windowEnd, cX2_windowEnd, 3, some .int) 0 0 0 [vr E 88, vi (i0 : Int)] (gS f D n) m P PX := by
  refine x_enter (by decide) rfl rfl (Nat.le_of_ble_eq_true rfl) ?_
  have loop : ∀ (j i : Nat), 1439 < i + j → i ≤ 1439 → i0 ≤ i → (∀ k, i0 < k → k ≤ i → S k) → xX E (("windowEnd", some .int, []), (0, 0, 0), P, PX) RX2 cX2_windowEnd 3 0 0 2 [(0, vr E 88), (1, vi (i0 : Int)), (2, vi (i : Int))] [] (gS f D n) m := by
    intro j
    induction j with
    | zero => intro i h1 h2; omega
    | succ j ih =>
      intro i h1 h2 h0 hr
      refine x_iload_n dX2_windowEnd_2 rfl ?_
      refine x_sipush dX2_windowEnd_3 (h := ?_)
      refine x_icmp_ge (tgt := 28) dX2_windowEnd_6 (by decide) (by omega) (fun h6 => ?_) (fun h6 => ?_)
      · have ei : i = 1439 := by omega
        subst ei
        refine x_sipush dX2_windowEnd_28 (h := ?_)
        exact x_iret dX2_windowEnd_31  (hP 1439 ⟨by omega, by omega, hr, Or.inl rfl⟩)
      · have hx := hS (i + 1) (by omega)
        refine x_aload_n dX2_windowEnd_9 rfl ?_
        refine x_getR (r := 92) fX2_22 dX2_windowEnd_10 rfl rfl ?_
        refine x_iload_n dX2_windowEnd_13 rfl ?_
        refine x_iconst dX2_windowEnd_14 ?_
        refine x_iadd dX2_windowEnd_15 ?_
        refine x_iald (j := i + 1) dX2_windowEnd_16 rfl (by omega) (show _ < 2640 by omega) (by omega) ?_
        refine x_if_ne (tgt := 22) dX2_windowEnd_17 (by decide) (by omega) (fun h17 => ?_) (fun h17 => ?_)
        · refine x_iinc dX2_windowEnd_22 rfl ?_
          refine x_goto (tgt := 2) dX2_windowEnd_25 (by decide) ?_
          exact x_loc (lv' := [(0, vr E 88), (1, vi (i0 : Int)), (2, vi ((i + 1 : Nat) : Int))]) ⟨rfl, rfl, xl_i rfl (by omega), trivial⟩ (ih (i + 1) (by omega) (by omega) (by omega) (fun k h3 h4 => by rcases (by omega : k ≤ i ∨ k = i + 1) with z | z; exact hr k h3 z; exact z ▸ hx.2.2.mp (by omega)))
        · refine x_iload_n dX2_windowEnd_20 rfl ?_
          exact x_iret dX2_windowEnd_21  (hP i ⟨by omega, by omega, hr, Or.inr (fun z => absurd (hx.2.2.mpr z) (by omega))⟩)
  refine x_iload_n dX2_windowEnd_0 rfl ?_
  refine x_istore_n dX2_windowEnd_1 ?_
  exact x_loc (lv' := [(0, vr E 88), (1, vi (i0 : Int)), (2, vi (i0 : Int))]) ⟨rfl, rfl, rfl, trivial⟩ (loop 1440 i0 (by omega) (by omega) (by omega) (fun k h3 h4 => by omega))

set_option maxRecDepth 20000 in
theorem s_windowPlace {E : xE} {f : Nat → Nat} {D : Nat → Nat × Nat} {n : Nat} {m : xM} {P : xPo} {PX : xPx} {S : Nat → Prop} {k what : Int} (hS : ∀ i : Nat, i < 1440 → 0 ≤ m 92 i ∧ m 92 i < 64 ∧ (m 92 i ≠ 0 ↔ S i)) (hk : -2147483648 ≤ k ∧ k ≤ 2147483647) (hw : -2147483648 ≤ what ∧ what ≤ 2147483647) (hP : ∀ r, wR S k what r → P (some (vi r)) (gS f D n) m) : xC E (yX2_windowPlace, cX2_windowPlace, 5, some .int) 1 0 0 [vr E 88, vi k, vi what] (gS f D n) m P PX := by
  refine x_enter (by decide) rfl rfl (Nat.le_of_ble_eq_true rfl) ?_
  have loop : ∀ (j i : Nat), 1440 < i + j → i ≤ 1440 → (∀ q, q < i → wst S q → wn S q ≠ k) → xX E (("windowPlace", some .int, []), (1, 0, 0), P, PX) RX2 cX2_windowPlace 5 0 0 5 [(0, vr E 88), (1, vi k), (2, vi what), (3, vi (wn S i)), (4, vi (i : Int))] [] (gS f D n) m := by
    intro j
    induction j with
    | zero => intro i h1 h2; omega
    | succ j ih =>
      intro i h1 h2 hn
      have hb := wn_b S i
      refine x_iload dX2_windowPlace_5 rfl ?_
      refine x_sipush dX2_windowPlace_7 (h := ?_)
      refine x_icmp_ge (tgt := 73) dX2_windowPlace_10 (by decide) (by omega) (fun h10 => ?_) (fun h10 => ?_)
      · have hi : i = 1440 := by omega
        refine x_iload_n dX2_windowPlace_73 rfl ?_
        refine x_iconst dX2_windowPlace_74 ?_
        refine x_icmp_ne (tgt := 82) dX2_windowPlace_75 (by decide) (by omega) (fun h75 => ?_) (fun h75 => ?_)
        · refine x_ldc kX2_89 dX2_windowPlace_82 ?_
          exact x_iret dX2_windowPlace_84  (hP (-1000000) (Or.inr ⟨fun q hl hq => hn q (by omega) hq, Or.inr ⟨by omega, rfl⟩⟩))
        · refine x_iload_n dX2_windowPlace_78 rfl ?_
          refine x_goto (tgt := 84) dX2_windowPlace_79 (by decide) ?_
          exact x_iret dX2_windowPlace_84  (hP _ (Or.inr ⟨fun q hl hq => hn q (by omega) hq, Or.inl ⟨by omega, hi ▸ rfl⟩⟩))
      · have hx := hS i (by omega)
        have hy := hS (i - 1) (by omega)
        refine x_aload_n dX2_windowPlace_13 rfl ?_
        refine x_getR (r := 92) fX2_22 dX2_windowPlace_14 rfl rfl ?_
        refine x_iload dX2_windowPlace_17 rfl ?_
        refine x_iald (j := i) dX2_windowPlace_19 rfl (by omega) (show _ < 2640 by omega) (by omega) ?_
        refine x_if_eq (tgt := 67) dX2_windowPlace_20 (by decide) (by omega) (fun h20 => ?_) (fun h20 => ?_)
        · refine x_iinc dX2_windowPlace_67 rfl ?_
          refine x_goto (tgt := 5) dX2_windowPlace_70 (by decide) ?_
          have hw : ¬ wst S i := fun z => absurd (hx.2.2.mpr z.1) (by omega)
          have hc := wn_f hw
          exact x_loc (lv' := [(0, vr E 88), (1, vi k), (2, vi what), (3, vi (wn S (i + 1))), (4, vi ((i + 1 : Nat) : Int))]) ⟨rfl, rfl, rfl, xl_i rfl (by omega), xl_i rfl (by omega), trivial⟩ (ih (i + 1) (by omega) (by omega) (fun q hl hq => by rcases (by omega : q < i ∨ q = i) with z | z; exact hn q z hq; exact absurd (z ▸ hq) hw))
        · refine x_iload dX2_windowPlace_23 rfl ?_
          refine x_if_le (tgt := 43) dX2_windowPlace_25 (by decide) (by omega) (fun h25 => ?_) (fun h25 => ?_)
          · have hw : wst S i := ⟨hx.2.2.mp (by omega), Or.inl (by omega)⟩
            refine x_iload_n dX2_windowPlace_43 rfl ?_
            refine x_iload_n dX2_windowPlace_44 rfl ?_
            refine x_icmp_ne (tgt := 64) dX2_windowPlace_45 (by decide) (by omega) (fun h45 => ?_) (fun h45 => ?_)
            · refine x_iinc dX2_windowPlace_64 rfl ?_
              refine x_iinc dX2_windowPlace_67 rfl ?_
              refine x_goto (tgt := 5) dX2_windowPlace_70 (by decide) ?_
              have hw : wst S i := ⟨hx.2.2.mp (by omega), Or.inl (by omega)⟩
              have hc := wn_t hw
              exact x_loc (lv' := [(0, vr E 88), (1, vi k), (2, vi what), (3, vi (wn S (i + 1))), (4, vi ((i + 1 : Nat) : Int))]) ⟨rfl, rfl, rfl, xl_i rfl (by omega), xl_i rfl (by omega), trivial⟩ (ih (i + 1) (by omega) (by omega) (fun q hl hq => by rcases (by omega : q < i ∨ q = i) with z | z; exact hn q z hq; subst z; omega))
            · refine x_iload_n dX2_windowPlace_48 rfl ?_
              refine x_if_ne (tgt := 57) dX2_windowPlace_49 (by decide) (by omega) (fun h49 => ?_) (fun h49 => ?_)
              · refine x_aload_n dX2_windowPlace_57 rfl ?_
                refine x_iload dX2_windowPlace_58 rfl ?_
                refine x_V1 mX2_144 dX2_windowPlace_60 rfl (s_windowEnd hS (by omega) (fun e he => ?_))
                exact x_iret dX2_windowPlace_63  (hP (e : Int) (Or.inl ⟨i, by omega, hw, by omega, Or.inr ⟨by omega, e, he, rfl⟩⟩))
              · refine x_iload dX2_windowPlace_52 rfl ?_
                refine x_goto (tgt := 63) dX2_windowPlace_54 (by decide) ?_
                exact x_iret dX2_windowPlace_63  (hP (i : Int) (Or.inl ⟨i, by omega, hw, by omega, Or.inl ⟨by omega, rfl⟩⟩))
          · refine x_aload_n dX2_windowPlace_28 rfl ?_
            refine x_getR (r := 92) fX2_22 dX2_windowPlace_29 rfl rfl ?_
            refine x_iload dX2_windowPlace_32 rfl ?_
            refine x_iconst dX2_windowPlace_34 ?_
            refine x_isub dX2_windowPlace_35 ?_
            refine x_iald (j := i - 1) dX2_windowPlace_36 rfl (by omega) (show _ < 2640 by omega) (by omega) ?_
            refine x_if_eq (tgt := 43) dX2_windowPlace_37 (by decide) (by omega) (fun h37 => ?_) (fun h37 => ?_)
            · have hw : wst S i := ⟨hx.2.2.mp (by omega), Or.inr (fun z => absurd (hy.2.2.mpr z) (by omega))⟩
              refine x_iload_n dX2_windowPlace_43 rfl ?_
              refine x_iload_n dX2_windowPlace_44 rfl ?_
              refine x_icmp_ne (tgt := 64) dX2_windowPlace_45 (by decide) (by omega) (fun h45 => ?_) (fun h45 => ?_)
              · refine x_iinc dX2_windowPlace_64 rfl ?_
                refine x_iinc dX2_windowPlace_67 rfl ?_
                refine x_goto (tgt := 5) dX2_windowPlace_70 (by decide) ?_
                have hw : wst S i := ⟨hx.2.2.mp (by omega), Or.inr (fun z => absurd (hy.2.2.mpr z) (by omega))⟩
                have hc := wn_t hw
                exact x_loc (lv' := [(0, vr E 88), (1, vi k), (2, vi what), (3, vi (wn S (i + 1))), (4, vi ((i + 1 : Nat) : Int))]) ⟨rfl, rfl, rfl, xl_i rfl (by omega), xl_i rfl (by omega), trivial⟩ (ih (i + 1) (by omega) (by omega) (fun q hl hq => by rcases (by omega : q < i ∨ q = i) with z | z; exact hn q z hq; subst z; omega))
              · refine x_iload_n dX2_windowPlace_48 rfl ?_
                refine x_if_ne (tgt := 57) dX2_windowPlace_49 (by decide) (by omega) (fun h49 => ?_) (fun h49 => ?_)
                · refine x_aload_n dX2_windowPlace_57 rfl ?_
                  refine x_iload dX2_windowPlace_58 rfl ?_
                  refine x_V1 mX2_144 dX2_windowPlace_60 rfl (s_windowEnd hS (by omega) (fun e he => ?_))
                  exact x_iret dX2_windowPlace_63  (hP (e : Int) (Or.inl ⟨i, by omega, hw, by omega, Or.inr ⟨by omega, e, he, rfl⟩⟩))
                · refine x_iload dX2_windowPlace_52 rfl ?_
                  refine x_goto (tgt := 63) dX2_windowPlace_54 (by decide) ?_
                  exact x_iret dX2_windowPlace_63  (hP (i : Int) (Or.inl ⟨i, by omega, hw, by omega, Or.inl ⟨by omega, rfl⟩⟩))
            · refine x_goto (tgt := 67) dX2_windowPlace_40 (by decide) ?_
              refine x_iinc dX2_windowPlace_67 rfl ?_
              refine x_goto (tgt := 5) dX2_windowPlace_70 (by decide) ?_
              have hw : ¬ wst S i := fun z => z.2.elim (fun q => by omega) (fun q => q (hy.2.2.mp (by omega)))
              have hc := wn_f hw
              exact x_loc (lv' := [(0, vr E 88), (1, vi k), (2, vi what), (3, vi (wn S (i + 1))), (4, vi ((i + 1 : Nat) : Int))]) ⟨rfl, rfl, rfl, xl_i rfl (by omega), xl_i rfl (by omega), trivial⟩ (ih (i + 1) (by omega) (by omega) (fun q hl hq => by rcases (by omega : q < i ∨ q = i) with z | z; exact hn q z hq; exact absurd (z ▸ hq) hw))
  refine x_iconst dX2_windowPlace_0 ?_
  refine x_istore_n dX2_windowPlace_1 ?_
  refine x_iconst dX2_windowPlace_2 ?_
  refine x_istore dX2_windowPlace_3 ?_
  exact x_loc (lv' := [(0, vr E 88), (1, vi k), (2, vi what), (3, vi (wn S 0)), (4, vi ((0 : Nat) : Int))]) ⟨rfl, rfl, rfl, rfl, rfl, trivial⟩ (loop 1441 0 (by omega) (by omega) (fun q hl => absurd hl (Nat.not_lt_zero q)))

end PW
