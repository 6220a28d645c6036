section MK
/-- what the model keeps: views, the oldest first -/
def mH (h : List (Nat → Int)) (m : xM) : Prop := m 96 5 = (h.length : Int) ∧ h.length ≤ 8 ∧ ∀ j, j < h.length → ∀ k, k < 709 → m 100 (709 * j + k) = h.getD j (fun _ => 0) k
def psh (h : List (Nat → Int)) (v : Nat → Int) : List (Nat → Int) := (if h.length = 8 then h.tail else h) ++ [v]
theorem psh_len {h : List (Nat → Int)} {v : Nat → Int} (h8 : h.length ≤ 8) : (psh h v).length = if h.length = 8 then 8 else h.length + 1 := by
  unfold psh
  split <;> simp [*]
theorem getD_tl {h : List (Nat → Int)} {j : Nat} {d : Nat → Int} : h.tail.getD j d = h.getD (j + 1) d := by
  cases h with
  | nil => simp
  | cons a l => simp
theorem getD_ap {h : List (Nat → Int)} {v d : Nat → Int} {j : Nat} : (h ++ [v]).getD j d = if j < h.length then h.getD j d else if j = h.length then v else d := by
  by_cases c : j < h.length
  · rw [if_pos c]; simp [List.getD_eq_getElem?_getD, List.getElem?_append_left c]
  · rw [if_neg c]
    by_cases e : j = h.length
    · rw [if_pos e, e]; simp
    · rw [if_neg e]
      simp [List.getD_eq_getElem?_getD, List.getElem?_append_right (by omega : h.length ≤ j)]
      rw [List.getElem?_eq_none (by simp; omega)]
      rfl
theorem mH_end {h : List (Nat → Int)} {v : Nat → Int} {m : xM} {h1 : List (Nat → Int)} (hl : h1.length ≤ 7) (hc : m 96 5 = (h1.length : Int) + 1) (hk : ∀ j, j < h1.length → ∀ k, k < 709 → m 100 (709 * j + k) = h1.getD j (fun _ => 0) k) (hn : ∀ k, k < 709 → m 100 (709 * h1.length + k) = v k) : mH (h1 ++ [v]) m := by
  refine ⟨by rw [hc]; simp, by simp; omega, fun j hj k hkk => ?_⟩
  rw [getD_ap]
  simp at hj
  by_cases c : j < h1.length
  · rw [if_pos c]; exact hk j c k hkk
  · rw [if_neg c, if_pos (by omega), show j = h1.length by omega]
    exact hn k hkk
set_option maxRecDepth 20000 in
theorem ke_1 {E : xE} {f : Nat → Nat} {D : Nat → Nat × Nat} {n : Nat} {m : xM} {P : xPo} {PX : xPx} (hK : ∀ m1, ag [100] m m1 → (∀ q, q < 4963 → m1 100 q = m 100 (q + 709)) → xX E (("keeps", none, []), (0, 0, 0), P, PX) RX6 cX6_keeps 2 0 0 40 [(0, vr E 96)] [] (gS f D n) m1) :
    ∀ (j k : Nat) (m1 : xM), 4963 < k + j → k ≤ 4963 → ag [100] m m1 → (∀ q, q < k → m1 100 q = m 100 (q + 709)) → (∀ q, k ≤ q → m1 100 q = m 100 q) → xX E (("keeps", none, []), (0, 0, 0), P, PX) RX6 cX6_keeps 2 0 0 11 [(0, vr E 96), (1, vi (k : Int))] [] (gS f D n) m1 := by
  intro j
  induction j with
  | zero => intro k m1 h1 h2; omega
  | succ j ih =>
    intro k m1 h1 h2 ha1 hb hu
    refine x_iload_n dX6_keeps_11 rfl ?_
    refine x_sipush dX6_keeps_12 (h := ?_)
    refine x_icmp_ge (tgt := 40) dX6_keeps_15 (by decide) (by omega) (fun h15 => ?_) (fun h15 => ?_)
    · exact x_loc (lv' := [(0, vr E 96)]) ⟨rfl, trivial⟩ (hK m1 ha1 (fun q hq => hb q (by omega)))
    · refine x_aload_n dX6_keeps_18 rfl ?_
      refine x_getR (r := 100) fX6_23 dX6_keeps_19 rfl rfl ?_
      refine x_iload_n dX6_keeps_22 rfl ?_
      refine x_aload_n dX6_keeps_23 rfl ?_
      refine x_getR (r := 100) fX6_23 dX6_keeps_24 rfl rfl ?_
      refine x_iload_n dX6_keeps_27 rfl ?_
      refine x_sipush dX6_keeps_28 (h := ?_)
      refine x_iadd dX6_keeps_31 ?_
      refine x_iald (j := k + 709) dX6_keeps_32 rfl (by omega) (show _ < 5672 by omega) (by omega) ?_
      refine x_top (hu (k + 709) (by omega)) ?_
      refine x_iast (j := k) dX6_keeps_33 rfl (by decide) (by omega) (show _ < 5672 by omega) (by omega) ?_
      refine x_iinc dX6_keeps_34 rfl ?_
      refine x_goto (tgt := 11) dX6_keeps_37 (by decide) ?_
      exact x_loc (lv' := [(0, vr E 96), (1, vi ((k + 1 : Nat) : Int))]) ⟨rfl, xl_i rfl (by omega), trivial⟩ (ih (k + 1) _ (by omega) (by omega) (ha1.u (by decide)) (lt_s (fun q hq => by rw [xu_if, if_neg (by omega)]; exact hb q hq) (by rw [xu_if, if_pos rfl])) (fun q hq => by rw [xu_if, if_neg (by omega)]; exact hu q (by omega)))

set_option maxRecDepth 20000 in
theorem ke_2 {E : xE} {f : Nat → Nat} {D : Nat → Nat × Nat} {n : Nat} {m : xM} {P : xPo} {PX : xPx} {v : Nat → Int} {t : Nat} (hN : mN v m) (ht : t ≤ 7) (hc : m 96 5 = (t : Int)) (hK : ∀ m1, ag [100] m m1 → (∀ q, q < 709 → m1 100 (709 * t + q) = v q) → (∀ q, q < 709 * t → m1 100 q = m 100 q) → xX E (("keeps", none, []), (0, 0, 0), P, PX) RX6 cX6_keeps 2 0 0 86 [(0, vr E 96)] [] (gS f D n) m1) :
    ∀ (j k : Nat) (m1 : xM), 709 < k + j → k ≤ 709 → ag [100] m m1 → (∀ q, q < k → m1 100 (709 * t + q) = v q) → (∀ q, q < 709 * t → m1 100 q = m 100 q) → xX E (("keeps", none, []), (0, 0, 0), P, PX) RX6 cX6_keeps 2 0 0 52 [(0, vr E 96), (1, vi (k : Int))] [] (gS f D n) m1 := by
  intro j
  induction j with
  | zero => intro k m1 h1 h2; omega
  | succ j ih =>
    intro k m1 h1 h2 ha1 hb hu
    refine x_iload_n dX6_keeps_52 rfl ?_
    refine x_sipush dX6_keeps_53 (h := ?_)
    refine x_icmp_ge (tgt := 86) dX6_keeps_56 (by decide) (by omega) (fun h56 => ?_) (fun h56 => ?_)
    · exact x_loc (lv' := [(0, vr E 96)]) ⟨rfl, trivial⟩ (hK m1 ha1 (fun q hq => hb q (by omega)) hu)
    · refine x_aload_n dX6_keeps_59 rfl ?_
      refine x_getR (r := 100) fX6_23 dX6_keeps_60 rfl rfl ?_
      refine x_sipush dX6_keeps_63 (h := ?_)
      refine x_aload_n dX6_keeps_66 rfl ?_
      refine x_getI fX6_62 dX6_keeps_67 rfl ?_
      refine x_top (show m1 96 5 = (t : Int) by rw [ha1 96 (by decide)]; exact hc) ?_
      refine x_imul dX6_keeps_70 ?_
      refine x_iload_n dX6_keeps_71 rfl ?_
      refine x_iadd dX6_keeps_72 ?_
      refine x_aload_n dX6_keeps_73 rfl ?_
      refine x_getR (r := 98) fX6_17 dX6_keeps_74 rfl rfl ?_
      refine x_iload_n dX6_keeps_77 rfl ?_
      refine x_iald (j := k) dX6_keeps_78 rfl (by omega) (show _ < 709 by omega) (by omega) ?_
      refine x_top (show m1 98 k = v k by rw [ha1 98 (by decide)]; exact hN k (by omega)) ?_
      refine x_iast (j := 709 * t + k) dX6_keeps_79 rfl (by decide) (by omega) (show _ < 5672 by omega) (by omega) ?_
      refine x_iinc dX6_keeps_80 rfl ?_
      refine x_goto (tgt := 52) dX6_keeps_83 (by decide) ?_
      exact x_loc (lv' := [(0, vr E 96), (1, vi ((k + 1 : Nat) : Int))]) ⟨rfl, xl_i rfl (by omega), trivial⟩ (ih (k + 1) _ (by omega) (by omega) (ha1.u (by decide)) (lt_s (fun q hq => by rw [xu_if, if_neg (by omega)]; exact hb q hq) (by rw [xu_if, if_pos rfl])) (fun q hq => by rw [xu_if, if_neg (by omega)]; exact hu q hq))

set_option maxRecDepth 20000 in
theorem s_keeps {E : xE} {f : Nat → Nat} {D : Nat → Nat × Nat} {n : Nat} {m : xM} {P : xPo} {PX : xPx} {v : Nat → Int} {h : List (Nat → Int)} (hN : mN v m) (hH : mH h m) (hP : ∀ m', ag [96, 100] m m' → (∀ j, j ≠ 5 → m' 96 j = m 96 j) → mH (psh h v) m' → P none (gS f D n) m') : xC E (yX6_keeps, cX6_keeps, 2, none) 0 0 0 [vr E 96] (gS f D n) m P PX := by
  refine x_enter (by decide) rfl rfl (Nat.le_of_ble_eq_true rfl) ?_
  have h9 := hH.2.1
  refine x_aload_n dX6_keeps_0 rfl ?_
  refine x_getI fX6_62 dX6_keeps_1 rfl ?_
  refine x_top (hH.1) ?_
  refine x_bipush dX6_keeps_4 (h := ?_)
  refine x_icmp_ne (tgt := 50) dX6_keeps_6 (by decide) (by have := hH.2.1; omega) (fun h6 => ?_) (fun h6 => ?_)
  · have h8 : ¬ h.length = 8 := by omega
    obtain ⟨t, htl⟩ : ∃ t, t = h.length := ⟨_, rfl⟩
    refine x_iconst dX6_keeps_50 ?_
    refine x_istore_n dX6_keeps_51 ?_
    refine x_loc (lv' := [(0, vr E 96), (1, vi ((0 : Nat) : Int))]) ⟨rfl, rfl, trivial⟩ (ke_2 (t := t) (hN) (by omega) (by rw [hH.1, htl]) (fun m2 ha2 hb2 hu2 => ?_) 710 0 _ (by omega) (by omega) ag.rf (fun q hq => absurd hq (Nat.not_lt_zero q)) (fun _ _ => rfl))
    refine x_aload_n dX6_keeps_86 rfl ?_
    refine x_dup dX6_keeps_87 vr_cat ?_
    refine x_getI fX6_62 dX6_keeps_88 rfl ?_
    refine x_top (show m2 96 5 = (t : Int) by rw [ha2 96 (by decide)]; exact by rw [hH.1, htl]) ?_
    refine x_iconst dX6_keeps_91 ?_
    refine x_iadd dX6_keeps_92 ?_
    refine x_putI fX6_62 dX6_keeps_93 rfl (by decide) rfl rfl ?_
    exact x_vret dX6_keeps_96 (hP _ ((ha2.wk (by decide)).u (by decide)) (fun j hj => by rw [xu_if, if_neg hj, ha2 96 (by decide)]) (by
        unfold psh
        rw [if_neg h8]
        refine mH_end (h := h) (by omega) (by rw [xu_if, if_pos rfl]; omega) (fun j hj k hk => ?_) (fun k hk => ?_)
        · rw [xu_ne (by decide), hu2 _ (by omega)]; exact hH.2.2 j hj k hk
        · rw [xu_ne (by decide), ← htl]; exact hb2 k hk))
  · have h8 : h.length = 8 := by omega
    refine x_iconst dX6_keeps_9 ?_
    refine x_istore_n dX6_keeps_10 ?_
    refine x_loc (lv' := [(0, vr E 96), (1, vi ((0 : Nat) : Int))]) ⟨rfl, rfl, trivial⟩ (ke_1 (fun m1 ha1 hb1 => ?_) 4964 0 m (by omega) (by omega) ag.rf (fun q hq => absurd hq (Nat.not_lt_zero q)) (fun _ _ => rfl))
    refine x_aload_n dX6_keeps_40 rfl ?_
    refine x_dup dX6_keeps_41 vr_cat ?_
    refine x_getI fX6_62 dX6_keeps_42 rfl ?_
    refine x_top (show m1 96 5 = (8 : Int) by rw [ha1 96 (by decide), hH.1]; omega) ?_
    refine x_iconst dX6_keeps_45 ?_
    refine x_isub dX6_keeps_46 ?_
    refine x_putI fX6_62 dX6_keeps_47 rfl (by decide) rfl rfl ?_
    refine x_iconst dX6_keeps_50 ?_
    refine x_istore_n dX6_keeps_51 ?_
    refine x_loc (lv' := [(0, vr E 96), (1, vi ((0 : Nat) : Int))]) ⟨rfl, rfl, trivial⟩ (ke_2 (t := 7) (hN.ag ((ha1.wk (S := [100]) (U := [96, 100]) (by decide)).u (by decide)) (by decide)) (by omega) (by rw [xu_if, if_pos rfl]; rfl) (fun m2 ha2 hb2 hu2 => ?_) 710 0 _ (by omega) (by omega) ag.rf (fun q hq => absurd hq (Nat.not_lt_zero q)) (fun _ _ => rfl))
    refine x_aload_n dX6_keeps_86 rfl ?_
    refine x_dup dX6_keeps_87 vr_cat ?_
    refine x_getI fX6_62 dX6_keeps_88 rfl ?_
    refine x_top (show m2 96 5 = ((7 : Nat) : Int) by rw [ha2 96 (by decide)]; exact by rw [xu_if, if_pos rfl]; rfl) ?_
    refine x_iconst dX6_keeps_91 ?_
    refine x_iadd dX6_keeps_92 ?_
    refine x_putI fX6_62 dX6_keeps_93 rfl (by decide) rfl rfl ?_
    exact x_vret dX6_keeps_96 (hP _ ((((ha1.wk (by decide)).u (by decide)).tr (ha2.wk (by decide)) (fun _ z => z) (fun _ z => z)).u (by decide)) (fun j hj => by rw [xu_if, if_neg hj, ha2 96 (by decide), xu_if, if_neg hj, ha1 96 (by decide)]) (by
        unfold psh
        rw [if_pos (by omega)]
        have htl : h.tail.length = 7 := by rw [List.length_tail]; omega
        refine mH_end (h := h) (by omega) (by rw [xu_if, if_pos rfl, htl]) (fun j hj k hk => ?_) (fun k hk => ?_)
        · rw [xu_ne (by decide), hu2 _ (by omega), xu_ne (by decide), hb1 _ (by omega), getD_tl, show 709 * j + k + 709 = 709 * (j + 1) + k by omega]
          exact hH.2.2 (j + 1) (by omega) k hk
        · rw [xu_ne (by decide), htl]; exact hb2 k hk))

end MK
