section PK
theorem fs_w {v : Nat → Int} {sp bk dr w w' : Int} (h : ∀ k : Nat, (k : Int) < v 108 → fi v k ≠ -4) (hO : fOk v) : ∀ k : Nat, (k : Int) ≤ v 108 → ∀ i, fs v sp bk dr w k i = fs v sp bk dr w' k i := by
  intro k
  induction k with
  | zero => intro _ i; rfl
  | succ k ih =>
    intro hk i
    have hi := ih (by omega)
    by_cases c : fi v k ≤ -11
    · rw [fs_op c, fs_op c, hi, hi, hi]
    · rw [fs_va c, fs_va c, hi]
      have h4 := h k (by omega)
      rcases hO.2.1 k (by omega) with q | q
      · omega
      · have e : fv (fi v k) sp bk dr w = fv (fi v k) sp bk dr w' := by
          unfold fv
          by_cases c0 : 0 ≤ fi v k
          · rw [if_pos c0, if_pos c0]
          · rw [if_neg c0, if_neg c0]
            by_cases c1 : fi v k = -1
            · rw [if_pos c1, if_pos c1]
            · rw [if_neg c1, if_neg c1]
              by_cases c2 : fi v k = -2
              · rw [if_pos c2, if_pos c2]
              · rw [if_neg c2, if_neg c2, if_pos (by omega), if_pos (by omega)]
        rw [e]
theorem sk_w {v : Nat → Int} {s : Nat} {dr w w' sp : Int} (h : ∀ k : Nat, (k : Int) < v 108 → fi v k ≠ -4) (hO : fOk v) : sk v s dr w sp = sk v s dr w' sp := by
  unfold sk
  split
  · rfl
  · rw [fs_w h hO (v 108).toNat (by have := hO.1; omega) 0]
/-- how long a ship is clear from each place on -/
def rnR (v : Nat → Int) (s : Nat) (sp : Int) (q : Nat → Int) (lo c : Nat) (r : Nat → Int) : Prop :=
  ∀ i : Nat, lo ≤ i → i < c → (0 ≤ r i ∧ r i ≤ (c : Int)) ∧ ∀ K : Nat, ((K : Int) < r i ↔ (i + K < c ∧ ∀ k : Nat, k ≤ K → clr v s (sh v s 0) (q (i + k)) sp))
theorem rn_st {v : Nat → Int} {s : Nat} {sp : Int} {q : Nat → Int} {i c : Nat} {r r' : Nat → Int} {x : Int} (h : rnR v s sp q (i + 1) c r) (hi : i < c) (hr : ∀ j, r' j = if j = i then x else r j)
    (hx : (clr v s (sh v s 0) (q i) sp ∧ ((i + 1 < c ∧ x = r (i + 1) + 1) ∨ (i + 1 = c ∧ x = 1))) ∨ (¬ clr v s (sh v s 0) (q i) sp ∧ x = 0)) : rnR v s sp q i c r' := by
  intro j h1 h2
  by_cases e : j = i
  · subst e
    rw [hr j, if_pos rfl]
    rcases hx with ⟨hc, hx⟩ | ⟨hc, hx⟩
    · rcases hx with ⟨h3, h4⟩ | ⟨h3, h4⟩
      · obtain ⟨h5, h6⟩ := h (j + 1) (by omega) h3
        refine ⟨?_, fun K => ?_⟩
        · have h7 := h6 (c - (j + 1))
          have : ¬ ((c - (j + 1) : Nat) : Int) < r (j + 1) := fun z => by have := (h7.mp z).1; omega
          omega
        · cases K with
          | zero =>
            refine ⟨fun _ => ⟨by omega, fun k hk => by rw [show k = 0 by omega]; exact hc⟩, fun _ => by omega⟩
          | succ K =>
            have h8 := h6 K
            refine ⟨fun z => ?_, fun ⟨z1, z2⟩ => ?_⟩
            · have h9 := h8.mp (by omega)
              refine ⟨by omega, fun k hk => ?_⟩
              cases k with
              | zero => exact hc
              | succ k => have := h9.2 k (by omega); rw [show j + (k + 1) = j + 1 + k by omega]; exact this
            · have : (K : Int) < r (j + 1) := h8.mpr ⟨by omega, fun k hk => by have := z2 (k + 1) (by omega); rw [show j + 1 + k = j + (k + 1) by omega]; exact this⟩
              omega
      · refine ⟨by omega, fun K => ⟨fun z => ⟨by omega, fun k hk => ?_⟩, fun ⟨z1, z2⟩ => by omega⟩⟩
        rw [show k = 0 by omega]; exact hc
    · refine ⟨by omega, fun K => ⟨fun z => by omega, fun ⟨z1, z2⟩ => ?_⟩⟩
      exact absurd (z2 0 (by omega)) hc
  · rw [hr j, if_neg e]
    exact h j (by omega) h2
set_option maxRecDepth 20000 in
theorem s_fillWaters {E : xE} {f : Nat → Nat} {D : Nat → Nat × Nat} {n : Nat} {m : xM} {P : xPo} {PX : xPx} {v : Nat → Int} {b c : Nat} {t : Int} (hV : cV v f D m) (hb : (b : Int) < v 4) (ht : 0 ≤ t ∧ t ≤ 20000) (hc : c ≤ 2670) (hP : ∀ m', ag [86, 87, 90] m m' → cT v m' → (∀ i, i < c → m' 90 i = wa v b (t + i)) → P (some (vi (c : Int))) (gS f D n) m') : xC E (yX2_fillWaters, cX2_fillWaters, 6, some .int) 4 0 0 [vr E 88, vi (b : Int), vi t, vi (c : Int)] (gS f D n) m P PX := by
  refine x_enter (by decide) rfl rfl (Nat.le_of_ble_eq_true rfl) ?_
  have loop : ∀ (j i : Nat) (m1 : xM), c < i + j → i ≤ c → ag [86, 87, 90] m m1 → cT v m1 → (∀ k, k < i → m1 90 k = wa v b (t + k)) → xX E (("fillWaters", some .int, []), (4, 0, 0), P, PX) RX2 cX2_fillWaters 6 0 0 14 [(0, vr E 88), (1, vi (b : Int)), (2, vi t), (3, vi (c : Int)), (4, vi (c : Int)), (5, vi (i : Int))] [] (gS f D n) m1 := by
    intro j
    induction j with
    | zero => intro i m1 h1 h2; omega
    | succ j ih =>
      intro i m1 h1 h2 ha1 hT1 hq
      refine x_iload dX2_fillWaters_14 rfl ?_
      refine x_iload dX2_fillWaters_16 rfl ?_
      refine x_icmp_ge (tgt := 46) dX2_fillWaters_18 (by decide) (by omega) (fun h18 => ?_) (fun h18 => ?_)
      · refine x_iload dX2_fillWaters_46 rfl ?_
        exact x_iret dX2_fillWaters_48  ((hP m1 ha1 hT1 (fun k hk => hq k (by omega))))
      · refine x_aload_n dX2_fillWaters_21 rfl ?_
        refine x_getR (r := 90) fX2_15 dX2_fillWaters_22 rfl rfl ?_
        refine x_iload dX2_fillWaters_25 rfl ?_
        refine x_aload_n dX2_fillWaters_27 rfl ?_
        refine x_getR (r := 86) fX2_39 dX2_fillWaters_28 rfl rfl ?_
        refine x_iload_n dX2_fillWaters_31 rfl ?_
        refine x_iload_n dX2_fillWaters_32 rfl ?_
        refine x_iload dX2_fillWaters_33 rfl ?_
        refine x_iadd dX2_fillWaters_35 ?_
        refine x_V2 mX2_106 dX2_fillWaters_36 rfl (s_waterAt hV.1.1 hT1 hb (by omega) (fun m2 ha2 hT2 => ?_))
        refine x_iast (j := i) dX2_fillWaters_39 rfl (by decide) (by omega) (show _ < 2670 by omega) (by omega) ?_
        refine x_iinc dX2_fillWaters_40 rfl ?_
        refine x_goto (tgt := 14) dX2_fillWaters_43 (by decide) ?_
        exact x_loc (lv' := [(0, vr E 88), (1, vi (b : Int)), (2, vi t), (3, vi (c : Int)), (4, vi (c : Int)), (5, vi ((i + 1 : Nat) : Int))]) ⟨rfl, rfl, rfl, rfl, rfl, xl_i rfl (by omega), trivial⟩ (ih (i + 1) _ (by omega) (by omega) ((ha1.tr ha2 (by decide) (by decide)).u (by decide)) (hT2.ag (ag.u (S := [90]) ag.rf (by decide)) (by decide) (by decide) (by decide) (by decide) (by decide) (by decide)) (lt_s (fun k hk => by rw [xu_if, if_neg (by omega), ha2 90 (by decide)]; exact hq k hk) (by rw [xu_s])))
  refine x_iload_n dX2_fillWaters_0 rfl ?_
  refine x_aload_n dX2_fillWaters_1 rfl ?_
  refine x_getR (r := 90) fX2_15 dX2_fillWaters_2 rfl rfl ?_
  refine x_alen (t := 8) (N := 2670) dX2_fillWaters_5 rfl (by decide) rfl ?_
  refine x_S2 mX2_90 dX2_fillWaters_6 (s_min (by omega) ?_)
  refine x_top (show min (c : Int) ((2670 : Nat) : Int) = (c : Int) by omega) ?_
  refine x_istore dX2_fillWaters_9 ?_
  refine x_iconst dX2_fillWaters_11 ?_
  refine x_istore dX2_fillWaters_12 ?_
  exact x_loc (lv' := [(0, vr E 88), (1, vi (b : Int)), (2, vi t), (3, vi (c : Int)), (4, vi (c : Int)), (5, vi ((0 : Nat) : Int))]) ⟨rfl, rfl, rfl, rfl, rfl, rfl, trivial⟩ (loop (c + 1) 0 m (by omega) (by omega) ag.rf hV.2.1 (fun k hk => absurd hk (Nat.not_lt_zero k)))

set_option maxRecDepth 20000 in
theorem s_fillRuns {E : xE} {f : Nat → Nat} {D : Nat → Nat × Nat} {n : Nat} {m : xM} {P : xPo} {PX : xPx} {v : Nat → Int} {s lo c : Nat} {sp : Int} (hE : eOk E) (hV : cV v f D m) (hs : (s : Int) < v 5) (hsp : 4 ≤ sp ∧ sp ≤ 25) (hc : c ≤ 2670) (hlo : lo ≤ 5000) (hq : ∀ i, i < c → -10000 ≤ m 90 i ∧ m 90 i ≤ 20000) (hP : ∀ m', ag [89, 91] m m' → rnR v s sp (m 90) lo c (m' 91) → P none (gS f D n) m') : xC E (yX2_fillRuns, cX2_fillRuns, 10, none) 3 0 0 [vr E 88, vi (s : Int), vi sp, vi (lo : Int), vi (c : Int)] (gS f D n) m P PX := by
  refine x_enter (by decide) rfl rfl (Nat.le_of_ble_eq_true rfl) ?_
  have hv5 := hV.1.1.2.2.2.2.2.1
  obtain ⟨hdr, -, hkp, -⟩ := hV.1.1.2.2.2.2.2.2 s hs
  by_cases hlc : lo ≤ c
  · have loop : ∀ (j e : Nat) (m1 : xM) (z7 y : Int), e < lo + j → lo ≤ e → e ≤ c → ag [89, 91] m m1 → rnR v s sp (m 90) e c (m1 91) → (e < c → z7 = sk v s (sh v s 0) (m 90 e) sp) → (0 ≤ y ∧ y ≤ (c : Int) - (e : Int)) → (e < c → y = m1 91 e) → (e = c → y = 0) → xX E (("fillRuns", none, []), (3, 0, 0), P, PX) RX2 cX2_fillRuns 10 0 0 37 [(0, vr E 88), (1, vi (s : Int)), (2, vi sp), (3, vi (lo : Int)), (4, vi (c : Int)), (5, vi (sh v s 0)), (6, vi (sh v s 0 + sh v s 2)), (7, vi z7), (8, vi y), (9, vi ((e : Int) - 1))] [] (gS f D n) m1 := by
      intro j
      induction j with
      | zero => intro e m1 z7 y h1 h2; omega
      | succ j ih =>
        intro e m1 z7 y h1 h2 h3 ha1 hrn hz hy hy1 hy2
        refine x_iload dX2_fillRuns_37 rfl ?_
        refine x_iload_n dX2_fillRuns_39 rfl ?_
        refine x_icmp_lt (tgt := 138) dX2_fillRuns_40 (by decide) (by omega) (fun h40 => ?_) (fun h40 => ?_)
        · have hee : e = lo := by omega
          exact x_vret dX2_fillRuns_138 ((hP m1 ha1 (hee ▸ hrn)))
        · obtain ⟨i, rfl⟩ : ∃ i, e = i + 1 := ⟨e - 1, by omega⟩
          have hqi := hq i (by omega)
          have hkb := sk_b (dr := sh v s 0) (w := m 90 i) hV.1 hs hsp
          refine x_iload dX2_fillRuns_43 rfl ?_
          refine x_iload dX2_fillRuns_45 rfl ?_
          refine x_iconst dX2_fillRuns_47 ?_
          refine x_isub dX2_fillRuns_48 ?_
          refine x_icmp_eq (tgt := 81) dX2_fillRuns_49 (by decide) (by omega) (fun h49 => ?_) (fun h49 => ?_)
          · refine x_aload_n dX2_fillRuns_81 rfl ?_
            refine x_iload_n dX2_fillRuns_82 rfl ?_
            refine x_iload_n dX2_fillRuns_83 rfl ?_
            refine x_iload dX2_fillRuns_84 rfl ?_
            refine x_aload_n dX2_fillRuns_86 rfl ?_
            refine x_getR (r := 90) fX2_15 dX2_fillRuns_87 rfl rfl ?_
            refine x_iload dX2_fillRuns_90 rfl ?_
            refine x_iald (j := i) dX2_fillRuns_92 rfl (by omega) (show _ < 2670 by omega) (by omega) ?_
            refine x_top (show m1 90 i = m 90 i by rw [ha1 90 (by decide)]) ?_
            refine x_V4 mX2_75 dX2_fillRuns_93 rfl (s_sinks hE (hV.ag ha1 (by decide) (by decide) (by decide) (by decide) (by decide) (by decide) (by decide)) hs hsp (by omega) (by omega) (fun m2 ha2 => ?_))
            refine x_istore dX2_fillRuns_96 ?_
            refine x_aload_n dX2_fillRuns_98 rfl ?_
            refine x_getR (r := 90) fX2_15 dX2_fillRuns_99 rfl rfl ?_
            refine x_iload dX2_fillRuns_102 rfl ?_
            refine x_iald (j := i) dX2_fillRuns_104 rfl (by omega) (show _ < 2670 by omega) (by omega) ?_
            refine x_top (show m2 90 i = m 90 i by rw [ha2 90 (by decide), ha1 90 (by decide)]) ?_
            refine x_iload dX2_fillRuns_105 rfl ?_
            refine x_isub dX2_fillRuns_107 ?_
            refine x_iload dX2_fillRuns_108 rfl ?_
            refine x_icmp_lt (tgt := 120) dX2_fillRuns_110 (by decide) (by omega) (fun h110 => ?_) (fun h110 => ?_)
            · refine x_iconst dX2_fillRuns_120 ?_
              refine x_istore dX2_fillRuns_121 ?_
              refine x_aload_n dX2_fillRuns_123 rfl ?_
              refine x_getR (r := 91) fX2_19 dX2_fillRuns_124 rfl rfl ?_
              refine x_iload dX2_fillRuns_127 rfl ?_
              refine x_iload dX2_fillRuns_129 rfl ?_
              refine x_iast (j := i) dX2_fillRuns_131 rfl (by decide) (by omega) (show _ < 2670 by omega) (by omega) ?_
              refine x_iinc dX2_fillRuns_132 rfl ?_
              refine x_goto (tgt := 37) dX2_fillRuns_135 (by decide) ?_
              refine x_loc (lv' := [(0, vr E 88), (1, vi (s : Int)), (2, vi sp), (3, vi (lo : Int)), (4, vi (c : Int)), (5, vi (sh v s 0)), (6, vi (sh v s 0 + sh v s 2)), (7, vi (sk v s (sh v s 0) (m 90 i) sp)), (8, vi (0)), (9, vi ((i : Int) - 1))]) ⟨rfl, rfl, rfl, rfl, rfl, rfl, rfl, xl_i rfl (by first | rfl | exact hsk), rfl, xl_i rfl (by omega), trivial⟩ (ih i _ _ _ (by omega) (by omega) (by omega) (by first | exact ((ha1.tr ha2 (by decide) (by decide)).u (by decide)) | exact (ha1.u (by decide))) (rn_st (r := m1 91) (x := 0) hrn (by omega) (fun j => by first | rw [xu_if, ha2 91 (by decide)] | rw [xu_if]) ?_) (fun _ => rfl) (by omega) (fun hc9 => by rw [xu_if, if_pos rfl]) (fun hc9 => by omega))
              exact Or.inr ⟨by unfold clr lfw; omega, rfl⟩
            · refine x_iload dX2_fillRuns_113 rfl ?_
              refine x_iconst dX2_fillRuns_115 ?_
              refine x_iadd dX2_fillRuns_116 ?_
              refine x_goto (tgt := 121) dX2_fillRuns_117 (by decide) ?_
              refine x_istore dX2_fillRuns_121 ?_
              refine x_aload_n dX2_fillRuns_123 rfl ?_
              refine x_getR (r := 91) fX2_19 dX2_fillRuns_124 rfl rfl ?_
              refine x_iload dX2_fillRuns_127 rfl ?_
              refine x_iload dX2_fillRuns_129 rfl ?_
              refine x_iast (j := i) dX2_fillRuns_131 rfl (by decide) (by omega) (show _ < 2670 by omega) (by omega) ?_
              refine x_iinc dX2_fillRuns_132 rfl ?_
              refine x_goto (tgt := 37) dX2_fillRuns_135 (by decide) ?_
              refine x_loc (lv' := [(0, vr E 88), (1, vi (s : Int)), (2, vi sp), (3, vi (lo : Int)), (4, vi (c : Int)), (5, vi (sh v s 0)), (6, vi (sh v s 0 + sh v s 2)), (7, vi (sk v s (sh v s 0) (m 90 i) sp)), (8, vi (y + 1)), (9, vi ((i : Int) - 1))]) ⟨rfl, rfl, rfl, rfl, rfl, rfl, rfl, xl_i rfl (by first | rfl | exact hsk), rfl, xl_i rfl (by omega), trivial⟩ (ih i _ _ _ (by omega) (by omega) (by omega) (by first | exact ((ha1.tr ha2 (by decide) (by decide)).u (by decide)) | exact (ha1.u (by decide))) (rn_st (r := m1 91) (x := y + 1) hrn (by omega) (fun j => by first | rw [xu_if, ha2 91 (by decide)] | rw [xu_if]) ?_) (fun _ => rfl) (by omega) (fun hc9 => by rw [xu_if, if_pos rfl]) (fun hc9 => by omega))
              refine Or.inl ⟨by unfold clr lfw; omega, ?_⟩
              rcases (by omega : i + 1 < c ∨ i + 1 = c) with z | z
              · exact Or.inl ⟨z, by rw [hy1 z]⟩
              · exact Or.inr ⟨z, by rw [hy2 z]; rfl⟩
          · refine x_aload_n dX2_fillRuns_52 rfl ?_
            refine x_getR (r := 41) fX2_35 dX2_fillRuns_53 rfl rfl ?_
            refine x_getI fX2_140 dX2_fillRuns_56 rfl ?_
            refine x_top (show m1 41 10 = m 41 10 by rw [ha1 41 (by decide)]) ?_
            refine x_if_eq (tgt := 98) dX2_fillRuns_59 (by decide) (by rcases hV.2.2.2 with q | q <;> omega) (fun h59 => ?_) (fun h59 => ?_)
            · have hsk : z7 = sk v s (sh v s 0) (m 90 i) sp := by
                rw [hz (by omega)]
                rcases hV.2.2.2 with q | q
                · exact sk_w q.2 hV.1.2
                · omega
              refine x_aload_n dX2_fillRuns_98 rfl ?_
              refine x_getR (r := 90) fX2_15 dX2_fillRuns_99 rfl rfl ?_
              refine x_iload dX2_fillRuns_102 rfl ?_
              refine x_iald (j := i) dX2_fillRuns_104 rfl (by omega) (show _ < 2670 by omega) (by omega) ?_
              refine x_top (show m1 90 i = m 90 i by rw [ha1 90 (by decide)]) ?_
              refine x_iload dX2_fillRuns_105 rfl ?_
              refine x_top (hsk) ?_
              refine x_isub dX2_fillRuns_107 ?_
              refine x_iload dX2_fillRuns_108 rfl ?_
              refine x_icmp_lt (tgt := 120) dX2_fillRuns_110 (by decide) (by omega) (fun h110 => ?_) (fun h110 => ?_)
              · refine x_iconst dX2_fillRuns_120 ?_
                refine x_istore dX2_fillRuns_121 ?_
                refine x_aload_n dX2_fillRuns_123 rfl ?_
                refine x_getR (r := 91) fX2_19 dX2_fillRuns_124 rfl rfl ?_
                refine x_iload dX2_fillRuns_127 rfl ?_
                refine x_iload dX2_fillRuns_129 rfl ?_
                refine x_iast (j := i) dX2_fillRuns_131 rfl (by decide) (by omega) (show _ < 2670 by omega) (by omega) ?_
                refine x_iinc dX2_fillRuns_132 rfl ?_
                refine x_goto (tgt := 37) dX2_fillRuns_135 (by decide) ?_
                refine x_loc (lv' := [(0, vr E 88), (1, vi (s : Int)), (2, vi sp), (3, vi (lo : Int)), (4, vi (c : Int)), (5, vi (sh v s 0)), (6, vi (sh v s 0 + sh v s 2)), (7, vi (sk v s (sh v s 0) (m 90 i) sp)), (8, vi (0)), (9, vi ((i : Int) - 1))]) ⟨rfl, rfl, rfl, rfl, rfl, rfl, rfl, xl_i rfl (by first | rfl | exact hsk), rfl, xl_i rfl (by omega), trivial⟩ (ih i _ _ _ (by omega) (by omega) (by omega) (by first | exact ((ha1.tr ha2 (by decide) (by decide)).u (by decide)) | exact (ha1.u (by decide))) (rn_st (r := m1 91) (x := 0) hrn (by omega) (fun j => by first | rw [xu_if, ha2 91 (by decide)] | rw [xu_if]) ?_) (fun _ => rfl) (by omega) (fun hc9 => by rw [xu_if, if_pos rfl]) (fun hc9 => by omega))
                exact Or.inr ⟨by unfold clr lfw; omega, rfl⟩
              · refine x_iload dX2_fillRuns_113 rfl ?_
                refine x_iconst dX2_fillRuns_115 ?_
                refine x_iadd dX2_fillRuns_116 ?_
                refine x_goto (tgt := 121) dX2_fillRuns_117 (by decide) ?_
                refine x_istore dX2_fillRuns_121 ?_
                refine x_aload_n dX2_fillRuns_123 rfl ?_
                refine x_getR (r := 91) fX2_19 dX2_fillRuns_124 rfl rfl ?_
                refine x_iload dX2_fillRuns_127 rfl ?_
                refine x_iload dX2_fillRuns_129 rfl ?_
                refine x_iast (j := i) dX2_fillRuns_131 rfl (by decide) (by omega) (show _ < 2670 by omega) (by omega) ?_
                refine x_iinc dX2_fillRuns_132 rfl ?_
                refine x_goto (tgt := 37) dX2_fillRuns_135 (by decide) ?_
                refine x_loc (lv' := [(0, vr E 88), (1, vi (s : Int)), (2, vi sp), (3, vi (lo : Int)), (4, vi (c : Int)), (5, vi (sh v s 0)), (6, vi (sh v s 0 + sh v s 2)), (7, vi (sk v s (sh v s 0) (m 90 i) sp)), (8, vi (y + 1)), (9, vi ((i : Int) - 1))]) ⟨rfl, rfl, rfl, rfl, rfl, rfl, rfl, xl_i rfl (by first | rfl | exact hsk), rfl, xl_i rfl (by omega), trivial⟩ (ih i _ _ _ (by omega) (by omega) (by omega) (by first | exact ((ha1.tr ha2 (by decide) (by decide)).u (by decide)) | exact (ha1.u (by decide))) (rn_st (r := m1 91) (x := y + 1) hrn (by omega) (fun j => by first | rw [xu_if, ha2 91 (by decide)] | rw [xu_if]) ?_) (fun _ => rfl) (by omega) (fun hc9 => by rw [xu_if, if_pos rfl]) (fun hc9 => by omega))
                refine Or.inl ⟨by unfold clr lfw; omega, ?_⟩
                rcases (by omega : i + 1 < c ∨ i + 1 = c) with z | z
                · exact Or.inl ⟨z, by rw [hy1 z]⟩
                · exact Or.inr ⟨z, by rw [hy2 z]; rfl⟩
            · refine x_aload_n dX2_fillRuns_62 rfl ?_
              refine x_getR (r := 90) fX2_15 dX2_fillRuns_63 rfl rfl ?_
              refine x_iload dX2_fillRuns_66 rfl ?_
              refine x_iald (j := i) dX2_fillRuns_68 rfl (by omega) (show _ < 2670 by omega) (by omega) ?_
              refine x_top (show m1 90 i = m 90 i by rw [ha1 90 (by decide)]) ?_
              refine x_aload_n dX2_fillRuns_69 rfl ?_
              refine x_getR (r := 90) fX2_15 dX2_fillRuns_70 rfl rfl ?_
              refine x_iload dX2_fillRuns_73 rfl ?_
              refine x_iconst dX2_fillRuns_75 ?_
              refine x_iadd dX2_fillRuns_76 ?_
              refine x_iald (j := i + 1) dX2_fillRuns_77 rfl (by omega) (show _ < 2670 by omega) (by omega) ?_
              refine x_top (show m1 90 (i + 1) = m 90 (i + 1) by rw [ha1 90 (by decide)]) ?_
              refine x_icmp_eq (tgt := 98) dX2_fillRuns_78 (by decide) (by have := hq (i + 1) (by omega); omega) (fun h78 => ?_) (fun h78 => ?_)
              · have hsk : z7 = sk v s (sh v s 0) (m 90 i) sp := by rw [hz (by omega), h78]
                refine x_aload_n dX2_fillRuns_98 rfl ?_
                refine x_getR (r := 90) fX2_15 dX2_fillRuns_99 rfl rfl ?_
                refine x_iload dX2_fillRuns_102 rfl ?_
                refine x_iald (j := i) dX2_fillRuns_104 rfl (by omega) (show _ < 2670 by omega) (by omega) ?_
                refine x_top (show m1 90 i = m 90 i by rw [ha1 90 (by decide)]) ?_
                refine x_iload dX2_fillRuns_105 rfl ?_
                refine x_top (hsk) ?_
                refine x_isub dX2_fillRuns_107 ?_
                refine x_iload dX2_fillRuns_108 rfl ?_
                refine x_icmp_lt (tgt := 120) dX2_fillRuns_110 (by decide) (by omega) (fun h110 => ?_) (fun h110 => ?_)
                · refine x_iconst dX2_fillRuns_120 ?_
                  refine x_istore dX2_fillRuns_121 ?_
                  refine x_aload_n dX2_fillRuns_123 rfl ?_
                  refine x_getR (r := 91) fX2_19 dX2_fillRuns_124 rfl rfl ?_
                  refine x_iload dX2_fillRuns_127 rfl ?_
                  refine x_iload dX2_fillRuns_129 rfl ?_
                  refine x_iast (j := i) dX2_fillRuns_131 rfl (by decide) (by omega) (show _ < 2670 by omega) (by omega) ?_
                  refine x_iinc dX2_fillRuns_132 rfl ?_
                  refine x_goto (tgt := 37) dX2_fillRuns_135 (by decide) ?_
                  refine x_loc (lv' := [(0, vr E 88), (1, vi (s : Int)), (2, vi sp), (3, vi (lo : Int)), (4, vi (c : Int)), (5, vi (sh v s 0)), (6, vi (sh v s 0 + sh v s 2)), (7, vi (sk v s (sh v s 0) (m 90 i) sp)), (8, vi (0)), (9, vi ((i : Int) - 1))]) ⟨rfl, rfl, rfl, rfl, rfl, rfl, rfl, xl_i rfl (by first | rfl | exact hsk), rfl, xl_i rfl (by omega), trivial⟩ (ih i _ _ _ (by omega) (by omega) (by omega) (by first | exact ((ha1.tr ha2 (by decide) (by decide)).u (by decide)) | exact (ha1.u (by decide))) (rn_st (r := m1 91) (x := 0) hrn (by omega) (fun j => by first | rw [xu_if, ha2 91 (by decide)] | rw [xu_if]) ?_) (fun _ => rfl) (by omega) (fun hc9 => by rw [xu_if, if_pos rfl]) (fun hc9 => by omega))
                  exact Or.inr ⟨by unfold clr lfw; omega, rfl⟩
                · refine x_iload dX2_fillRuns_113 rfl ?_
                  refine x_iconst dX2_fillRuns_115 ?_
                  refine x_iadd dX2_fillRuns_116 ?_
                  refine x_goto (tgt := 121) dX2_fillRuns_117 (by decide) ?_
                  refine x_istore dX2_fillRuns_121 ?_
                  refine x_aload_n dX2_fillRuns_123 rfl ?_
                  refine x_getR (r := 91) fX2_19 dX2_fillRuns_124 rfl rfl ?_
                  refine x_iload dX2_fillRuns_127 rfl ?_
                  refine x_iload dX2_fillRuns_129 rfl ?_
                  refine x_iast (j := i) dX2_fillRuns_131 rfl (by decide) (by omega) (show _ < 2670 by omega) (by omega) ?_
                  refine x_iinc dX2_fillRuns_132 rfl ?_
                  refine x_goto (tgt := 37) dX2_fillRuns_135 (by decide) ?_
                  refine x_loc (lv' := [(0, vr E 88), (1, vi (s : Int)), (2, vi sp), (3, vi (lo : Int)), (4, vi (c : Int)), (5, vi (sh v s 0)), (6, vi (sh v s 0 + sh v s 2)), (7, vi (sk v s (sh v s 0) (m 90 i) sp)), (8, vi (y + 1)), (9, vi ((i : Int) - 1))]) ⟨rfl, rfl, rfl, rfl, rfl, rfl, rfl, xl_i rfl (by first | rfl | exact hsk), rfl, xl_i rfl (by omega), trivial⟩ (ih i _ _ _ (by omega) (by omega) (by omega) (by first | exact ((ha1.tr ha2 (by decide) (by decide)).u (by decide)) | exact (ha1.u (by decide))) (rn_st (r := m1 91) (x := y + 1) hrn (by omega) (fun j => by first | rw [xu_if, ha2 91 (by decide)] | rw [xu_if]) ?_) (fun _ => rfl) (by omega) (fun hc9 => by rw [xu_if, if_pos rfl]) (fun hc9 => by omega))
                  refine Or.inl ⟨by unfold clr lfw; omega, ?_⟩
                  rcases (by omega : i + 1 < c ∨ i + 1 = c) with z | z
                  · exact Or.inl ⟨z, by rw [hy1 z]⟩
                  · exact Or.inr ⟨z, by rw [hy2 z]; rfl⟩
              · refine x_aload_n dX2_fillRuns_81 rfl ?_
                refine x_iload_n dX2_fillRuns_82 rfl ?_
                refine x_iload_n dX2_fillRuns_83 rfl ?_
                refine x_iload dX2_fillRuns_84 rfl ?_
                refine x_aload_n dX2_fillRuns_86 rfl ?_
                refine x_getR (r := 90) fX2_15 dX2_fillRuns_87 rfl rfl ?_
                refine x_iload dX2_fillRuns_90 rfl ?_
                refine x_iald (j := i) dX2_fillRuns_92 rfl (by omega) (show _ < 2670 by omega) (by omega) ?_
                refine x_top (show m1 90 i = m 90 i by rw [ha1 90 (by decide)]) ?_
                refine x_V4 mX2_75 dX2_fillRuns_93 rfl (s_sinks hE (hV.ag ha1 (by decide) (by decide) (by decide) (by decide) (by decide) (by decide) (by decide)) hs hsp (by omega) (by omega) (fun m2 ha2 => ?_))
                refine x_istore dX2_fillRuns_96 ?_
                refine x_aload_n dX2_fillRuns_98 rfl ?_
                refine x_getR (r := 90) fX2_15 dX2_fillRuns_99 rfl rfl ?_
                refine x_iload dX2_fillRuns_102 rfl ?_
                refine x_iald (j := i) dX2_fillRuns_104 rfl (by omega) (show _ < 2670 by omega) (by omega) ?_
                refine x_top (show m2 90 i = m 90 i by rw [ha2 90 (by decide), ha1 90 (by decide)]) ?_
                refine x_iload dX2_fillRuns_105 rfl ?_
                refine x_isub dX2_fillRuns_107 ?_
                refine x_iload dX2_fillRuns_108 rfl ?_
                refine x_icmp_lt (tgt := 120) dX2_fillRuns_110 (by decide) (by omega) (fun h110 => ?_) (fun h110 => ?_)
                · refine x_iconst dX2_fillRuns_120 ?_
                  refine x_istore dX2_fillRuns_121 ?_
                  refine x_aload_n dX2_fillRuns_123 rfl ?_
                  refine x_getR (r := 91) fX2_19 dX2_fillRuns_124 rfl rfl ?_
                  refine x_iload dX2_fillRuns_127 rfl ?_
                  refine x_iload dX2_fillRuns_129 rfl ?_
                  refine x_iast (j := i) dX2_fillRuns_131 rfl (by decide) (by omega) (show _ < 2670 by omega) (by omega) ?_
                  refine x_iinc dX2_fillRuns_132 rfl ?_
                  refine x_goto (tgt := 37) dX2_fillRuns_135 (by decide) ?_
                  refine x_loc (lv' := [(0, vr E 88), (1, vi (s : Int)), (2, vi sp), (3, vi (lo : Int)), (4, vi (c : Int)), (5, vi (sh v s 0)), (6, vi (sh v s 0 + sh v s 2)), (7, vi (sk v s (sh v s 0) (m 90 i) sp)), (8, vi (0)), (9, vi ((i : Int) - 1))]) ⟨rfl, rfl, rfl, rfl, rfl, rfl, rfl, xl_i rfl (by first | rfl | exact hsk), rfl, xl_i rfl (by omega), trivial⟩ (ih i _ _ _ (by omega) (by omega) (by omega) (by first | exact ((ha1.tr ha2 (by decide) (by decide)).u (by decide)) | exact (ha1.u (by decide))) (rn_st (r := m1 91) (x := 0) hrn (by omega) (fun j => by first | rw [xu_if, ha2 91 (by decide)] | rw [xu_if]) ?_) (fun _ => rfl) (by omega) (fun hc9 => by rw [xu_if, if_pos rfl]) (fun hc9 => by omega))
                  exact Or.inr ⟨by unfold clr lfw; omega, rfl⟩
                · refine x_iload dX2_fillRuns_113 rfl ?_
                  refine x_iconst dX2_fillRuns_115 ?_
                  refine x_iadd dX2_fillRuns_116 ?_
                  refine x_goto (tgt := 121) dX2_fillRuns_117 (by decide) ?_
                  refine x_istore dX2_fillRuns_121 ?_
                  refine x_aload_n dX2_fillRuns_123 rfl ?_
                  refine x_getR (r := 91) fX2_19 dX2_fillRuns_124 rfl rfl ?_
                  refine x_iload dX2_fillRuns_127 rfl ?_
                  refine x_iload dX2_fillRuns_129 rfl ?_
                  refine x_iast (j := i) dX2_fillRuns_131 rfl (by decide) (by omega) (show _ < 2670 by omega) (by omega) ?_
                  refine x_iinc dX2_fillRuns_132 rfl ?_
                  refine x_goto (tgt := 37) dX2_fillRuns_135 (by decide) ?_
                  refine x_loc (lv' := [(0, vr E 88), (1, vi (s : Int)), (2, vi sp), (3, vi (lo : Int)), (4, vi (c : Int)), (5, vi (sh v s 0)), (6, vi (sh v s 0 + sh v s 2)), (7, vi (sk v s (sh v s 0) (m 90 i) sp)), (8, vi (y + 1)), (9, vi ((i : Int) - 1))]) ⟨rfl, rfl, rfl, rfl, rfl, rfl, rfl, xl_i rfl (by first | rfl | exact hsk), rfl, xl_i rfl (by omega), trivial⟩ (ih i _ _ _ (by omega) (by omega) (by omega) (by first | exact ((ha1.tr ha2 (by decide) (by decide)).u (by decide)) | exact (ha1.u (by decide))) (rn_st (r := m1 91) (x := y + 1) hrn (by omega) (fun j => by first | rw [xu_if, ha2 91 (by decide)] | rw [xu_if]) ?_) (fun _ => rfl) (by omega) (fun hc9 => by rw [xu_if, if_pos rfl]) (fun hc9 => by omega))
                  refine Or.inl ⟨by unfold clr lfw; omega, ?_⟩
                  rcases (by omega : i + 1 < c ∨ i + 1 = c) with z | z
                  · exact Or.inl ⟨z, by rw [hy1 z]⟩
                  · exact Or.inr ⟨z, by rw [hy2 z]; rfl⟩
    refine x_aload_n dX2_fillRuns_0 rfl ?_
    refine x_getR (r := 41) fX2_35 dX2_fillRuns_1 rfl rfl ?_
    refine x_iload_n dX2_fillRuns_4 rfl ?_
    refine x_iconst dX2_fillRuns_5 ?_
    refine x_V2 mX2_43 dX2_fillRuns_6 rfl (s_shipOf (8 * s + 0) (by omega) (by omega) ?_)
    refine x_top (hV.2.1.1.2.2.2.s hs (by omega)) ?_
    refine x_istore dX2_fillRuns_9 ?_
    refine x_iload dX2_fillRuns_11 rfl ?_
    refine x_aload_n dX2_fillRuns_13 rfl ?_
    refine x_getR (r := 41) fX2_35 dX2_fillRuns_14 rfl rfl ?_
    refine x_iload_n dX2_fillRuns_17 rfl ?_
    refine x_iconst dX2_fillRuns_18 ?_
    refine x_V2 mX2_43 dX2_fillRuns_19 rfl (s_shipOf (8 * s + 2) (by omega) (by omega) ?_)
    refine x_top (hV.2.1.1.2.2.2.s hs (by omega)) ?_
    refine x_iadd dX2_fillRuns_22 ?_
    refine x_istore dX2_fillRuns_23 ?_
    refine x_iconst dX2_fillRuns_25 ?_
    refine x_istore dX2_fillRuns_26 ?_
    refine x_iconst dX2_fillRuns_28 ?_
    refine x_istore dX2_fillRuns_29 ?_
    refine x_iload dX2_fillRuns_31 rfl ?_
    refine x_iconst dX2_fillRuns_33 ?_
    refine x_isub dX2_fillRuns_34 ?_
    refine x_istore dX2_fillRuns_35 ?_
    exact x_loc (lv' := [(0, vr E 88), (1, vi (s : Int)), (2, vi sp), (3, vi (lo : Int)), (4, vi (c : Int)), (5, vi (sh v s 0)), (6, vi (sh v s 0 + sh v s 2)), (7, vi 0), (8, vi 0), (9, vi ((c : Int) - 1))]) ⟨rfl, rfl, rfl, rfl, rfl, rfl, rfl, rfl, rfl, rfl, trivial⟩ (loop (c + 1) c m 0 0 (by omega) (by omega) (by omega) ag.rf (fun i h1 h2 => by omega) (fun h => by omega) (by omega) (fun h => by omega) (fun _ => rfl))
  · refine x_aload_n dX2_fillRuns_0 rfl ?_
    refine x_getR (r := 41) fX2_35 dX2_fillRuns_1 rfl rfl ?_
    refine x_iload_n dX2_fillRuns_4 rfl ?_
    refine x_iconst dX2_fillRuns_5 ?_
    refine x_V2 mX2_43 dX2_fillRuns_6 rfl (s_shipOf (8 * s + 0) (by omega) (by omega) ?_)
    refine x_top (hV.2.1.1.2.2.2.s hs (by omega)) ?_
    refine x_istore dX2_fillRuns_9 ?_
    refine x_iload dX2_fillRuns_11 rfl ?_
    refine x_aload_n dX2_fillRuns_13 rfl ?_
    refine x_getR (r := 41) fX2_35 dX2_fillRuns_14 rfl rfl ?_
    refine x_iload_n dX2_fillRuns_17 rfl ?_
    refine x_iconst dX2_fillRuns_18 ?_
    refine x_V2 mX2_43 dX2_fillRuns_19 rfl (s_shipOf (8 * s + 2) (by omega) (by omega) ?_)
    refine x_top (hV.2.1.1.2.2.2.s hs (by omega)) ?_
    refine x_iadd dX2_fillRuns_22 ?_
    refine x_istore dX2_fillRuns_23 ?_
    refine x_iconst dX2_fillRuns_25 ?_
    refine x_istore dX2_fillRuns_26 ?_
    refine x_iconst dX2_fillRuns_28 ?_
    refine x_istore dX2_fillRuns_29 ?_
    refine x_iload dX2_fillRuns_31 rfl ?_
    refine x_iconst dX2_fillRuns_33 ?_
    refine x_isub dX2_fillRuns_34 ?_
    refine x_istore dX2_fillRuns_35 ?_
    refine x_iload dX2_fillRuns_37 rfl ?_
    refine x_iload_n dX2_fillRuns_39 rfl ?_
    refine x_icmp_lt (tgt := 138) dX2_fillRuns_40 (by decide) (by omega) (fun h40 => ?_) (fun h40 => absurd (show (c : Int) - 1 < (lo : Int) by omega) h40)
    exact x_vret dX2_fillRuns_138 (hP m ag.rf (fun i h1 h2 => by omega))

end PK
