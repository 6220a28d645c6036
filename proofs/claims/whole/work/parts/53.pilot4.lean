section PL
/-! bits of small sets -/
def tb (a s : Nat) : Nat := a / 2 ^ s % 2
def ac (a s : Nat) : Nat := if tb a s = 1 then a - 2 ^ s else a
def pcn (a : Nat) : Nat := tb a 0 + tb a 1 + tb a 2 + tb a 3 + tb a 4 + tb a 5
theorem b_shl1 : ∀ s : Nat, s < 6 → Int32.ofInt 1 <<< (Int32.ofInt (s : Int) &&& 31) = Int32.ofInt ((2 ^ s : Nat) : Int) := by decide +kernel
theorem b_not : ∀ s : Nat, s < 6 → Int32.ofInt ((2 ^ s : Nat) : Int) ^^^ Int32.ofInt (-1) = Int32.ofInt (-1 - ((2 ^ s : Nat) : Int)) := by decide +kernel
theorem b_ac : ∀ a : Nat, a < 64 → ∀ s : Nat, s < 6 → Int32.ofInt (a : Int) &&& Int32.ofInt (-1 - ((2 ^ s : Nat) : Int)) = Int32.ofInt ((ac a s : Nat) : Int) := by decide +kernel
theorem b_shr : ∀ a : Nat, a < 64 → ∀ s : Nat, s < 6 → Int32.ofInt (a : Int) >>> (Int32.ofInt (s : Int) &&& 31) = Int32.ofInt ((a / 2 ^ s : Nat) : Int) := by decide +kernel
theorem b_one : ∀ a : Nat, a < 64 → ∀ s : Nat, s < 6 → Int32.ofInt ((a / 2 ^ s : Nat) : Int) &&& Int32.ofInt 1 = Int32.ofInt ((tb a s : Nat) : Int) := by decide +kernel
theorem ac_lt : ∀ a : Nat, a < 64 → ∀ s : Nat, s < 6 → ac a s < 64 := by decide +kernel
theorem tb_ac : ∀ a : Nat, a < 64 → ∀ s : Nat, s < 6 → ∀ t : Nat, t < 6 → tb (ac a s) t = if t = s then 0 else tb a t := by decide +kernel
theorem tb_01 (a s : Nat) : tb a s = 0 ∨ tb a s = 1 := by unfold tb; omega
theorem tb_p2 : ∀ s : Nat, s < 6 → 2 ^ s < 64 ∧ ∀ t : Nat, t < 6 → tb (2 ^ s) t = if t = s then 1 else 0 := by decide +kernel
theorem pcn_b : ∀ a : Nat, a < 64 → 0 < a → 1 ≤ pcn a ∧ pcn a ≤ 6 := by decide +kernel
theorem pcn_p2 : ∀ s : Nat, s < 6 → pcn (2 ^ s) = 1 := by decide +kernel
theorem x_topv {E : xE} {J : xJ} {own : String} {cc : ByteArray} {mL k n pc : Nat} {lv : List (Nat × Value)} {st : List Value} {g : xG} {m : xM} {w w' : Value} (e : w = w') (h : xX E J own cc mL k n pc lv (w' :: st) g m) : xX E J own cc mL k n pc lv (w :: st) g m := by rw [e]; exact h
set_option maxRecDepth 20000 in
theorem s_dropUnpassable {E : xE} {f : Nat → Nat} {D : Nat → Nat × Nat} {n : Nat} {m : xM} {P : xPo} {PX : xPx} {v : Nat → Int} {s b c : Nat} {sp t : Int} {Q : Nat → Nat} (hE : eOk E) (hV : cV v f D m) (hs : (s : Int) < v 5) (hb : (b : Int) < v 4) (hsp : 4 ≤ sp ∧ sp ≤ 25) (ht : 0 ≤ t ∧ t ≤ 20000) (hc : c ≤ 2640) (hQ : ∀ i, i < 2640 → m 92 i = (Q i : Int) ∧ Q i < 64)
    (hP : ∀ m' (Q' : Nat → Nat), ag [86, 87, 89, 90, 91, 92] m m' → cT v m' → (∀ i, i < 2640 → m' 92 i = (Q' i : Int) ∧ Q' i < 64) → (∀ i : Nat, i < c → (pas v s (sh v s 0) b (t + i) sp → Q' i = Q i) ∧ (¬ pas v s (sh v s 0) b (t + i) sp → Q' i = ac (Q i) s)) → P none (gS f D n) m') : xC E (yX2_dropUnpassable, cX2_dropUnpassable, 9, none) 5 0 0 [vr E 88, vi (s : Int), vi (b : Int), vi sp, vi t, vi (c : Int)] (gS f D n) m P PX := by
  refine x_enter (by decide) rfl rfl (Nat.le_of_ble_eq_true rfl) ?_
  have hv5 := hV.1.1.2.2.2.2.2.1
  have hsg := sg_b hV.1.1.2.2.2.2.1 hb hsp
  refine x_aload_n dX2_dropUnpassable_0 rfl ?_
  refine x_getR (r := 41) fX2_35 dX2_dropUnpassable_1 rfl rfl ?_
  refine x_iload_n dX2_dropUnpassable_4 rfl ?_
  refine x_iload_n dX2_dropUnpassable_5 rfl ?_
  refine x_V2 mX2_103 dX2_dropUnpassable_6 rfl (s_lengthTime hV.1.1.2.2.2.2.1 hV.2.1.1.2.2.1 hb hsp ?_)
  refine x_istore dX2_dropUnpassable_9 ?_
  refine x_aload_n dX2_dropUnpassable_11 rfl ?_
  refine x_iload_n dX2_dropUnpassable_12 rfl ?_
  refine x_iload dX2_dropUnpassable_13 rfl ?_
  refine x_iload dX2_dropUnpassable_15 rfl ?_
  refine x_iload dX2_dropUnpassable_17 rfl ?_
  refine x_iadd dX2_dropUnpassable_19 ?_
  refine x_top (show (c : Int) + tk (br v b 2) sp = ((c + (tk (br v b 2) sp).toNat : Nat) : Int) by omega) ?_
  refine x_V3 mX2_133 dX2_dropUnpassable_20 rfl (s_fillWaters hV hb (by omega) (by omega) (fun m2 ha2 hT2 hw2 => ?_))
  have hV2 := hV.t ha2 hT2 (by decide) (by decide)
  refine x_istore dX2_dropUnpassable_23 ?_
  refine x_aload_n dX2_dropUnpassable_25 rfl ?_
  refine x_iload_n dX2_dropUnpassable_26 rfl ?_
  refine x_iload_n dX2_dropUnpassable_27 rfl ?_
  refine x_iconst dX2_dropUnpassable_28 ?_
  refine x_iload dX2_dropUnpassable_29 rfl ?_
  refine x_topv (w' := vi ((c + (tk (br v b 2) sp).toNat : Nat) : Int)) rfl ?_
  refine x_V4 mX2_136 dX2_dropUnpassable_31 rfl (s_fillRuns (lo := 0) hE hV2 hs hsp (by omega) (by omega) (fun i hi => by rw [hw2 i hi]; have := wa_b (t := t + i) hV.1.1 hb; omega) (fun m3 ha3 hrn => ?_))
  have hag3 : ag [86, 87, 89, 90, 91, 92] m m3 := ha2.tr ha3 (by decide) (by decide)
  have hT3 : cT v m3 := hT2.ag ha3 (by decide) (by decide) (by decide) (by decide) (by decide) (by decide)
  have loop : ∀ (j i : Nat) (m1 : xM) (Q1 : Nat → Nat), c < i + j → i ≤ c → ag [92] m3 m1 → (∀ k, k < 2640 → m1 92 k = (Q1 k : Int) ∧ Q1 k < 64) → (∀ k, k < i → (pas v s (sh v s 0) b (t + k) sp → Q1 k = Q k) ∧ (¬ pas v s (sh v s 0) b (t + k) sp → Q1 k = ac (Q k) s)) → (∀ k, i ≤ k → Q1 k = Q k) → xX E (("dropUnpassable", none, []), (5, 0, 0), P, PX) RX2 cX2_dropUnpassable 9 0 0 37 [(0, vr E 88), (1, vi (s : Int)), (2, vi (b : Int)), (3, vi sp), (4, vi t), (5, vi (c : Int)), (6, vi (tk (br v b 2) sp)), (7, vi ((c + (tk (br v b 2) sp).toNat : Nat) : Int)), (8, vi (i : Int))] [] (gS f D n) m1 := by
    intro j
    induction j with
    | zero => intro i m1 Q1 h1 h2; omega
    | succ j ih =>
      intro i m1 Q1 h1 h2 ha1 hq1 hd1 hk1
      refine x_iload dX2_dropUnpassable_37 rfl ?_
      refine x_iload dX2_dropUnpassable_39 rfl ?_
      refine x_icmp_ge (tgt := 87) dX2_dropUnpassable_41 (by decide) (by omega) (fun h41 => ?_) (fun h41 => ?_)
      · exact x_vret dX2_dropUnpassable_87 (hP m1 Q1 ((hag3.tr ha1 (by decide) (by decide))) (hT3.ag ha1 (by decide) (by decide) (by decide) (by decide) (by decide) (by decide)) hq1 (fun k hk => hd1 k (by omega)))
      · refine x_iload dX2_dropUnpassable_44 rfl ?_
        refine x_aload_n dX2_dropUnpassable_46 rfl ?_
        refine x_getR (r := 92) fX2_22 dX2_dropUnpassable_47 rfl rfl ?_
        refine x_alen (t := 8) (N := 2640) dX2_dropUnpassable_50 rfl (by decide) rfl ?_
        refine x_icmp_ge (tgt := 87) dX2_dropUnpassable_51 (by decide) (by omega) (fun h51 => absurd h51 (by omega)) (fun h51 => ?_)
        refine x_aload_n dX2_dropUnpassable_54 rfl ?_
        refine x_getR (r := 91) fX2_19 dX2_dropUnpassable_55 rfl rfl ?_
        refine x_iload dX2_dropUnpassable_58 rfl ?_
        refine x_iald (j := i) dX2_dropUnpassable_60 rfl (by omega) (show _ < 2670 by omega) (by omega) ?_
        refine x_top (show m1 91 i = m3 91 i by rw [ha1 91 (by decide)]) ?_
        have hri := hrn i (by omega) (by omega)
        have hpas : ((tk (br v b 2) sp).toNat : Int) < m3 91 i ↔ pas v s (sh v s 0) b (t + i) sp := by
          rw [hri.2]
          refine ⟨fun z k hk => ?_, fun z => ⟨by omega, fun k hk => ?_⟩⟩
          · have := z.2 k (by omega)
            rw [hw2 (i + k) (by omega)] at this
            rw [show t + (i : Int) + (k : Int) = t + ((i + k : Nat) : Int) by omega]
            exact this
          · have := z k (by omega)
            rw [hw2 (i + k) (by omega)]
            rw [show t + (i : Int) + (k : Int) = t + ((i + k : Nat) : Int) by omega] at this
            exact this
        refine x_iload dX2_dropUnpassable_61 rfl ?_
        refine x_icmp_gt (tgt := 81) dX2_dropUnpassable_63 (by decide) (by omega) (fun h63 => ?_) (fun h63 => ?_)
        · refine x_iinc dX2_dropUnpassable_81 rfl ?_
          refine x_goto (tgt := 37) dX2_dropUnpassable_84 (by decide) ?_
          exact x_loc (lv' := [(0, vr E 88), (1, vi (s : Int)), (2, vi (b : Int)), (3, vi sp), (4, vi t), (5, vi (c : Int)), (6, vi (tk (br v b 2) sp)), (7, vi ((c + (tk (br v b 2) sp).toNat : Nat) : Int)), (8, vi ((i + 1 : Nat) : Int))]) ⟨rfl, rfl, rfl, rfl, rfl, rfl, rfl, rfl, xl_i rfl (by omega), trivial⟩ (ih (i + 1) m1 Q1 (by omega) (by omega) ha1 hq1 (lt_s hd1 ⟨fun _ => hk1 i (by omega), fun z => absurd (hpas.mp (by omega)) z⟩) (fun k hk => hk1 k (by omega)))
        · refine x_aload_n dX2_dropUnpassable_66 rfl ?_
          refine x_getR (r := 92) fX2_22 dX2_dropUnpassable_67 rfl rfl ?_
          refine x_iload dX2_dropUnpassable_70 rfl ?_
          refine x_dup2 dX2_dropUnpassable_72 rfl vr_cat ?_
          refine x_iald (j := i) dX2_dropUnpassable_73 rfl (by omega) (show _ < 2640 by omega) (by omega) ?_
          refine x_top ((hq1 i (by omega)).1) ?_
          refine x_iconst dX2_dropUnpassable_74 ?_
          refine x_iload_n dX2_dropUnpassable_75 rfl ?_
          refine x_ishl (z := ((2 ^ s : Nat) : Int)) dX2_dropUnpassable_76 (b_shl1 s (by omega)) ?_
          refine x_iconst dX2_dropUnpassable_77 ?_
          refine x_ixor (z := -1 - ((2 ^ s : Nat) : Int)) dX2_dropUnpassable_78 (b_not s (by omega)) ?_
          refine x_iand (z := ((ac (Q1 i) s : Nat) : Int)) dX2_dropUnpassable_79 (b_ac _ (hq1 i (by omega)).2 s (by omega)) ?_
          refine x_iast (j := i) dX2_dropUnpassable_80 rfl (by decide) (by omega) (show _ < 2640 by omega) (by omega) ?_
          refine x_iinc dX2_dropUnpassable_81 rfl ?_
          refine x_goto (tgt := 37) dX2_dropUnpassable_84 (by decide) ?_
          refine x_loc (lv' := [(0, vr E 88), (1, vi (s : Int)), (2, vi (b : Int)), (3, vi sp), (4, vi t), (5, vi (c : Int)), (6, vi (tk (br v b 2) sp)), (7, vi ((c + (tk (br v b 2) sp).toNat : Nat) : Int)), (8, vi ((i + 1 : Nat) : Int))]) ⟨rfl, rfl, rfl, rfl, rfl, rfl, rfl, rfl, xl_i rfl (by omega), trivial⟩ (ih (i + 1) _ (fun k => if k = i then ac (Q1 i) s else Q1 k) (by omega) (by omega) (ha1.u (by decide)) (fun k hk => ?_) (lt_s (fun k hk => ?_) ?_) (fun k hk => ?_))
          · rw [xu_if]
            by_cases z : k = i
            · subst z; rw [if_pos rfl, if_pos rfl]; exact ⟨rfl, ac_lt _ (hq1 k hk).2 s (by omega)⟩
            · rw [if_neg z, if_neg z]; exact hq1 k hk
          · show (_ → (if k = i then _ else _) = _) ∧ (_ → (if k = i then _ else _) = _)
            rw [if_neg (by omega)]; exact hd1 k hk
          · show (_ → (if i = i then _ else _) = _) ∧ (_ → (if i = i then _ else _) = _)
            rw [if_pos rfl, hk1 i (by omega)]
            exact ⟨fun z => absurd (hpas.mpr z) (by omega), fun _ => rfl⟩
          · show (if k = i then _ else _) = _
            rw [if_neg (by omega)]; exact hk1 k (by omega)
  refine x_iconst dX2_dropUnpassable_34 ?_
  refine x_istore dX2_dropUnpassable_35 ?_
  exact x_loc (lv' := [(0, vr E 88), (1, vi (s : Int)), (2, vi (b : Int)), (3, vi sp), (4, vi t), (5, vi (c : Int)), (6, vi (tk (br v b 2) sp)), (7, vi ((c + (tk (br v b 2) sp).toNat : Nat) : Int)), (8, vi ((0 : Nat) : Int))]) ⟨rfl, rfl, rfl, rfl, rfl, rfl, rfl, rfl, rfl, trivial⟩ (loop (c + 1) 0 m3 Q (by omega) (by omega) ag.rf (fun i hi => by rw [show m3 92 = m 92 by rw [ha3 92 (by decide), ha2 92 (by decide)]]; exact hQ i hi) (fun k hk => absurd hk (Nat.not_lt_zero k)) (fun k _ => rfl))

end PL
