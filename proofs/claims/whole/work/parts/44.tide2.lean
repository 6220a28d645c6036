section TJ
def xfill (m : xM) (c : Nat) (z : Int) (L : Nat) : xM := fun a b => if a = c then (if b < L then z else m a b) else m a b
theorem xfill_0 {m : xM} {c : Nat} {z : Int} : xfill m c z 0 = m := by
  funext a b
  unfold xfill
  by_cases h : a = c <;> simp [h]
theorem xfill_s {m : xM} {c : Nat} {z : Int} {i : Nat} : xu (xfill m c z i) c i z = xfill m c z (i + 1) := by
  funext a b
  unfold xu xfill
  by_cases h : a = c
  · subst h
    by_cases q : b = i
    · subst q; simp
    · by_cases r : b < i
      · simp [q, r, Nat.lt_succ_of_lt r]
      · have : ¬ b < i + 1 := by omega
        simp [q, r, this]
  · simp [h]
theorem xfill_in {m : xM} {c : Nat} {z : Int} {L b : Nat} (h : b < L) : xfill m c z L c b = z := by simp [xfill, h]
theorem xfill_out {m : xM} {c : Nat} {z : Int} {L b : Nat} (h : ¬ b < L) : xfill m c z L c b = m c b := by simp [xfill, h]
theorem xfill_ne {m : xM} {c a : Nat} {z : Int} {L : Nat} (h : a ≠ c) : xfill m c z L a = m a := by funext b; simp [xfill, h]
theorem ag.fill {S : List Nat} {m m' : xM} {c L : Nat} {z : Int} (h : ag S m m') (hc : c ∈ S) : ag S m (xfill m' c z L) := fun a ha => (xfill_ne (m := m') (a := a) (c := c) (fun e => ha (by rw [e]; exact hc))).trans (h a ha)
set_option maxRecDepth 20000 in
theorem s_fillI {E : xE} {g : xG} {m : xM} {P : xPo} {PX : xPx} {c L : Nat} {z : Int} (hk : g.2.1 c = 8) (hl : g.2.2.1 c = L) (hc : nS ≤ c) (hL : L < 1000000) (hP : P none g (xfill m c z L)) : xC E (yJ7_fill_53178, cJ7_fill_53178, 4, none) 0 0 0 [vr E c, vi z] g m P PX := by
  refine x_enterF (by decide +kernel) rfl rfl (by simp only [lg_sl, List.flatMap_cons, List.flatMap_nil, vr_cat]; exact Nat.le_of_ble_eq_true rfl) ?_
  have hle : lv_args 0 [vr E c, vi z] = [(0, vr E c), (1, vi z)] := by simp only [lv_args, vr_cat]; rfl
  rw [hle]
  have loop : ∀ (j i : Nat), i ≤ L → L < i + j → xX E (("fill", none, []), (0, 0, 0), P, PX) RJ7 cJ7_fill_53178 4 0 0 5 [(0, vr E c), (1, vi z), (2, vi (i : Int)), (3, vi (L : Int))] [] g (xfill m c z i) := by
    intro j
    induction j with
    | zero => intro i h1 h2; omega
    | succ j ih =>
      intro i h1 h2
      refine x_iload_n dJ7_fill_53178_5 rfl ?_
      refine x_iload_n dJ7_fill_53178_6 rfl ?_
      refine x_icmp_ge (tgt := 20) dJ7_fill_53178_7 (by decide) (by omega) (fun h7 => ?_) (fun h7 => ?_)
      · have hi : i = L := by omega
        subst hi
        exact x_vret dJ7_fill_53178_20 (hP)
      · refine x_aload_n dJ7_fill_53178_10 rfl ?_
        refine x_iload_n dJ7_fill_53178_11 rfl ?_
        refine x_iload_n dJ7_fill_53178_12 rfl ?_
        refine x_iast (j := i) dJ7_fill_53178_13 hk hc (by omega) (by rw [hl]; omega) (by omega) ?_
        refine x_mem xfill_s ?_
        refine x_iinc dJ7_fill_53178_14 rfl ?_
        refine x_goto (tgt := 5) dJ7_fill_53178_17 (by decide) ?_
        exact x_loc (lv' := [(0, vr E c), (1, vi z), (2, vi ((i + 1 : Nat) : Int)), (3, vi (L : Int))]) ⟨rfl, rfl, xl_i rfl (by omega), rfl, trivial⟩ (ih (i + 1) (by omega) (by omega))
  refine x_iconst dJ7_fill_53178_0 ?_
  refine x_istore_n dJ7_fill_53178_1 ?_
  refine x_aload_n dJ7_fill_53178_2 rfl ?_
  refine x_alen (t := 8) (N := L) dJ7_fill_53178_3 hk (by decide) hl ?_
  refine x_istore_n dJ7_fill_53178_4 ?_
  refine x_loc (lv' := [(0, vr E c), (1, vi z), (2, vi ((0 : Nat) : Int)), (3, vi (L : Int))]) ⟨rfl, rfl, rfl, rfl, trivial⟩ ?_
  refine x_mem (xfill_0 (m := m) (c := c) (z := z)).symm ?_
  exact loop L.succ 0 (by omega) (by omega)

set_option maxRecDepth 20000 in
theorem s_fillB {E : xE} {g : xG} {m : xM} {P : xPo} {PX : xPx} {c L : Nat} {z : Int} (hk : g.2.1 c = 7) (hl : g.2.2.1 c = L) (hc : nS ≤ c) (hL : L < 1000000) (hz : -128 ≤ z ∧ z ≤ 127) (hP : P none g (xfill m c z L)) : xC E (yJ7_fill_031fb, cJ7_fill_031fb, 4, none) 0 0 0 [vr E c, vi z] g m P PX := by
  refine x_enterF (by decide +kernel) rfl rfl (by simp only [lg_sl, List.flatMap_cons, List.flatMap_nil, vr_cat]; exact Nat.le_of_ble_eq_true rfl) ?_
  have hle : lv_args 0 [vr E c, vi z] = [(0, vr E c), (1, vi z)] := by simp only [lv_args, vr_cat]; rfl
  rw [hle]
  have loop : ∀ (j i : Nat), i ≤ L → L < i + j → xX E (("fill", none, []), (0, 0, 0), P, PX) RJ7 cJ7_fill_031fb 4 0 0 5 [(0, vr E c), (1, vi z), (2, vi (i : Int)), (3, vi (L : Int))] [] g (xfill m c z i) := by
    intro j
    induction j with
    | zero => intro i h1 h2; omega
    | succ j ih =>
      intro i h1 h2
      refine x_iload_n dJ7_fill_031fb_5 rfl ?_
      refine x_iload_n dJ7_fill_031fb_6 rfl ?_
      refine x_icmp_ge (tgt := 20) dJ7_fill_031fb_7 (by decide) (by omega) (fun h7 => ?_) (fun h7 => ?_)
      · have hi : i = L := by omega
        subst hi
        exact x_vret dJ7_fill_031fb_20 (hP)
      · refine x_aload_n dJ7_fill_031fb_10 rfl ?_
        refine x_iload_n dJ7_fill_031fb_11 rfl ?_
        refine x_iload_n dJ7_fill_031fb_12 rfl ?_
        refine x_bast (j := i) dJ7_fill_031fb_13 hk hc (by omega) (by rw [hl]; omega) (by omega) hz ?_
        refine x_mem xfill_s ?_
        refine x_iinc dJ7_fill_031fb_14 rfl ?_
        refine x_goto (tgt := 5) dJ7_fill_031fb_17 (by decide) ?_
        exact x_loc (lv' := [(0, vr E c), (1, vi z), (2, vi ((i + 1 : Nat) : Int)), (3, vi (L : Int))]) ⟨rfl, rfl, xl_i rfl (by omega), rfl, trivial⟩ (ih (i + 1) (by omega) (by omega))
  refine x_iconst dJ7_fill_031fb_0 ?_
  refine x_istore_n dJ7_fill_031fb_1 ?_
  refine x_aload_n dJ7_fill_031fb_2 rfl ?_
  refine x_alen (t := 7) (N := L) dJ7_fill_031fb_3 hk (by decide) hl ?_
  refine x_istore_n dJ7_fill_031fb_4 ?_
  refine x_loc (lv' := [(0, vr E c), (1, vi z), (2, vi ((0 : Nat) : Int)), (3, vi (L : Int))]) ⟨rfl, rfl, rfl, rfl, trivial⟩ ?_
  refine x_mem (xfill_0 (m := m) (c := c) (z := z)).symm ?_
  exact loop L.succ 0 (by omega) (by omega)

/-- all that Tide stands on -/
def cT (v : Nat → Int) (m : xM) : Prop := cC v m ∧ cK v m ∧ (0 ≤ m 41 11 ∧ m 41 11 ≤ 100000) ∧ (0 ≤ m 86 2 ∧ m 86 2 ≤ 100000)
set_option maxRecDepth 20000 in
theorem s_heightAt {E : xE} {f : Nat → Nat} {D : Nat → Nat × Nat} {n : Nat} {m : xM} {P : xPo} {PX : xPx} {v : Nat → Int} {t : Int} (hv : vOk0 v) (hT : cT v m) (ht0 : -300 ≤ t ∧ t ≤ 50000) (hP : ∀ m', ag [86, 87] m m' → cT v m' → P (some (vi (ht v t))) (gS f D n) m') : xC E (yX4_heightAt, cX4_heightAt, 4, some .int) 2 0 0 [vr E 86, vi t] (gS f D n) m P PX := by
  refine x_enter (by decide) rfl rfl (Nat.le_of_ble_eq_true rfl) ?_
  obtain ⟨hC, hk, hr, hr2⟩ := hT
  have hws := wsum_b (t := t) hv.2.2.2.1 (v 3).toNat (by have := hv.2.2.2.1.1; omega)
  have hv3 := hv.2.2.2.1.1
  have hv0 := hv.1
  have hv2 := hv.2.2.1
  have key : ∀ m1, ag [86, 87] m m1 → cC v m1 → cK v m1 → m1 86 2 = m1 41 11 → xX E (("heightAt", some .int, []), (2, 0, 0), P, PX) RX4 cX4_heightAt 4 0 0 49 [(0, vr E 86), (1, vi t), (2, vi (v 0 + v 2))] [] (gS f D n) m1 := by
    intro m1 ha1 hC1 hk1 hs1
    have hr1 : 0 ≤ m1 41 11 ∧ m1 41 11 ≤ 100000 := by rw [ha1 41 (by decide)]; exact hr
    refine x_iload_n dX4_heightAt_49 rfl ?_
    refine x_sipush dX4_heightAt_50 (h := ?_)
    refine x_iadd dX4_heightAt_53 ?_
    refine x_istore_n dX4_heightAt_54 ?_
    refine x_iload_n dX4_heightAt_55 rfl ?_
    refine x_if_lt (tgt := 68) dX4_heightAt_56 (by decide) (by omega) (fun h56 => ?_) (fun h56 => ?_)
    · refine x_iload_n dX4_heightAt_68 rfl ?_
      refine x_aload_n dX4_heightAt_69 rfl ?_
      refine x_iload_n dX4_heightAt_70 rfl ?_
      refine x_V1 mX4_48 dX4_heightAt_71 rfl (s_sumOfWaves hv.2.2.2.1 hC1.2.1 (by omega) ?_)
      refine x_iadd dX4_heightAt_74 ?_
      exact x_iret dX4_heightAt_75  (hP m1 ha1 ⟨hC1, hk1, hr1, by omega⟩)
    · refine x_iload_n dX4_heightAt_59 rfl ?_
      refine x_aload_n dX4_heightAt_60 rfl ?_
      refine x_getR (r := 87) fX4_11 dX4_heightAt_61 rfl rfl ?_
      refine x_alen (t := 8) (N := 15000) dX4_heightAt_64 rfl (by decide) rfl ?_
      refine x_icmp_lt (tgt := 76) dX4_heightAt_65 (by decide) (by omega) (fun h65 => ?_) (fun h65 => ?_)
      · refine x_aload_n dX4_heightAt_76 rfl ?_
        refine x_getR (r := 87) fX4_11 dX4_heightAt_77 rfl rfl ?_
        refine x_iload_n dX4_heightAt_80 rfl ?_
        refine x_iald (j := (t + 300).toNat) dX4_heightAt_81 rfl (by omega) (show _ < 15000 by omega) (by omega) ?_
        refine x_if_ne (tgt := 99) dX4_heightAt_82 (by decide) (by rcases hk1.old hs1 (t + 300).toNat (by omega) with q | q <;> (try rw [show (((t + 300).toNat : Nat) : Int) - 300 = t by omega] at q) <;> omega) (fun h82 => ?_) (fun h82 => ?_)
        · have hq : m1 87 (t + 300).toNat = wsum v t (v 3).toNat + 100000 := by
            rcases hk1.old hs1 (t + 300).toNat (by omega) with q | q
            · exact absurd q h82
            · rw [q, show (((t + 300).toNat : Nat) : Int) - 300 = t by omega]
          refine x_iload_n dX4_heightAt_99 rfl ?_
          refine x_aload_n dX4_heightAt_100 rfl ?_
          refine x_getR (r := 87) fX4_11 dX4_heightAt_101 rfl rfl ?_
          refine x_iload_n dX4_heightAt_104 rfl ?_
          refine x_iald (j := (t + 300).toNat) dX4_heightAt_105 rfl (by omega) (show _ < 15000 by omega) (by omega) ?_
          refine x_iadd dX4_heightAt_106 ?_
          refine x_ldc kX4_51 dX4_heightAt_107 ?_
          refine x_isub dX4_heightAt_109 ?_
          refine x_top (show _ = ht v t by rw [hq]; unfold ht; omega) ?_
          exact x_iret dX4_heightAt_110 (hP m1 ha1 ⟨hC1, hk1, hr1, by omega⟩)
        · refine x_aload_n dX4_heightAt_85 rfl ?_
          refine x_getR (r := 87) fX4_11 dX4_heightAt_86 rfl rfl ?_
          refine x_iload_n dX4_heightAt_89 rfl ?_
          refine x_aload_n dX4_heightAt_90 rfl ?_
          refine x_iload_n dX4_heightAt_91 rfl ?_
          refine x_V1 mX4_48 dX4_heightAt_92 rfl (s_sumOfWaves hv.2.2.2.1 hC1.2.1 (by omega) ?_)
          refine x_ldc kX4_51 dX4_heightAt_95 ?_
          refine x_iadd dX4_heightAt_97 ?_
          refine x_iast (j := (t + 300).toNat) dX4_heightAt_98 rfl (by decide) (by omega) (show _ < 15000 by omega) (by omega) ?_
          refine x_iload_n dX4_heightAt_99 rfl ?_
          refine x_aload_n dX4_heightAt_100 rfl ?_
          refine x_getR (r := 87) fX4_11 dX4_heightAt_101 rfl rfl ?_
          refine x_iload_n dX4_heightAt_104 rfl ?_
          refine x_iald (j := (t + 300).toNat) dX4_heightAt_105 rfl (by omega) (show _ < 15000 by omega) (by omega) ?_
          refine x_iadd dX4_heightAt_106 ?_
          refine x_ldc kX4_51 dX4_heightAt_107 ?_
          refine x_isub dX4_heightAt_109 ?_
          refine x_top (show _ = ht v t by rw [xu_s]; unfold ht; omega) ?_
          refine x_iret dX4_heightAt_110 (hP _ (ha1.u (by decide)) ⟨hC1.ag (ag.u (S := [87]) ag.rf (by decide)) (by decide) (by decide) (by decide) (by decide), ⟨fun p hp => ?_, fun x => by rw [xu_ne (show (41 : Nat) ≠ 87 by decide)]; exact hk1.2 x⟩, by rw [xu_ne (by decide)]; omega, by rw [xu_ne (by decide)]; omega⟩)
          by_cases hpq : p = (t + 300).toNat
          · subst hpq
            rw [xu_s]
            right
            rw [xu_ne (show (86 : Nat) ≠ 87 by decide), hs1, hk1.2, show (((t + 300).toNat : Nat) : Int) - 300 = t by omega]
          · rw [xu_n (Or.inr hpq), xu_ne (show (86 : Nat) ≠ 87 by decide)]
            exact hk1.1 p hp
      · refine x_iload_n dX4_heightAt_68 rfl ?_
        refine x_aload_n dX4_heightAt_69 rfl ?_
        refine x_iload_n dX4_heightAt_70 rfl ?_
        refine x_V1 mX4_48 dX4_heightAt_71 rfl (s_sumOfWaves hv.2.2.2.1 hC1.2.1 (by omega) ?_)
        refine x_iadd dX4_heightAt_74 ?_
        exact x_iret dX4_heightAt_75  (hP m1 ha1 ⟨hC1, hk1, hr1, by omega⟩)
  refine x_aload_n dX4_heightAt_0 rfl ?_
  refine x_getR (r := 41) fX4_15 dX4_heightAt_1 rfl rfl ?_
  refine x_getI fX4_29 dX4_heightAt_4 rfl ?_
  refine x_top (hC.1.1) ?_
  refine x_aload_n dX4_heightAt_7 rfl ?_
  refine x_getR (r := 41) fX4_15 dX4_heightAt_8 rfl rfl ?_
  refine x_getI fX4_33 dX4_heightAt_11 rfl ?_
  refine x_top (hC.1.2.2) ?_
  refine x_iadd dX4_heightAt_14 ?_
  refine x_istore_n dX4_heightAt_15 ?_
  refine x_aload_n dX4_heightAt_16 rfl ?_
  refine x_getI fX4_36 dX4_heightAt_17 rfl ?_
  refine x_aload_n dX4_heightAt_20 rfl ?_
  refine x_getR (r := 41) fX4_15 dX4_heightAt_21 rfl rfl ?_
  refine x_getI fX4_39 dX4_heightAt_24 rfl ?_
  refine x_icmp_eq (tgt := 49) dX4_heightAt_27 (by decide) (by omega) (fun hs27 => ?_) (fun hs27 => ?_)
  · refine x_loc (lv' := [(0, vr E 86), (1, vi t), (2, vi (v 0 + v 2))]) ⟨rfl, rfl, rfl, trivial⟩ ?_
    exact key m ag.rf hC hk hs27
  · refine x_aload_n dX4_heightAt_30 rfl ?_
    refine x_getR (r := 87) fX4_11 dX4_heightAt_31 rfl rfl ?_
    refine x_iconst dX4_heightAt_34 ?_
    refine x_S2 mX4_42 dX4_heightAt_35 (s_fillI (L := 15000) rfl rfl (by decide) (by decide) ?_)
    refine x_aload_n dX4_heightAt_38 rfl ?_
    refine x_aload_n dX4_heightAt_39 rfl ?_
    refine x_getR (r := 41) fX4_15 dX4_heightAt_40 rfl rfl ?_
    refine x_getI fX4_39 dX4_heightAt_43 rfl ?_
    refine x_top (show xfill m 87 0 15000 41 11 = m 41 11 by rw [xfill_ne (by decide)]) ?_
    refine x_putI fX4_36 dX4_heightAt_46 rfl (by decide) rfl rfl ?_
    refine x_loc (lv' := [(0, vr E 86), (1, vi t), (2, vi (v 0 + v 2))]) ⟨rfl, rfl, rfl, trivial⟩ ?_
    have hag : ag [86, 87] m (xu (xfill m 87 0 15000) 86 2 (m 41 11)) := ag.u (ag.fill ag.rf (by decide)) (by decide)
    refine key _ hag (hC.ag hag (by decide) (by decide) (by decide) (by decide)) ⟨fun p hp => Or.inl ?_, fun x => ?_⟩ ?_
    · rw [xu_ne (by decide), xfill_in hp]
    · rw [xu_ne (by decide), xfill_ne (by decide)]
      exact hk.2 x
    · rw [xu_s, xu_ne (by decide), xfill_ne (by decide)]

set_option maxRecDepth 20000 in
theorem s_waterAt {E : xE} {f : Nat → Nat} {D : Nat → Nat × Nat} {n : Nat} {m : xM} {P : xPo} {PX : xPx} {v : Nat → Int} {t : Int} {b : Nat} (hv : vOk0 v) (hT : cT v m) (hb : (b : Int) < v 4) (ht0 : 0 ≤ t ∧ t ≤ 40000) (hP : ∀ m', ag [86, 87] m m' → cT v m' → P (some (vi (wa v b t))) (gS f D n) m') : xC E (yX4_waterAt, cX4_waterAt, 4, some .int) 3 0 0 [vr E 86, vi (b : Int), vi t] (gS f D n) m P PX := by
  refine x_enter (by decide) rfl rfl (Nat.le_of_ble_eq_true rfl) ?_
  have hv4 := hv.2.2.2.2.1.1
  obtain ⟨-, hdp, -, hdl, hfc, -⟩ := hv.2.2.2.2.1.2 b hb
  have hwb := wa_b (t := t) hv hb
  refine x_aload_n dX4_waterAt_0 rfl ?_
  refine x_iload_n dX4_waterAt_1 rfl ?_
  refine x_aload_n dX4_waterAt_2 rfl ?_
  refine x_getR (r := 41) fX4_15 dX4_waterAt_3 rfl rfl ?_
  refine x_iload_n dX4_waterAt_6 rfl ?_
  refine x_iconst dX4_waterAt_7 ?_
  refine x_V2 mX4_19 dX4_waterAt_8 rfl (s_barOf (6 * b + 3) (by omega) (by omega) ?_)
  refine x_top (hT.1.2.2.1.b hb (by omega)) ?_
  refine x_isub dX4_waterAt_11 ?_
  refine x_V1 mX4_25 dX4_waterAt_12 rfl (s_heightAt hv hT (by omega) (fun m1 ha1 hT1 => ?_))
  refine x_istore_n dX4_waterAt_15 ?_
  refine x_aload_n dX4_waterAt_16 rfl ?_
  refine x_getR (r := 41) fX4_15 dX4_waterAt_17 rfl rfl ?_
  refine x_iload_n dX4_waterAt_20 rfl ?_
  refine x_iconst dX4_waterAt_21 ?_
  refine x_V2 mX4_19 dX4_waterAt_22 rfl (s_barOf (6 * b + 1) (by omega) (by omega) ?_)
  refine x_top (hT1.1.2.2.1.b hb (by omega)) ?_
  refine x_iload_n dX4_waterAt_25 rfl ?_
  refine x_aload_n dX4_waterAt_26 rfl ?_
  refine x_getR (r := 41) fX4_15 dX4_waterAt_27 rfl rfl ?_
  refine x_iload_n dX4_waterAt_30 rfl ?_
  refine x_iconst dX4_waterAt_31 ?_
  refine x_V2 mX4_19 dX4_waterAt_32 rfl (s_barOf (6 * b + 4) (by omega) (by omega) ?_)
  refine x_top (hT1.1.2.2.1.b hb (by omega)) ?_
  refine x_imul dX4_waterAt_35 ?_
  refine x_bipush dX4_waterAt_36 (h := ?_)
  refine x_idiv dX4_waterAt_38 (by omega) (by omega) ?_
  refine x_iadd dX4_waterAt_39 ?_
  exact x_iret dX4_waterAt_40  (hP m1 ha1 hT1)

end TJ
