section PU
/-- the place of a ship among those of a set; all of a set can go by their numbers; the first place of a day -/
def rk (a : Nat) : Nat → Nat
  | 0 => 0
  | u + 1 => rk a u + tb a u
def alG (G : Nat → Nat → Prop) (a gp i : Nat) : Prop := ∀ u, u < 6 → tb a u = 1 → G u (i + rk a u * gp)
def dayR (S : Nat → Prop) (r : Int) : Prop := (∃ t : Nat, t < 1440 ∧ S t ∧ (∀ u, u < t → ¬ S u) ∧ r = (t : Int)) ∨ ((∀ t, t < 1440 → ¬ S t) ∧ r = -1)
theorem dayR_u {R : Nat → Prop} {a b : Int} (ha : dayR R a) (hb : dayR R b) : a = b := by
  rcases ha with ⟨t, a1, a2, a3, a4⟩ | ⟨a1, a2⟩
  · rcases hb with ⟨u, b1, b2, b3, b4⟩ | ⟨b1, b2⟩
    · rcases (by omega : t < u ∨ t = u ∨ u < t) with q | q | q
      · exact absurd a2 (b3 t q)
      · omega
      · exact absurd b2 (a3 u q)
    · exact absurd a2 (b1 t a1)
  · rcases hb with ⟨u, b1, b2, b3, b4⟩ | ⟨b1, b2⟩
    · exact absurd b2 (a1 u b1)
    · omega
theorem dayR_b {R : Nat → Prop} {a : Int} (ha : dayR R a) : -1 ≤ a ∧ a < 1440 := by
  rcases ha with ⟨t, a1, a2, a3, a4⟩ | ⟨a1, a2⟩ <;> omega
theorem rk_lt : ∀ a : Nat, a < 64 → ∀ u : Nat, u < 6 → tb a u = 1 → rk a u + 1 ≤ pcn a := by decide +kernel
theorem rk_le : ∀ a : Nat, a < 64 → ∀ u : Nat, u ≤ 6 → rk a u ≤ pcn a := by decide +kernel
theorem rk_m : ∀ a : Nat, a < 64 → ∀ u : Nat, u < 7 → ∀ w : Nat, w < 7 → u ≤ w → rk a u ≤ rk a w := by decide +kernel
theorem rk_1 {a u : Nat} (h : tb a u = 1) : rk a (u + 1) = rk a u + 1 := by show rk a u + tb a u = _; rw [h]
theorem rk_0 {a u : Nat} (h : tb a u = 0) : rk a (u + 1) = rk a u := by show rk a u + tb a u = _; rw [h]; rfl
/-- goods holds, for each start, the ships of a set that can go then -/
def gdR (m : xM) (G : Nat → Nat → Prop) (a c : Nat) : Prop := ∃ Q : Nat → Nat, (∀ i, i < 2640 → m 92 i = (Q i : Int) ∧ Q i < 64) ∧ ∀ i : Nat, i < c → ∀ u, u < 6 → (tb (Q i) u = 1 ↔ tb a u = 1 ∧ G u i)
theorem gp_in {a c gp i u : Nat} (ha : a < 64) (hcnt : 1440 + (((pcn a : Nat) : Int) - 1) * (gp : Int) = (c : Int)) (hi : i < 1440) (hu : u < 6) (ht : tb a u = 1) : i + rk a u * gp < c := by
  have h1 := rk_lt a ha u hu ht
  have h2 := Nat.mul_le_mul_right gp h1
  rw [Nat.add_mul, Nat.one_mul] at h2
  rw [Int.sub_mul, Int.one_mul] at hcnt
  have h3 : (((pcn a) * gp : Nat) : Int) = ((pcn a : Nat) : Int) * (gp : Int) := Int.natCast_mul _ _
  omega
theorem gp_c {a c gp : Nat} (ha : a < 64) (h0 : 0 < a) (hg : gp ≤ 240) (hcnt : 1440 + (((pcn a : Nat) : Int) - 1) * (gp : Int) = (c : Int)) : c ≤ 2640 ∧ 1440 ≤ c := by
  have hpc := pcn_b a ha h0
  have := mul_nn (a := ((pcn a : Nat) : Int) - 1) (b := (gp : Int)) (A := 5) (B := 240) (by omega) (by omega) (by omega) (by omega)
  have h2 : 0 ≤ (((pcn a : Nat) : Int) - 1) * (gp : Int) := Int.mul_nonneg (by omega) (by omega)
  omega
set_option maxRecDepth 20000 in
theorem s_allGood {E : xE} {f : Nat → Nat} {D : Nat → Nat × Nat} {n : Nat} {m : xM} {P : xPo} {PX : xPx} {v : Nat → Int} {a c gp i : Nat} {Gd : Nat → Nat → Prop} (hV : cV v f D m) (ha64 : a < 64) (ha0 : 0 < a) (hset : ∀ u, u < 6 → tb a u = 1 → (u : Int) < v 5) (hgp : v 1 = (gp : Int)) (hcnt : 1440 + (((pcn a : Nat) : Int) - 1) * (gp : Int) = (c : Int)) (hG : gdR m Gd a c) (hi : i < 1440) (hP : P (some (vi (zi (alG Gd a gp i)))) (gS f D n) m) : xC E (yX2_allGood, cX2_allGood, 5, some .boolean) 0 0 0 [vr E 88, vi (a : Int), vi (i : Int)] (gS f D n) m P PX := by
  refine x_enter (by decide) rfl rfl (Nat.le_of_ble_eq_true rfl) ?_
  have hv5 := hV.1.1.2.2.2.2.2.1
  have hv1 := hV.1.1.2.1
  have hc := gp_c ha64 ha0 (by omega) hcnt
  obtain ⟨Q, hq, hd⟩ := hG
  have loop : ∀ (j u : Nat), v 5 < (u : Int) + j → (u : Int) ≤ v 5 → (∀ w, w < u → tb a w = 1 → Gd w (i + rk a w * gp)) → xX E (("allGood", some .boolean, []), (0, 0, 0), P, PX) RX2 cX2_allGood 5 0 0 5 [(0, vr E 88), (1, vi (a : Int)), (2, vi (i : Int)), (3, vi ((i + rk a u * gp : Nat) : Int)), (4, vi (u : Int))] [] (gS f D n) m := by
    intro j
    induction j with
    | zero => intro u h1 h2; omega
    | succ j ih =>
      intro u h1 h2 hn
      have hub : i + rk a u * gp ≤ 4000 := by
        have := Nat.mul_le_mul (rk_le a ha64 u (by omega)) (show gp ≤ 240 by omega)
        have h6 := (pcn_b a ha64 ha0).2
        omega
      refine x_iload dX2_allGood_5 rfl ?_
      refine x_aload_n dX2_allGood_7 rfl ?_
      refine x_getR (r := 41) fX2_35 dX2_allGood_8 rfl rfl ?_
      refine x_getI fX2_130 dX2_allGood_11 rfl ?_
      refine x_top (hV.2.1.1.2.2.2.1) ?_
      refine x_icmp_ge (tgt := 68) dX2_allGood_14 (by decide) (by omega) (fun h14 => ?_) (fun h14 => ?_)
      · refine x_iconst dX2_allGood_68 ?_
        exact x_zret dX2_allGood_69 (Or.inr rfl) (by rw [zi_t (show alG Gd a gp i from fun w hw h9 => hn w (by have := hset w hw h9; omega) h9)] at hP; exact hP)
      · have hu : (u : Int) < v 5 := by omega
        refine x_iload_n dX2_allGood_17 rfl ?_
        refine x_aload_n dX2_allGood_18 rfl ?_
        refine x_getR (r := 92) fX2_22 dX2_allGood_19 rfl rfl ?_
        refine x_alen (t := 8) (N := 2640) dX2_allGood_22 rfl (by decide) rfl ?_
        refine x_icmp_ge (tgt := 68) dX2_allGood_23 (by decide) (by omega) (fun h23 => ?_) (fun h23 => ?_)
        · refine x_iconst dX2_allGood_68 ?_
          exact x_zret dX2_allGood_69 (Or.inr rfl) (by rw [zi_t (show alG Gd a gp i from fun w hw h9 => by rcases (by omega : w < u ∨ u ≤ w) with z | z; exact hn w z h9; have hx1 := gp_in ha64 hcnt hi hw h9; have hx2 := Nat.mul_le_mul_right gp (rk_m a ha64 u (by omega) w (by omega) z); omega)] at hP; exact hP)
        · refine x_iload_n dX2_allGood_26 rfl ?_
          refine x_iload dX2_allGood_27 rfl ?_
          refine x_ishr (z := ((a / 2 ^ u : Nat) : Int)) dX2_allGood_29 (b_shr a ha64 u (by omega)) ?_
          refine x_iconst dX2_allGood_30 ?_
          refine x_iand (z := ((tb a u : Nat) : Int)) dX2_allGood_31 (b_one a ha64 u (by omega)) ?_
          refine x_iconst dX2_allGood_32 ?_
          refine x_icmp_ne (tgt := 62) dX2_allGood_33 (by decide) (by have := tb_01 a u; omega) (fun h33 => ?_) (fun h33 => ?_)
          · have hbit : tb a u = 0 := by have := tb_01 a u; omega
            refine x_iinc dX2_allGood_62 rfl ?_
            refine x_goto (tgt := 5) dX2_allGood_65 (by decide) ?_
            exact x_loc (lv' := [(0, vr E 88), (1, vi (a : Int)), (2, vi (i : Int)), (3, vi ((i + rk a (u + 1) * gp : Nat) : Int)), (4, vi ((u + 1 : Nat) : Int))]) ⟨rfl, rfl, rfl, xl_i rfl (by rw [rk_0 hbit]), xl_i rfl (by omega), trivial⟩ (ih (u + 1) (by omega) (by omega) (fun w hw h9 => by rcases (by omega : w < u ∨ w = u) with z | z; exact hn w z h9; rw [z] at h9; omega))
          · have hbit : tb a u = 1 := by omega
            have hin := gp_in (u := u) ha64 hcnt hi (by omega) hbit
            have hqu := hq (i + rk a u * gp) (by omega)
            have hgd := hd (i + rk a u * gp) hin u (by omega)
            refine x_aload_n dX2_allGood_36 rfl ?_
            refine x_getR (r := 92) fX2_22 dX2_allGood_37 rfl rfl ?_
            refine x_iload_n dX2_allGood_40 rfl ?_
            refine x_iald (j := i + rk a u * gp) dX2_allGood_41 rfl (by omega) (show _ < 2640 by omega) (by omega) ?_
            refine x_top (hqu.1) ?_
            refine x_iload dX2_allGood_42 rfl ?_
            refine x_ishr (z := ((Q (i + rk a u * gp) / 2 ^ u : Nat) : Int)) dX2_allGood_44 (b_shr _ hqu.2 u (by omega)) ?_
            refine x_iconst dX2_allGood_45 ?_
            refine x_iand (z := ((tb (Q (i + rk a u * gp)) u : Nat) : Int)) dX2_allGood_46 (b_one _ hqu.2 u (by omega)) ?_
            refine x_if_ne (tgt := 52) dX2_allGood_47 (by decide) (by have := tb_01 (Q (i + rk a u * gp)) u; omega) (fun h47 => ?_) (fun h47 => ?_)
            · have hgu : Gd u (i + rk a u * gp) := (hgd.mp (by have := tb_01 (Q (i + rk a u * gp)) u; omega)).2
              refine x_iload_n dX2_allGood_52 rfl ?_
              refine x_aload_n dX2_allGood_53 rfl ?_
              refine x_getR (r := 41) fX2_35 dX2_allGood_54 rfl rfl ?_
              refine x_getI fX2_127 dX2_allGood_57 rfl ?_
              refine x_top (show m 41 1 = (gp : Int) by rw [← hgp]; exact hV.2.1.1.1.2.1) ?_
              refine x_iadd dX2_allGood_60 ?_
              refine x_istore_n dX2_allGood_61 ?_
              refine x_iinc dX2_allGood_62 rfl ?_
              refine x_goto (tgt := 5) dX2_allGood_65 (by decide) ?_
              exact x_loc (lv' := [(0, vr E 88), (1, vi (a : Int)), (2, vi (i : Int)), (3, vi ((i + rk a (u + 1) * gp : Nat) : Int)), (4, vi ((u + 1 : Nat) : Int))]) ⟨rfl, rfl, rfl, xl_i rfl (by rw [rk_1 hbit, Nat.add_mul]; omega), xl_i rfl (by omega), trivial⟩ (ih (u + 1) (by omega) (by omega) (fun w hw h9 => by rcases (by omega : w < u ∨ w = u) with z | z; exact hn w z h9; exact z ▸ hgu))
            · refine x_iconst dX2_allGood_50 ?_
              exact x_zret dX2_allGood_51 (Or.inl rfl) (by rw [zi_f (fun z => absurd (hgd.mpr ⟨hbit, z u (by omega) hbit⟩) (by omega))] at hP; exact hP)
  refine x_iload_n dX2_allGood_0 rfl ?_
  refine x_istore_n dX2_allGood_1 ?_
  refine x_iconst dX2_allGood_2 ?_
  refine x_istore dX2_allGood_3 ?_
  exact x_loc (lv' := [(0, vr E 88), (1, vi (a : Int)), (2, vi (i : Int)), (3, vi ((i + rk a 0 * gp : Nat) : Int)), (4, vi ((0 : Nat) : Int))]) ⟨rfl, rfl, rfl, xl_i rfl (by show (i : Int) = ((i + 0 * gp : Nat) : Int); omega), rfl, trivial⟩ (loop 7 0 (by omega) (by omega) (fun w hw => absurd hw (Nat.not_lt_zero w)))

set_option maxRecDepth 20000 in
theorem s_convoyStart {E : xE} {f : Nat → Nat} {D : Nat → Nat × Nat} {n : Nat} {m : xM} {P : xPo} {PX : xPx} {v : Nat → Int} {a c gp : Nat} {Gd : Nat → Nat → Prop} (hV : cV v f D m) (ha64 : a < 64) (ha0 : 0 < a) (hset : ∀ u, u < 6 → tb a u = 1 → (u : Int) < v 5) (hgp : v 1 = (gp : Int)) (hcnt : 1440 + (((pcn a : Nat) : Int) - 1) * (gp : Int) = (c : Int)) (hG : gdR m Gd a c) (hP : ∀ r, dayR (alG Gd a gp) r → P (some (vi r)) (gS f D n) m) : xC E (yX2_convoyStart, cX2_convoyStart, 3, some .int) 1 0 0 [vr E 88, vi (a : Int)] (gS f D n) m P PX := by
  refine x_enter (by decide) rfl rfl (Nat.le_of_ble_eq_true rfl) ?_
  have loop : ∀ (j i : Nat), 1440 < i + j → i ≤ 1440 → (∀ u, u < i → ¬ alG Gd a gp u) → xX E (("convoyStart", some .int, []), (1, 0, 0), P, PX) RX2 cX2_convoyStart 3 0 0 2 [(0, vr E 88), (1, vi (a : Int)), (2, vi (i : Int))] [] (gS f D n) m := by
    intro j
    induction j with
    | zero => intro i h1 h2; omega
    | succ j ih =>
      intro i h1 h2 hn
      refine x_iload_n dX2_convoyStart_2 rfl ?_
      refine x_sipush dX2_convoyStart_3 (h := ?_)
      refine x_icmp_ge (tgt := 26) dX2_convoyStart_6 (by decide) (by omega) (fun h6 => ?_) (fun h6 => ?_)
      · refine x_iconst dX2_convoyStart_26 ?_
        exact x_iret dX2_convoyStart_27  (hP (-1) (Or.inr ⟨fun t ht => hn t (by omega), rfl⟩))
      · refine x_aload_n dX2_convoyStart_9 rfl ?_
        refine x_iload_n dX2_convoyStart_10 rfl ?_
        refine x_iload_n dX2_convoyStart_11 rfl ?_
        refine x_V2 mX2_169 dX2_convoyStart_12 rfl (s_allGood hV ha64 ha0 hset hgp hcnt hG (by omega) ?_)
        refine x_if_eq (tgt := 20) dX2_convoyStart_15 (by decide) (zi_r _) (fun h15 => ?_) (fun h15 => ?_)
        · have hx := zi_0.mp h15
          refine x_iinc dX2_convoyStart_20 rfl ?_
          refine x_goto (tgt := 2) dX2_convoyStart_23 (by decide) ?_
          exact x_loc (lv' := [(0, vr E 88), (1, vi (a : Int)), (2, vi ((i + 1 : Nat) : Int))]) ⟨rfl, rfl, xl_i rfl (by omega), trivial⟩ (ih (i + 1) (by omega) (by omega) (fun u hu => by rcases (by omega : u < i ∨ u = i) with z | z; exact hn u z; exact z ▸ hx))
        · have hx := zi_1.mp h15
          refine x_iload_n dX2_convoyStart_18 rfl ?_
          exact x_iret dX2_convoyStart_19  (hP i (Or.inl ⟨i, by omega, hx, hn, rfl⟩))
  refine x_iconst dX2_convoyStart_0 ?_
  refine x_istore_n dX2_convoyStart_1 ?_
  exact x_loc (lv' := [(0, vr E 88), (1, vi (a : Int)), (2, vi ((0 : Nat) : Int))]) ⟨rfl, rfl, rfl, trivial⟩ (loop 1441 0 (by omega) (by omega) (fun u hu => absurd hu (Nat.not_lt_zero u)))

end PU
