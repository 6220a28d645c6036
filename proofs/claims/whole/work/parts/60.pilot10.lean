section PO
/-! orders of a set; bits of a long -/
def lnG (G : Nat → Nat → Prop) (gp : Nat) : Nat → List Nat → Prop
  | _, [] => True
  | t, u :: l => G u t ∧ lnG G gp (t + gp) l
def pmR : Nat → List Nat → Prop
  | a, [] => a = 0
  | a, u :: l => u < 6 ∧ tb a u = 1 ∧ pmR (ac a u) l
def lxl : List Nat → List Nat → Prop
  | [], _ => True
  | _ :: _, [] => False
  | x :: xs, y :: ys => x < y ∨ (x = y ∧ lxl xs ys)
def orS (G : Nat → Nat → Prop) (gp a t : Nat) (l : List Nat) : Prop := pmR a l ∧ lnG G gp t l
def orF (G : Nat → Nat → Prop) (gp a t : Nat) (l : List Nat) : Prop := orS G gp a t l ∧ ∀ l', orS G gp a t l' → lxl l l'
def hbit (z : Int) (r : Nat) : Prop := (Int64.ofInt z).toBitVec.getLsbD r = true
theorem sh_amt : ∀ a : Nat, a < 64 → (((Int32.ofInt (a : Int)).toInt64 &&& 63).toBitVec.smod 64) = BitVec.ofNat 64 a := by decide +kernel
theorem hb_get {z : Int} {a : Nat} (h : a < 64) : (Int64.ofInt z >>> ((Int32.ofInt (a : Int)).toInt64 &&& 63)) &&& Int64.ofInt 1 = Int64.ofInt (zi (hbit z a)) := by
  apply Int64.toBitVec_inj.mp
  rw [Int64.toBitVec_and, Int64.toBitVec_shiftRight, sh_amt a h]
  have h1 : (Int64.ofInt 1).toBitVec = 1#64 := rfl
  have h2 : (BitVec.ofNat 64 a).toNat = a := by rw [BitVec.toNat_ofNat]; exact Nat.mod_eq_of_lt (by omega)
  rw [h1]
  show ((Int64.ofInt z).toBitVec.sshiftRight (BitVec.ofNat 64 a).toNat) &&& 1#64 = _
  rw [h2]
  apply BitVec.eq_of_getLsbD_eq
  intro i hi
  rw [BitVec.getLsbD_and, BitVec.getLsbD_one, BitVec.getLsbD_sshiftRight]
  rcases Classical.em (hbit z a) with q | q
  · rw [zi_t q, h1, BitVec.getLsbD_one]
    unfold hbit at q
    generalize (Int64.ofInt z).toBitVec = X at q ⊢
    by_cases e : i = 0
    · subst e
      simp [h, q]
    · simp [e]
  · rw [zi_f q]
    have h3 : (Int64.ofInt 0).toBitVec = 0#64 := rfl
    rw [h3, BitVec.getLsbD_zero]
    unfold hbit at q
    generalize (Int64.ofInt z).toBitVec = X at q ⊢
    have q := Bool.eq_false_iff.mpr q
    by_cases e : i = 0
    · subst e
      simp [h]
      rw [← BitVec.getLsbD_eq_getElem]
      exact q
    · simp [e]
theorem hb_set {z : Int} {a r : Nat} (h : a < 64) (hr : r < 64) : hbit (Int64.ofInt z ||| (Int64.ofInt 1 <<< ((Int32.ofInt (a : Int)).toInt64 &&& 63))).toInt r ↔ hbit z r ∨ r = a := by
  unfold hbit
  rw [Int64.ofInt_toInt, Int64.toBitVec_or, Int64.toBitVec_shiftLeft, sh_amt a h, BitVec.getLsbD_or]
  have h1 : (Int64.ofInt 1).toBitVec = 1#64 := rfl
  have h2 : (BitVec.ofNat 64 a).toNat = a := by rw [BitVec.toNat_ofNat]; exact Nat.mod_eq_of_lt (by omega)
  have h3 : (1#64 <<< BitVec.ofNat 64 a).getLsbD r = decide (r = a) := by
    show (1#64 <<< (BitVec.ofNat 64 a).toNat).getLsbD r = _
    rw [h2, BitVec.getLsbD_shiftLeft, BitVec.getLsbD_one]
    by_cases e : r = a
    · subst e; simp [hr]
    · by_cases e2 : r < a
      · simp [e, e2]
      · have : ¬ r - a = 0 := by omega
        simp [e, this]
  rw [h1, h3]
  simp
theorem hb_0 (r : Nat) : ¬ hbit 0 r := by
  unfold hbit
  have h3 : (Int64.ofInt 0).toBitVec = 0#64 := rfl
  rw [h3, BitVec.getLsbD_zero]
  exact fun q => by cases q
theorem b_and2 : ∀ x : Nat, x < 64 → ∀ y : Nat, y < 64 → Int32.ofInt (x : Int) &&& Int32.ofInt (y : Int) = Int32.ofInt ((x &&& y : Nat) : Int) ∧ x &&& y < 64 := by decide +kernel
theorem b_and1 : ∀ x : Nat, x < 64 → ∀ s : Nat, s < 6 → Int32.ofInt (x : Int) &&& Int32.ofInt ((2 ^ s : Nat) : Int) = Int32.ofInt ((tb x s * 2 ^ s : Nat) : Int) ∧ tb x s * 2 ^ s < 64 ∧ (tb x s * 2 ^ s = 0 ↔ tb x s = 0) := by decide +kernel
theorem b_tb2 : ∀ x : Nat, x < 64 → ∀ y : Nat, y < 64 → ∀ s : Nat, s < 6 → (tb (x &&& y) s = 1 ↔ tb x s = 1 ∧ tb y s = 1) := by decide +kernel
theorem pcn_ac : ∀ a : Nat, a < 64 → ∀ s : Nat, s < 6 → tb a s = 1 → pcn (ac a s) + 1 = pcn a := by decide +kernel
theorem pcn_0 : ∀ a : Nat, a < 64 → (pcn a = 0 ↔ a = 0) := by decide +kernel
theorem pmR_nz {a : Nat} {l : List Nat} (h : pmR a l) (ha : a ≠ 0) : ∃ u l', l = u :: l' := by
  cases l with
  | nil => exact absurd h ha
  | cons u l' => exact ⟨u, l', rfl⟩
theorem orF_c {G : Nat → Nat → Prop} {gp a t u : Nat} {l : List Nat} (hu : u < 6) (hb : tb a u = 1) (ha : a ≠ 0) (hG : G u t) (h : orF G gp (ac a u) (t + gp) l) (hn : ∀ w l', w < u → ¬ orS G gp a t (w :: l')) : orF G gp a t (u :: l) := by
  refine ⟨⟨⟨hu, hb, h.1.1⟩, hG, h.1.2⟩, fun l' hl' => ?_⟩
  obtain ⟨w, l'', rfl⟩ := pmR_nz hl'.1 ha
  rcases (by omega : w < u ∨ u < w ∨ u = w) with q | q | q
  · exact absurd hl' (hn w l'' q)
  · exact Or.inl q
  · subst q
    exact Or.inr ⟨rfl, h.2 l'' ⟨hl'.1.2.2, hl'.2.2⟩⟩
theorem lxl_as {a b : List Nat} : a.length = b.length → lxl a b → lxl b a → a = b := by
  induction a generalizing b with
  | nil => intro h _ _; cases b with
    | nil => rfl
    | cons _ _ => cases h
  | cons x xs ih =>
    intro h h1 h2
    cases b with
    | nil => cases h
    | cons y ys =>
      rcases h1 with q | ⟨q, q1⟩
      · rcases h2 with p | ⟨p, p1⟩ <;> omega
      · rcases h2 with p | ⟨p, p1⟩
        · omega
        · rw [q, ih (by simpa using h) q1 p1]
theorem pmR_len : ∀ (l : List Nat) (a : Nat), a < 64 → pmR a l → l.length = pcn a := by
  intro l
  induction l with
  | nil => intro a ha h; have : a = 0 := h; subst this; rfl
  | cons u l ih =>
    intro a ha h
    have h1 := ih (ac a u) (ac_lt a ha u h.1) h.2.2
    have h2 := pcn_ac a ha u h.1 h.2.1
    show l.length + 1 = _
    omega
/-- sets that are marked have no order from their place on -/
def hpI (G : Nat → Nat → Prop) (gp A i0 : Nat) (z : Int) : Prop := ∀ r, r < 64 → hbit z r → ∀ l, ¬ orS G gp r (i0 + (pcn A - pcn r) * gp) l
/-- what linesUp has found -/
def luR (G : Nat → Nat → Prop) (gp A i0 a p t : Nat) (m m' : xM) (r : Int) : Prop :=
  ag [88, 95] m m' ∧ hpI G gp A i0 (m' 88 8) ∧ (∀ q, q < p → m' 95 q = m 95 q) ∧
  ((r = 1 ∧ ∃ l, orF G gp a t l ∧ l.length = pcn a ∧ ∀ j, j < pcn a → m' 95 (p + j) = (l.getD j 0 : Int)) ∨ (r = 0 ∧ ∀ l, ¬ orS G gp a t l))
theorem sub_p : ∀ A : Nat, A < 64 → ∀ a : Nat, a < 64 → (∀ w : Nat, w < 6 → tb a w = 1 → tb A w = 1) → pcn a ≤ pcn A := by decide +kernel
theorem sub_pcn {A a : Nat} (hA : A < 64) (ha : a < 64) (h : ∀ w : Nat, w < 6 → tb a w = 1 → tb A w = 1) : pcn a ≤ pcn A := sub_p A hA a ha h
set_option maxRecDepth 20000 in
theorem s_linesUp {E : xE} {f : Nat → Nat} {D : Nat → Nat × Nat} {n : Nat} {PX : xPx} {v : Nat → Int} {A c gp i0 : Nat} {Gd : Nat → Nat → Prop} (hA : A < 64) (hA0 : 0 < A) (hset : ∀ u, u < 6 → tb A u = 1 → (u : Int) < v 5) (hgp : v 1 = (gp : Int)) (hg2 : gp ≤ 240) (hcnt : 1440 + (((pcn A : Nat) : Int) - 1) * (gp : Int) = (c : Int)) (hi0 : i0 < 1440) (hv5 : 0 ≤ v 5 ∧ v 5 ≤ 6) :
    ∀ (k a p t : Nat) (m : xM) (P : xPo), pcn a = k → a < 64 → p + k ≤ 6 → t = i0 + (pcn A - pcn a) * gp → (∀ w, w < 6 → tb a w = 1 → tb A w = 1) → cV v f D m → gdR m Gd A c → hpI Gd gp A i0 (m 88 8) → (∀ m' r, luR Gd gp A i0 a p t m m' r → P (some (vi r)) (gS f D n) m') →
    xC E (yX2_linesUp, cX2_linesUp, 5, some .boolean) k 0 0 [vr E 88, vi (p : Int), vi (a : Int), vi (t : Int)] (gS f D n) m P PX := by
  have hc := gp_c hA hA0 hg2 hcnt
  intro k
  induction k with
  | zero =>
    intro a p t m P hk ha64 hpk ht hsub hV hG hp hP
    have hz : a = 0 := (pcn_0 a ha64).mp hk
    subst hz
    refine x_enter (by decide) rfl rfl (Nat.le_of_ble_eq_true rfl) ?_
    refine x_iload_n dX2_linesUp_0 rfl ?_
    refine x_if_ne (tgt := 6) dX2_linesUp_1 (by decide) (by omega) (fun h1 => absurd h1 (by omega)) (fun h1 => ?_)
    refine x_iconst dX2_linesUp_4 ?_
    exact x_zret dX2_linesUp_5 (Or.inr rfl) (hP m 1 ⟨ag.rf, hp, fun _ _ => rfl, Or.inl ⟨rfl, [], ⟨⟨rfl, trivial⟩, fun _ _ => trivial⟩, rfl, fun j hj => absurd hj (Nat.not_lt_zero j)⟩⟩)
  | succ k IH =>
    intro a p t m P hk ha64 hpk ht hsub hV hG hp hP
    refine x_enter (by decide) rfl rfl (Nat.le_of_ble_eq_true rfl) ?_
    refine x_iload_n dX2_linesUp_0 rfl ?_
    refine x_if_ne (tgt := 6) dX2_linesUp_1 (by decide) (by omega) (fun h1 => ?_) (fun h1 => ?_)
    · have hnz : a ≠ 0 := by omega
      have hk1 : 1 ≤ pcn a := (pcn_b a ha64 (by omega)).1
      have hle : pcn a ≤ pcn A := sub_pcn hA ha64 hsub
      have htc : t < c := by
        have h2 := Nat.mul_le_mul_right gp (show pcn A - pcn a + 1 ≤ pcn A by omega)
        rw [Nat.add_mul, Nat.one_mul] at h2
        rw [Int.sub_mul, Int.one_mul] at hcnt
        have h3 : (((pcn A) * gp : Nat) : Int) = ((pcn A : Nat) : Int) * (gp : Int) := Int.natCast_mul _ _
        omega
      obtain ⟨Q, hq, hd⟩ := hG
      have hqt := hq t (by omega)
      have loop : ∀ (j u : Nat) (m1 : xM), v 5 < (u : Int) + j → (u : Int) ≤ v 5 → ag [88, 95] m m1 → hpI Gd gp A i0 (m1 88 8) → (∀ q, q < p → m1 95 q = m 95 q) → (∀ w l, w < u → ¬ orS Gd gp a t (w :: l)) → xX E (("linesUp", some .boolean, []), (k + 1, 0, 0), P, PX) RX2 cX2_linesUp 5 0 0 39 [(0, vr E 88), (1, vi (p : Int)), (2, vi (a : Int)), (3, vi (t : Int)), (4, vi (u : Int))] [] (gS f D n) m1 := by
        intro j
        induction j with
        | zero => intro u m1 h1 h2; omega
        | succ j ih =>
          intro u m1 h1 h2 ha1 hp1 hb1 hn
          refine x_iload dX2_linesUp_39 rfl ?_
          refine x_aload_n dX2_linesUp_41 rfl ?_
          refine x_getR (r := 41) fX2_35 dX2_linesUp_42 rfl rfl ?_
          refine x_getI fX2_130 dX2_linesUp_45 rfl ?_
          refine x_top (show m1 41 5 = v 5 by rw [ha1 41 (by decide)]; exact hV.2.1.1.2.2.2.1) ?_
          refine x_icmp_ge (tgt := 110) dX2_linesUp_48 (by decide) (by omega) (fun h48 => ?_) (fun h48 => ?_)
          · have hno : ∀ l, ¬ orS Gd gp a t l := fun l z => by
              obtain ⟨w, l2, rfl⟩ := pmR_nz z.1 hnz
              exact hn w l2 (by have := hset w z.1.1 (hsub w z.1.1 z.1.2.1); omega) z
            refine x_aload_n dX2_linesUp_110 rfl ?_
            refine x_dup dX2_linesUp_111 vr_cat ?_
            refine x_getL fX2_173 dX2_linesUp_112 rfl ?_
            refine x_lconst1 dX2_linesUp_115 ?_
            refine x_iload_n dX2_linesUp_116 rfl ?_
            refine x_lshl (z := _) dX2_linesUp_117 ((Int64.ofInt_toInt _).symm) ?_
            refine x_lor (z := _) dX2_linesUp_118 ((Int64.ofInt_toInt _).symm) ?_
            refine x_putL fX2_173 dX2_linesUp_119 rfl (by decide) rfl rfl ?_
            refine x_iconst dX2_linesUp_122 ?_
            exact x_zret dX2_linesUp_123 (Or.inl rfl) (hP _ 0 ⟨ha1.u (by decide), fun r hr hz l z => by
            have hz : hbit (Int64.ofInt (m1 88 8) ||| Int64.ofInt (Int64.ofInt 1 <<< ((Int32.ofInt (a : Int)).toInt64 &&& 63)).toInt).toInt r := by rw [xu_if, if_pos rfl] at hz; exact hz
            rw [Int64.ofInt_toInt] at hz
            rcases (hb_set ha64 hr).mp hz with y | y
            · exact hp1 r hr y l z
            · subst y; rw [← ht] at z; exact hno l z, fun q hq => by rw [xu_ne (by decide)]; exact hb1 q hq, Or.inr ⟨rfl, hno⟩⟩)
          · have hu : (u : Int) < v 5 := by omega
            have hbd := b_and1 (Q t &&& a) (b_and2 _ hqt.2 a ha64).2 u (by omega)
            refine x_aload_n dX2_linesUp_51 rfl ?_
            refine x_getR (r := 92) fX2_22 dX2_linesUp_52 rfl rfl ?_
            refine x_iload_n dX2_linesUp_55 rfl ?_
            refine x_iald (j := t) dX2_linesUp_56 rfl (by omega) (show _ < 2640 by omega) (by omega) ?_
            refine x_top (show m1 92 t = (Q t : Int) by rw [ha1 92 (by decide)]; exact hqt.1) ?_
            refine x_iload_n dX2_linesUp_57 rfl ?_
            refine x_iand (z := ((Q t &&& a : Nat) : Int)) dX2_linesUp_58 ((b_and2 _ hqt.2 a ha64).1) ?_
            refine x_iconst dX2_linesUp_59 ?_
            refine x_iload dX2_linesUp_60 rfl ?_
            refine x_ishl (z := ((2 ^ u : Nat) : Int)) dX2_linesUp_62 (b_shl1 u (by omega)) ?_
            refine x_iand (z := ((tb (Q t &&& a) u * 2 ^ u : Nat) : Int)) dX2_linesUp_63 (hbd.1) ?_
            refine x_if_eq (tgt := 104) dX2_linesUp_64 (by decide) (by have := hbd.2.1; omega) (fun h64 => ?_) (fun h64 => ?_)
            · refine x_iinc dX2_linesUp_104 rfl ?_
              refine x_goto (tgt := 39) dX2_linesUp_107 (by decide) ?_
              exact x_loc (lv' := [(0, vr E 88), (1, vi (p : Int)), (2, vi (a : Int)), (3, vi (t : Int)), (4, vi ((u + 1 : Nat) : Int))]) ⟨rfl, rfl, rfl, rfl, xl_i rfl (by omega), trivial⟩ (ih (u + 1) m1 (by omega) (by omega) ha1 hp1 hb1 (fun w l hw z => by
                rcases (by omega : w < u ∨ w = u) with y | y
                · exact hn w l y z
                · subst y
                  have e1 := z.1.2.1
                  have e2 := (hd t (by omega) w (by omega)).mpr ⟨hsub w (by omega) e1, z.2.1⟩
                  have e3 := (b_tb2 _ hqt.2 a ha64 w (by omega)).mpr ⟨e2, e1⟩
                  have e4 := hbd.2.2.mp (by omega)
                  omega))
            · have hb2 := (b_tb2 _ hqt.2 a ha64 u (by omega)).mp (by have := tb_01 (Q t &&& a) u; have := hbd.2.2; omega)
              have hGu := ((hd t (by omega) u (by omega)).mp hb2.1).2
              have hpa := pcn_ac a ha64 u (by omega) hb2.2
              have htg : t + gp = i0 + (pcn A - pcn (ac a u)) * gp := by
                rw [ht, show pcn A - pcn (ac a u) = (pcn A - pcn a) + 1 by omega, Nat.add_mul]; omega
              refine x_aload_n dX2_linesUp_67 rfl ?_
              refine x_getR (r := 95) fX2_32 dX2_linesUp_68 rfl rfl ?_
              refine x_iload_n dX2_linesUp_71 rfl ?_
              refine x_iload dX2_linesUp_72 rfl ?_
              refine x_iast (j := p) dX2_linesUp_74 rfl (by decide) rfl (show p < 6 by omega) (by omega) ?_
              refine x_aload_n dX2_linesUp_75 rfl ?_
              refine x_iload_n dX2_linesUp_76 rfl ?_
              refine x_iconst dX2_linesUp_77 ?_
              refine x_iadd dX2_linesUp_78 ?_
              refine x_top (show (p : Int) + 1 = ((p + 1 : Nat) : Int) by omega) ?_
              refine x_iload_n dX2_linesUp_79 rfl ?_
              refine x_iconst dX2_linesUp_80 ?_
              refine x_iload dX2_linesUp_81 rfl ?_
              refine x_ishl (z := ((2 ^ u : Nat) : Int)) dX2_linesUp_83 (b_shl1 u (by omega)) ?_
              refine x_iconst dX2_linesUp_84 ?_
              refine x_ixor (z := (-1 - ((2 ^ u : Nat) : Int))) dX2_linesUp_85 (b_not u (by omega)) ?_
              refine x_iand (z := ((ac a u : Nat) : Int)) dX2_linesUp_86 (b_ac a ha64 u (by omega)) ?_
              refine x_iload_n dX2_linesUp_87 rfl ?_
              refine x_aload_n dX2_linesUp_88 rfl ?_
              refine x_getR (r := 41) fX2_35 dX2_linesUp_89 rfl rfl ?_
              refine x_getI fX2_127 dX2_linesUp_92 rfl ?_
              refine x_top (show xu m1 95 p (u : Int) 41 1 = (gp : Int) by rw [xu_ne (by decide), ha1 41 (by decide), hV.2.1.1.1.2.1, hgp]) ?_
              refine x_iadd dX2_linesUp_95 ?_
              refine x_top (show (t : Int) + (gp : Int) = ((t + gp : Nat) : Int) by omega) ?_
              refine x_V3 mX2_177 dX2_linesUp_96 rfl (IH (ac a u) (p + 1) (t + gp) (xu m1 95 p (u : Int)) _ (by omega) (ac_lt a ha64 u (by omega)) (by omega) htg (fun w hw z => hsub w hw (by rw [tb_ac a ha64 u (by omega) w hw] at z; split at z; omega; exact z)) (hV.ag ((ag.u (S := [88, 95]) ha1 (by decide))) (by decide) (by decide) (by decide) (by decide) (by decide) (by decide) (by decide)) ⟨Q, fun i hi => by rw [xu_ne (by decide), ha1 92 (by decide)]; exact hq i hi, hd⟩ (by rw [xu_ne (by decide)]; exact hp1) (fun m2 r hr2 => ?_)) (hdp := by omega)
              refine x_if_eq (tgt := 104) dX2_linesUp_99 (by decide) (by rcases hr2.2.2.2 with x | x <;> omega) (fun h99 => ?_) (fun h99 => ?_)
              · refine x_iinc dX2_linesUp_104 rfl ?_
                refine x_goto (tgt := 39) dX2_linesUp_107 (by decide) ?_
                refine x_loc (lv' := [(0, vr E 88), (1, vi (p : Int)), (2, vi (a : Int)), (3, vi (t : Int)), (4, vi ((u + 1 : Nat) : Int))]) ⟨rfl, rfl, rfl, rfl, xl_i rfl (by omega), trivial⟩ (ih (u + 1) m2 (by omega) (by omega) (ha1.tr1 ((ag.u (S := [88, 95]) ag.rf (by decide)).tr1 hr2.1)) hr2.2.1 (fun q hq => ?_) (fun w l hw z => ?_))
                · rw [hr2.2.2.1 q (by omega), xu_if, if_neg (by omega)]
                  exact hb1 q hq
                · rcases (by omega : w < u ∨ w = u) with y | y
                  · exact hn w l y z
                  · subst y
                    rcases hr2.2.2.2 with x | x
                    · omega
                    · exact x.2 l ⟨z.1.2.2, z.2.2⟩
              · obtain ⟨l, hl1, hl2, hl3⟩ : ∃ l, orF Gd gp (ac a u) (t + gp) l ∧ l.length = pcn (ac a u) ∧ ∀ j, j < pcn (ac a u) → m2 95 (p + 1 + j) = (l.getD j 0 : Int) := by
                  rcases hr2.2.2.2 with x | x
                  · exact x.2
                  · omega
                refine x_iconst dX2_linesUp_102 ?_
                exact x_zret dX2_linesUp_103 (Or.inr rfl) (hP m2 1 ⟨ha1.tr1 ((ag.u (S := [88, 95]) ag.rf (by decide)).tr1 hr2.1), hr2.2.1, fun q hq => by rw [hr2.2.2.1 q (by omega), xu_if, if_neg (by omega)]; exact hb1 q hq, Or.inl ⟨rfl, u :: l, orF_c (by omega) hb2.2 hnz hGu hl1 hn, by show l.length + 1 = _; omega, fun j hj => by
            cases j with
            | zero => show m2 95 p = (u : Int); rw [hr2.2.2.1 p (by omega), xu_if, if_pos rfl]
            | succ j => have := hl3 j (by omega); rw [show p + (j + 1) = p + 1 + j by omega]; exact this⟩⟩)
      refine x_iload_n dX2_linesUp_6 rfl ?_
      refine x_bipush dX2_linesUp_7 (h := ?_)
      refine x_icmp_ge (tgt := 34) dX2_linesUp_9 (by decide) (by omega) (fun h9 => absurd h9 (by omega)) (fun h9 => ?_)
      refine x_iload_n dX2_linesUp_12 rfl ?_
      refine x_aload_n dX2_linesUp_13 rfl ?_
      refine x_getR (r := 92) fX2_22 dX2_linesUp_14 rfl rfl ?_
      refine x_alen (t := 8) (N := 2640) dX2_linesUp_17 rfl (by decide) rfl ?_
      refine x_icmp_ge (tgt := 34) dX2_linesUp_18 (by decide) (by omega) (fun h18 => absurd h18 (by omega)) (fun h18 => ?_)
      refine x_aload_n dX2_linesUp_21 rfl ?_
      refine x_getL fX2_173 dX2_linesUp_22 rfl ?_
      refine x_iload_n dX2_linesUp_25 rfl ?_
      refine x_lshr (z := _) dX2_linesUp_26 ((Int64.ofInt_toInt _).symm) ?_
      refine x_lconst1 dX2_linesUp_27 ?_
      refine x_land (z := zi (hbit (m 88 8) a)) dX2_linesUp_28 (by rw [Int64.ofInt_toInt]; exact hb_get ha64) ?_
      refine x_lconst1 dX2_linesUp_29 ?_
      refine x_lne (tgt := 36) dX2_linesUp_30 dX2_linesUp_31 (by decide) (by have := zi_01 (hbit (m 88 8) a); omega) (fun h30 => ?_) (fun h30 => ?_)
      · refine x_iconst dX2_linesUp_36 ?_
        refine x_istore dX2_linesUp_37 ?_
        exact x_loc (lv' := [(0, vr E 88), (1, vi (p : Int)), (2, vi (a : Int)), (3, vi (t : Int)), (4, vi ((0 : Nat) : Int))]) ⟨rfl, rfl, rfl, rfl, rfl, trivial⟩ (loop 7 0 m (by omega) (by omega) ag.rf hp (fun _ _ => rfl) (fun w l hw => absurd hw (Nat.not_lt_zero w)))
      · have hx : hbit (m 88 8) a := zi_1.mp (by omega)
        refine x_iconst dX2_linesUp_34 ?_
        exact x_zret dX2_linesUp_35 (Or.inl rfl) (hP m 0 ⟨ag.rf, hp, fun _ _ => rfl, Or.inr ⟨rfl, fun l z => by rw [ht] at z; exact hp a ha64 hx l z⟩⟩)
    · have hz : a = 0 := by omega
      subst hz
      refine x_iconst dX2_linesUp_4 ?_
      exact x_zret dX2_linesUp_5 (Or.inr rfl) (hP m 1 ⟨ag.rf, hp, fun _ _ => rfl, Or.inl ⟨rfl, [], ⟨⟨rfl, trivial⟩, fun _ _ => trivial⟩, rfl, fun j hj => absurd hj (Nat.not_lt_zero j)⟩⟩)

end PO
