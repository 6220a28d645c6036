section PQ
/-- the first start of a day from which on a set can go in some order, the first such order; none -/
def ordR (G : Nat → Nat → Prop) (gp a : Nat) (r : Int) (q : Nat → Int) : Prop :=
  (∃ (i : Nat) (l : List Nat), i < 1440 ∧ r = (i : Int) ∧ orF G gp a i l ∧ (∀ u, u < i → ∀ l', ¬ orS G gp a u l') ∧ ∀ j, j < pcn a → q j = (l.getD j 0 : Int)) ∨ (r = -1 ∧ ∀ u, u < 1440 → ∀ l', ¬ orS G gp a u l')
theorem ordR_u {G : Nat → Nat → Prop} {gp a : Nat} {r r' : Int} {q q' : Nat → Int} (ha : a < 64) (h : ordR G gp a r q) (h' : ordR G gp a r' q') : r = r' ∧ (r ≠ -1 → ∀ j, j < pcn a → q j = q' j) := by
  rcases h with ⟨i, l, h1, h2, h3, h4, h5⟩ | ⟨h1, h2⟩
  · rcases h' with ⟨i', l', g1, g2, g3, g4, g5⟩ | ⟨g1, g2⟩
    · have e : i = i' := by
        rcases (by omega : i < i' ∨ i = i' ∨ i' < i) with z | z | z
        · exact absurd h3.1 (g4 i z l)
        · exact z
        · exact absurd g3.1 (h4 i' z l')
      subst e
      have e2 : l = l' := lxl_as (by rw [pmR_len l a ha h3.1.1, pmR_len l' a ha g3.1.1]) (h3.2 l' g3.1) (g3.2 l h3.1)
      subst e2
      exact ⟨by omega, fun _ j hj => by rw [h5 j hj, g5 j hj]⟩
    · exact absurd h3.1 (g2 i h1 l)
  · rcases h' with ⟨i', l', g1, g2, g3, g4, g5⟩ | ⟨g1, g2⟩
    · exact absurd g3.1 (h2 i' g1 l')
    · exact ⟨by omega, fun z => by omega⟩
theorem ordR_b {G : Nat → Nat → Prop} {gp a : Nat} {r : Int} {q : Nat → Int} (h : ordR G gp a r q) : -1 ≤ r ∧ r < 1440 := by
  rcases h with ⟨i, l, h1, h2, h3, h4, h5⟩ | ⟨h1, h2⟩ <;> omega
set_option maxRecDepth 20000 in
theorem s_bestOrderStart {E : xE} {f : Nat → Nat} {D : Nat → Nat × Nat} {n : Nat} {m : xM} {P : xPo} {PX : xPx} {v : Nat → Int} {a c gp : Nat} {Gd : Nat → Nat → Prop} (hV : cV v f D m) (ha64 : a < 64) (ha0 : 0 < a) (hset : ∀ u, u < 6 → tb a u = 1 → (u : Int) < v 5) (hgp : v 1 = (gp : Int)) (hcnt : 1440 + (((pcn a : Nat) : Int) - 1) * (gp : Int) = (c : Int)) (hG : gdR m Gd a c) (hP : ∀ m' r, ag [88, 95] m m' → ordR Gd gp a r (m' 95) → P (some (vi r)) (gS f D n) m') : xC E (yX2_bestOrderStart, cX2_bestOrderStart, 3, some .int) 7 0 0 [vr E 88, vi (a : Int)] (gS f D n) m P PX := by
  refine x_enter (by decide) rfl rfl (Nat.le_of_ble_eq_true rfl) ?_
  have hv5 := hV.1.1.2.2.2.2.2.1
  have hv1 := hV.1.1.2.1
  have hpc := pcn_b a ha64 ha0
  have loop : ∀ (j i : Nat) (m1 : xM), 1440 < i + j → i ≤ 1440 → ag [88, 95] m m1 → (∀ u, u < i → ∀ l, ¬ orS Gd gp a u l) → xX E (("bestOrderStart", some .int, []), (7, 0, 0), P, PX) RX2 cX2_bestOrderStart 3 0 0 2 [(0, vr E 88), (1, vi (a : Int)), (2, vi (i : Int))] [] (gS f D n) m1 := by
    intro j
    induction j with
    | zero => intro i m1 h1 h2; omega
    | succ j ih =>
      intro i m1 h1 h2 ha1 hn
      refine x_iload_n dX2_bestOrderStart_2 rfl ?_
      refine x_sipush dX2_bestOrderStart_3 (h := ?_)
      refine x_icmp_ge (tgt := 32) dX2_bestOrderStart_6 (by decide) (by omega) (fun h6 => ?_) (fun h6 => ?_)
      · refine x_iconst dX2_bestOrderStart_32 ?_
        exact x_iret dX2_bestOrderStart_33  (hP m1 (-1) ha1 (Or.inr ⟨rfl, fun u hu => hn u (by omega)⟩))
      · refine x_aload_n dX2_bestOrderStart_9 rfl ?_
        refine x_lconst0 dX2_bestOrderStart_10 ?_
        refine x_putL fX2_173 dX2_bestOrderStart_11 rfl (by decide) rfl rfl ?_
        refine x_aload_n dX2_bestOrderStart_14 rfl ?_
        refine x_iconst dX2_bestOrderStart_15 ?_
        refine x_iload_n dX2_bestOrderStart_16 rfl ?_
        refine x_iload_n dX2_bestOrderStart_17 rfl ?_
        refine x_V3 mX2_177 dX2_bestOrderStart_18 rfl (s_linesUp (Gd := Gd) (i0 := i) ha64 ha0 hset hgp (by omega) hcnt (by omega) hv5 (pcn a) a 0 i _ _ rfl ha64 (by omega) (by rw [Nat.sub_self, Nat.zero_mul]; rfl) (fun _ _ z => z) (hV.ag (ag.u (S := [88, 95]) ha1 (by decide)) (by decide) (by decide) (by decide) (by decide) (by decide) (by decide) (by decide)) (by obtain ⟨Q, hq, hd⟩ := hG; exact ⟨Q, fun i hi => by rw [xu_ne (by decide), ha1 92 (by decide)]; exact hq i hi, hd⟩) (fun r _ hz => by rw [xu_if, if_pos rfl] at hz; exact absurd hz (hb_0 r)) (fun m2 r hr2 => ?_)) (hdp := by omega)
        refine x_if_eq (tgt := 26) dX2_bestOrderStart_21 (by decide) (by rcases hr2.2.2.2 with x | x <;> omega) (fun h21 => ?_) (fun h21 => ?_)
        · refine x_iinc dX2_bestOrderStart_26 rfl ?_
          refine x_goto (tgt := 2) dX2_bestOrderStart_29 (by decide) ?_
          refine x_loc (lv' := [(0, vr E 88), (1, vi (a : Int)), (2, vi ((i + 1 : Nat) : Int))]) ⟨rfl, rfl, xl_i rfl (by omega), trivial⟩ (ih (i + 1) m2 (by omega) (by omega) (ha1.tr1 ((ag.u (S := [88, 95]) ag.rf (by decide)).tr1 hr2.1)) (fun u hu l z => ?_))
          rcases (by omega : u < i ∨ u = i) with y | y
          · exact hn u y l z
          · subst y
            rcases hr2.2.2.2 with x | x
            · omega
            · exact x.2 l z
        · refine x_iload_n dX2_bestOrderStart_24 rfl ?_
          exact x_iret dX2_bestOrderStart_25  (hP m2 i (ha1.tr1 ((ag.u (S := [88, 95]) ag.rf (by decide)).tr1 hr2.1)) (by
        rcases hr2.2.2.2 with x | x
        · obtain ⟨l, hl1, hl2, hl3⟩ := x.2
          exact Or.inl ⟨i, l, by omega, rfl, hl1, hn, fun j hj => by have := hl3 j hj; rw [Nat.zero_add] at this; exact this⟩
        · omega))
  refine x_iconst dX2_bestOrderStart_0 ?_
  refine x_istore_n dX2_bestOrderStart_1 ?_
  exact x_loc (lv' := [(0, vr E 88), (1, vi (a : Int)), (2, vi ((0 : Nat) : Int))]) ⟨rfl, rfl, rfl, trivial⟩ (loop 1441 0 m (by omega) (by omega) ag.rf (fun u hu => absurd hu (Nat.not_lt_zero u)))

end PQ
