section FE
def put20 (q : Nat → Int) (p : Nat) (a b c d e : Int) : Nat → Int := put4 (put4 (put4 (put4 (put4 q p a) (p + 4) b) (p + 8) c) (p + 12) d) (p + 16) e
/-- what feed leaves: the cell with the count, its number there, the tape's cell -/
def fdR (o k tp : Nat) (p : Nat) (a b c d e : Int) (m m' : xM) (r : Int) : Prop :=
  (600 < p + 20 ∧ r = -1 ∧ m' = m) ∨ (p + 20 ≤ 600 ∧ r = ((p + 20 : Nat) : Int) ∧ ag [o, tp] m m' ∧ (∀ j, j ≠ k → m' o j = m o j) ∧ m' o k = ((p + 20 : Nat) : Int) ∧ m' tp = put20 (m tp) p a b c d e)
set_option maxRecDepth 20000 in
theorem s_mfeed {E : xE} {f : Nat → Nat} {D : Nat → Nat × Nat} {n : Nat} {m : xM} {P : xPo} {PX : xPx} {a b c d e : Int} {p : Nat} (hp : m 96 8 = (p : Int)) (hp9 : p ≤ 600) (hP : ∀ m' r, fdR 96 8 101 p a b c d e (xu m 96 0 0) m' r → P (some (vi r)) (gS f D n) m') : xC E (yX6_feed, cX6_feed, 6, some .int) 1 0 0 [vr E 96, vi a, vi b, vi c, vi d, vi e] (gS f D n) m P PX := by
  refine x_enter (by decide) rfl rfl (Nat.le_of_ble_eq_true rfl) ?_
  have hp0 : xu m 96 0 0 96 8 = ((p + 0 : Nat) : Int) := by rw [xu_if, if_neg (by omega)]; exact hp
  refine x_aload_n dX6_feed_0 rfl ?_
  refine x_iconst dX6_feed_1 ?_
  refine x_putI fX6_1 dX6_feed_2 rfl (by decide) rfl rfl ?_
  refine x_aload_n dX6_feed_5 rfl ?_
  refine x_getI fX6_65 dX6_feed_6 rfl ?_
  refine x_top (hp0) ?_
  refine x_bipush dX6_feed_9 (h := ?_)
  refine x_iadd dX6_feed_11 ?_
  refine x_sipush dX6_feed_12 (h := ?_)
  refine x_icmp_le (tgt := 20) dX6_feed_15 (by decide) (by omega) (fun h15 => ?_) (fun h15 => ?_)
  · refine x_aload_n dX6_feed_20 rfl ?_
    refine x_iload_n dX6_feed_21 rfl ?_
    refine x_V1 mX6_68 dX6_feed_22 rfl (s_puts (p := p + 0) (by omega) hp0 (fun m1 h1a h1b h1c h1d => ?_))
    refine x_aload_n dX6_feed_25 rfl ?_
    refine x_iload_n dX6_feed_26 rfl ?_
    refine x_V1 mX6_68 dX6_feed_27 rfl (s_puts (p := p + 4) (by omega) h1c (fun m2 h2a h2b h2c h2d => ?_))
    refine x_aload_n dX6_feed_30 rfl ?_
    refine x_iload_n dX6_feed_31 rfl ?_
    refine x_V1 mX6_68 dX6_feed_32 rfl (s_puts (p := p + 8) (by omega) h2c (fun m3 h3a h3b h3c h3d => ?_))
    refine x_aload_n dX6_feed_35 rfl ?_
    refine x_iload dX6_feed_36 rfl ?_
    refine x_V1 mX6_68 dX6_feed_38 rfl (s_puts (p := p + 12) (by omega) h3c (fun m4 h4a h4b h4c h4d => ?_))
    refine x_aload_n dX6_feed_41 rfl ?_
    refine x_iload dX6_feed_42 rfl ?_
    refine x_V1 mX6_68 dX6_feed_44 rfl (s_puts (p := p + 16) (by omega) h4c (fun m5 h5a h5b h5c h5d => ?_))
    refine x_aload_n dX6_feed_47 rfl ?_
    refine x_getI fX6_65 dX6_feed_48 rfl ?_
    refine x_top (show m5 96 8 = ((p + 20 : Nat) : Int) by rw [h5c]) ?_
    exact x_iret dX6_feed_51  (hP m5 _ (Or.inr ⟨by omega, rfl, ((((h1a.tr1 h2a).tr1 h3a).tr1 h4a).tr1 h5a), fun j hj => by rw [h5b j hj, h4b j hj, h3b j hj, h2b j hj, h1b j hj], h5c, by rw [h5d, h4d, h3d, h2d, h1d]; rfl⟩))
  · refine x_iconst dX6_feed_18 ?_
    exact x_iret dX6_feed_19  (hP _ _ (Or.inl ⟨by omega, rfl, rfl⟩))

set_option maxRecDepth 20000 in
theorem s_feed {E : xE} {f : Nat → Nat} {D : Nat → Nat × Nat} {n : Nat} {m : xM} {P : xPo} {PX : xPx} {a b c d e : Int} {p : Nat} (hp : m 40 6 = (p : Int)) (hp9 : p ≤ 600) (hP : ∀ m' r, fdR 40 6 79 p a b c d e m m' r → P (some (vi r)) (gS f D n) m') : xC E (yX5_feed, cX5_feed, 6, some .int) 1 0 0 [vr E 40, vi a, vi b, vi c, vi d, vi e] (gS f D n) m P PX := by
  refine x_enter (by decide) rfl rfl (Nat.le_of_ble_eq_true rfl) ?_
  have hp0 : m 40 6 = ((p + 0 : Nat) : Int) := hp
  refine x_aload_n dX5_feed_0 rfl ?_
  refine x_getI fX5_58 dX5_feed_1 rfl ?_
  refine x_top (hp0) ?_
  refine x_bipush dX5_feed_4 (h := ?_)
  refine x_iadd dX5_feed_6 ?_
  refine x_sipush dX5_feed_7 (h := ?_)
  refine x_icmp_le (tgt := 15) dX5_feed_10 (by decide) (by omega) (fun h10 => ?_) (fun h10 => ?_)
  · refine x_aload_n dX5_feed_15 rfl ?_
    refine x_iload_n dX5_feed_16 rfl ?_
    refine x_V1 mX5_61 dX5_feed_17 rfl (s_putBytes (p := p + 0) (by omega) hp0 (fun m1 h1a h1b h1c h1d => ?_))
    refine x_aload_n dX5_feed_20 rfl ?_
    refine x_iload_n dX5_feed_21 rfl ?_
    refine x_V1 mX5_61 dX5_feed_22 rfl (s_putBytes (p := p + 4) (by omega) h1c (fun m2 h2a h2b h2c h2d => ?_))
    refine x_aload_n dX5_feed_25 rfl ?_
    refine x_iload_n dX5_feed_26 rfl ?_
    refine x_V1 mX5_61 dX5_feed_27 rfl (s_putBytes (p := p + 8) (by omega) h2c (fun m3 h3a h3b h3c h3d => ?_))
    refine x_aload_n dX5_feed_30 rfl ?_
    refine x_iload dX5_feed_31 rfl ?_
    refine x_V1 mX5_61 dX5_feed_33 rfl (s_putBytes (p := p + 12) (by omega) h3c (fun m4 h4a h4b h4c h4d => ?_))
    refine x_aload_n dX5_feed_36 rfl ?_
    refine x_iload dX5_feed_37 rfl ?_
    refine x_V1 mX5_61 dX5_feed_39 rfl (s_putBytes (p := p + 16) (by omega) h4c (fun m5 h5a h5b h5c h5d => ?_))
    refine x_aload_n dX5_feed_42 rfl ?_
    refine x_getI fX5_58 dX5_feed_43 rfl ?_
    refine x_top (show m5 40 6 = ((p + 20 : Nat) : Int) by rw [h5c]) ?_
    exact x_iret dX5_feed_46  (hP m5 _ (Or.inr ⟨by omega, rfl, ((((h1a.tr1 h2a).tr1 h3a).tr1 h4a).tr1 h5a), fun j hj => by rw [h5b j hj, h4b j hj, h3b j hj, h2b j hj, h1b j hj], h5c, by rw [h5d, h4d, h3d, h2d, h1d]; rfl⟩))
  · refine x_iconst dX5_feed_13 ?_
    exact x_iret dX5_feed_14  (hP _ _ (Or.inl ⟨by omega, rfl, rfl⟩))

end FE
