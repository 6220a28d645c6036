section MI
def moR3 (rf : Int → Nat → Prop) (ok : Prop) (R : Int → Prop) (S : List Nat) (m m' : xM) (r : Int) : Prop :=
  (∃ k q, rf k q ∧ m' = mrf (xu m 96 0 0) k q) ∨ (ok ∧ R r ∧ ag S (xu m 96 0 0) m' ∧ ∀ j, j ≠ 25 → j ≠ 26 → m' 96 j = xu m 96 0 0 96 j)
/-- who can go when; a convoy's answer -/
def gdf (v : Nat → Int) (sp t : Int) (u i : Nat) : Prop := good v u (sh v u 0) (t + i) sp
def cvR (v : Nat → Int) (a : Nat) (sp t r : Int) : Prop := ∃ q, dayR (alG (gdf v sp t) a (v 1).toNat) q ∧ ((q = -1 ∧ r = -1) ∨ (q ≠ -1 ∧ r = t + q))
theorem cvR_u {v : Nat → Int} {a : Nat} {sp t r r' : Int} (h : cvR v a sp t r) (h' : cvR v a sp t r') : r = r' := by
  obtain ⟨q, h1, h2⟩ := h
  obtain ⟨q', h3, h4⟩ := h'
  have := dayR_u h1 h3
  omega
theorem set_ok {v : Nat → Int} {a : Nat} (hv : 0 ≤ v 5 ∧ v 5 ≤ 6) (h : (a : Int) < ((2 ^ (v 5).toNat : Nat) : Int)) : a < 64 ∧ ∀ u, u < 6 → tb a u = 1 → (u : Int) < v 5 := by
  have h1 := p2_6 (v 5).toNat (by omega)
  refine ⟨by omega, fun u hu hb => ?_⟩
  have := set_in (v 5).toNat (by omega) a (by omega) u hu hb
  omega
theorem cnt_ok {a gp : Nat} (ha : a < 64) (h0 : 0 < a) : ∃ c : Nat, 1440 + (((pcn a : Nat) : Int) - 1) * (gp : Int) = (c : Int) := by
  have h := (pcn_b a ha h0).1
  have h2 : 0 ≤ (((pcn a : Nat) : Int) - 1) * (gp : Int) := Int.mul_nonneg (by omega) (by omega)
  exact ⟨(1440 + (((pcn a : Nat) : Int) - 1) * (gp : Int)).toNat, by omega⟩
set_option maxRecDepth 20000 in
theorem s_mconvoy {E : xE} {f : Nat → Nat} {D : Nat → Nat × Nat} {n : Nat} {m : xM} {P : xPo} {PX : xPx} {v : Nat → Int} {x y z : Int} (hv : vOk v) (hN : mN v m) (hx : -2147483648 ≤ x ∧ x ≤ 2147483647) (hy : -2147483648 ≤ y ∧ y ≤ 2147483647) (hz : -2147483648 ≤ z ∧ z ≤ 2147483647) (hP : ∀ m' r, moR3 (rf1 ((1 ≤ x ∧ x < ((2 ^ (v 5).toNat : Nat) : Int)) ∧ (4 ≤ y ∧ y ≤ 25) ∧ (0 ≤ z ∧ z ≤ 10000)) 1) ((1 ≤ x ∧ x < ((2 ^ (v 5).toNat : Nat) : Int)) ∧ (4 ≤ y ∧ y ≤ 25) ∧ (0 ≤ z ∧ z ≤ 10000)) (cvR v x.toNat y z) [96, 103, 108, 109] m m' r → P (some (vi r)) (gS f D n) m') : xC E (yX6_convoy, cX6_convoy, 5, some .int) 10 0 0 [vr E 96, vi x, vi y, vi z] (gS f D n) m P PX := by
  refine x_enter (by decide) rfl rfl (Nat.le_of_ble_eq_true rfl) ?_
  have hv5 := hv.1.2.2.2.2.2.1
  have hv4 := hv.1.2.2.2.2.1.1
  have hv3 := hv.1.2.2.2.1.1
  have hv1 := hv.1.2.1
  refine x_aload_n dX6_convoy_0 rfl ?_
  refine x_iconst dX6_convoy_1 ?_
  refine x_putI fX6_1 dX6_convoy_2 rfl (by decide) rfl rfl ?_
  refine x_aload_n dX6_convoy_5 rfl ?_
  refine x_aload_n dX6_convoy_6 rfl ?_
  refine x_iload_n dX6_convoy_7 rfl ?_
  refine x_V1 mX6_363 dX6_convoy_8 rfl (s_isSet hv hN.z hx ?_)
  refine x_if_eq (tgt := 32) dX6_convoy_11 (by decide) (zi_r _) (fun h11 => ?_) (fun h11 => ?_)
  · refine x_iconst dX6_convoy_32 ?_
    refine x_top ((zi_f (fun zz : ((1 ≤ x ∧ x < ((2 ^ (v 5).toNat : Nat) : Int)) ∧ (4 ≤ y ∧ y ≤ 25) ∧ (0 ≤ z ∧ z ≤ 10000)) => zi_0.mp h11 zz.1)).symm) ?_
    refine x_iconst dX6_convoy_33 ?_
    refine x_iconst dX6_convoy_34 ?_
    refine x_V3 mX6_196 dX6_convoy_35 rfl (s_isFine (p := (1 ≤ x ∧ x < ((2 ^ (v 5).toNat : Nat) : Int)) ∧ (4 ≤ y ∧ y ≤ 25) ∧ (0 ≤ z ∧ z ≤ 10000)) (c := 1) (k := 1) th_0 (by omega) (by omega) (fun m1 r1 hf1 => ?_))
    refine x_if_ne (tgt := 43) dX6_convoy_38 (by decide) hf1.r (fun h38 => ?_) (fun h38 => ?_)
    · obtain ⟨hp1, rfl⟩ := hf1.t h38
      obtain ⟨a, rfl⟩ := nat_of (show 0 ≤ x by omega)
      obtain ⟨ha64, hset⟩ := set_ok hv5 hp1.1.2
      obtain ⟨c, hcnt⟩ := cnt_ok (gp := (v 1).toNat) ha64 (show 0 < a by omega)
      have hcb := gp_c ha64 (by omega) (show (v 1).toNat ≤ 240 by omega) hcnt
      refine x_aload_n dX6_convoy_43 rfl ?_
      refine x_iload_n dX6_convoy_44 rfl ?_
      refine x_iload_n dX6_convoy_45 rfl ?_
      refine x_iload_n dX6_convoy_46 rfl ?_
      refine x_V3 mX6_366 dX6_convoy_47 rfl (s_laysGoods (gp := (v 1).toNat) hv hN.z ha64 (by omega) hset (by omega) hcnt (by omega) (by omega) (fun m2 ha2 hk2 hM2 hg2 => ?_))
      refine x_aload_n dX6_convoy_50 rfl ?_
      refine x_V0 mX6_369 dX6_convoy_51 rfl (s_firstStart (gp := (v 1).toNat) (by rw [ha2 98 (by decide), hN.z 1 (by omega)]; omega) (by omega) hcnt hcb.1 ha64 hM2 (asL_in ha64) hg2 (fun r hr => ?_))
      have hr2 : dayR (alG (gdf v y z) a (v 1).toNat) r := (dayR_c (fun t => alG_A ha64)).mp hr
      have hrb := dayR_b hr2
      refine x_istore dX6_convoy_54 ?_
      refine x_iload dX6_convoy_56 rfl ?_
      refine x_iconst dX6_convoy_58 ?_
      refine x_icmp_ne (tgt := 66) dX6_convoy_59 (by decide) (by omega) (fun h59 => ?_) (fun h59 => ?_)
      · refine x_iload_n dX6_convoy_66 rfl ?_
        refine x_iload dX6_convoy_67 rfl ?_
        refine x_iadd dX6_convoy_69 ?_
        exact x_iret dX6_convoy_70  (hP _ _ (Or.inr ⟨hp1, ⟨r, hr2, Or.inr ⟨by omega, rfl⟩⟩, ha2, fun j hj _ => hk2 j hj⟩))
      · refine x_iconst dX6_convoy_62 ?_
        refine x_goto (tgt := 70) dX6_convoy_63 (by decide) ?_
        exact x_iret dX6_convoy_70  (hP _ _ (Or.inr ⟨hp1, ⟨r, hr2, Or.inl ⟨by omega, rfl⟩⟩, ha2, fun j hj _ => hk2 j hj⟩))
    · obtain ⟨hp1, rfl⟩ := hf1.f h38
      refine x_iconst dX6_convoy_41 ?_
      exact x_iret dX6_convoy_42  (hP _ 0 (Or.inl ⟨1, _, ⟨hp1, rfl, rfl⟩, rfl⟩))
  · refine x_iload_n dX6_convoy_14 rfl ?_
    refine x_S1 mX6_339 dX6_convoy_15 (s_isSpeed hy ?_)
    refine x_if_eq (tgt := 32) dX6_convoy_18 (by decide) (zi_r _) (fun h18 => ?_) (fun h18 => ?_)
    · refine x_iconst dX6_convoy_32 ?_
      refine x_top ((zi_f (fun zz : ((1 ≤ x ∧ x < ((2 ^ (v 5).toNat : Nat) : Int)) ∧ (4 ≤ y ∧ y ≤ 25) ∧ (0 ≤ z ∧ z ≤ 10000)) => zi_0.mp h18 zz.2.1)).symm) ?_
      refine x_iconst dX6_convoy_33 ?_
      refine x_iconst dX6_convoy_34 ?_
      refine x_V3 mX6_196 dX6_convoy_35 rfl (s_isFine (p := (1 ≤ x ∧ x < ((2 ^ (v 5).toNat : Nat) : Int)) ∧ (4 ≤ y ∧ y ≤ 25) ∧ (0 ≤ z ∧ z ≤ 10000)) (c := 1) (k := 1) th_0 (by omega) (by omega) (fun m1 r1 hf1 => ?_))
      refine x_if_ne (tgt := 43) dX6_convoy_38 (by decide) hf1.r (fun h38 => ?_) (fun h38 => ?_)
      · obtain ⟨hp1, rfl⟩ := hf1.t h38
        obtain ⟨a, rfl⟩ := nat_of (show 0 ≤ x by omega)
        obtain ⟨ha64, hset⟩ := set_ok hv5 hp1.1.2
        obtain ⟨c, hcnt⟩ := cnt_ok (gp := (v 1).toNat) ha64 (show 0 < a by omega)
        have hcb := gp_c ha64 (by omega) (show (v 1).toNat ≤ 240 by omega) hcnt
        refine x_aload_n dX6_convoy_43 rfl ?_
        refine x_iload_n dX6_convoy_44 rfl ?_
        refine x_iload_n dX6_convoy_45 rfl ?_
        refine x_iload_n dX6_convoy_46 rfl ?_
        refine x_V3 mX6_366 dX6_convoy_47 rfl (s_laysGoods (gp := (v 1).toNat) hv hN.z ha64 (by omega) hset (by omega) hcnt (by omega) (by omega) (fun m2 ha2 hk2 hM2 hg2 => ?_))
        refine x_aload_n dX6_convoy_50 rfl ?_
        refine x_V0 mX6_369 dX6_convoy_51 rfl (s_firstStart (gp := (v 1).toNat) (by rw [ha2 98 (by decide), hN.z 1 (by omega)]; omega) (by omega) hcnt hcb.1 ha64 hM2 (asL_in ha64) hg2 (fun r hr => ?_))
        have hr2 : dayR (alG (gdf v y z) a (v 1).toNat) r := (dayR_c (fun t => alG_A ha64)).mp hr
        have hrb := dayR_b hr2
        refine x_istore dX6_convoy_54 ?_
        refine x_iload dX6_convoy_56 rfl ?_
        refine x_iconst dX6_convoy_58 ?_
        refine x_icmp_ne (tgt := 66) dX6_convoy_59 (by decide) (by omega) (fun h59 => ?_) (fun h59 => ?_)
        · refine x_iload_n dX6_convoy_66 rfl ?_
          refine x_iload dX6_convoy_67 rfl ?_
          refine x_iadd dX6_convoy_69 ?_
          exact x_iret dX6_convoy_70  (hP _ _ (Or.inr ⟨hp1, ⟨r, hr2, Or.inr ⟨by omega, rfl⟩⟩, ha2, fun j hj _ => hk2 j hj⟩))
        · refine x_iconst dX6_convoy_62 ?_
          refine x_goto (tgt := 70) dX6_convoy_63 (by decide) ?_
          exact x_iret dX6_convoy_70  (hP _ _ (Or.inr ⟨hp1, ⟨r, hr2, Or.inl ⟨by omega, rfl⟩⟩, ha2, fun j hj _ => hk2 j hj⟩))
      · obtain ⟨hp1, rfl⟩ := hf1.f h38
        refine x_iconst dX6_convoy_41 ?_
        exact x_iret dX6_convoy_42  (hP _ 0 (Or.inl ⟨1, _, ⟨hp1, rfl, rfl⟩, rfl⟩))
    · refine x_iload_n dX6_convoy_21 rfl ?_
      refine x_S1 mX6_336 dX6_convoy_22 (s_isMinute hz ?_)
      refine x_if_eq (tgt := 32) dX6_convoy_25 (by decide) (zi_r _) (fun h25 => ?_) (fun h25 => ?_)
      · refine x_iconst dX6_convoy_32 ?_
        refine x_top ((zi_f (fun zz : ((1 ≤ x ∧ x < ((2 ^ (v 5).toNat : Nat) : Int)) ∧ (4 ≤ y ∧ y ≤ 25) ∧ (0 ≤ z ∧ z ≤ 10000)) => zi_0.mp h25 zz.2.2)).symm) ?_
        refine x_iconst dX6_convoy_33 ?_
        refine x_iconst dX6_convoy_34 ?_
        refine x_V3 mX6_196 dX6_convoy_35 rfl (s_isFine (p := (1 ≤ x ∧ x < ((2 ^ (v 5).toNat : Nat) : Int)) ∧ (4 ≤ y ∧ y ≤ 25) ∧ (0 ≤ z ∧ z ≤ 10000)) (c := 1) (k := 1) th_0 (by omega) (by omega) (fun m1 r1 hf1 => ?_))
        refine x_if_ne (tgt := 43) dX6_convoy_38 (by decide) hf1.r (fun h38 => ?_) (fun h38 => ?_)
        · obtain ⟨hp1, rfl⟩ := hf1.t h38
          obtain ⟨a, rfl⟩ := nat_of (show 0 ≤ x by omega)
          obtain ⟨ha64, hset⟩ := set_ok hv5 hp1.1.2
          obtain ⟨c, hcnt⟩ := cnt_ok (gp := (v 1).toNat) ha64 (show 0 < a by omega)
          have hcb := gp_c ha64 (by omega) (show (v 1).toNat ≤ 240 by omega) hcnt
          refine x_aload_n dX6_convoy_43 rfl ?_
          refine x_iload_n dX6_convoy_44 rfl ?_
          refine x_iload_n dX6_convoy_45 rfl ?_
          refine x_iload_n dX6_convoy_46 rfl ?_
          refine x_V3 mX6_366 dX6_convoy_47 rfl (s_laysGoods (gp := (v 1).toNat) hv hN.z ha64 (by omega) hset (by omega) hcnt (by omega) (by omega) (fun m2 ha2 hk2 hM2 hg2 => ?_))
          refine x_aload_n dX6_convoy_50 rfl ?_
          refine x_V0 mX6_369 dX6_convoy_51 rfl (s_firstStart (gp := (v 1).toNat) (by rw [ha2 98 (by decide), hN.z 1 (by omega)]; omega) (by omega) hcnt hcb.1 ha64 hM2 (asL_in ha64) hg2 (fun r hr => ?_))
          have hr2 : dayR (alG (gdf v y z) a (v 1).toNat) r := (dayR_c (fun t => alG_A ha64)).mp hr
          have hrb := dayR_b hr2
          refine x_istore dX6_convoy_54 ?_
          refine x_iload dX6_convoy_56 rfl ?_
          refine x_iconst dX6_convoy_58 ?_
          refine x_icmp_ne (tgt := 66) dX6_convoy_59 (by decide) (by omega) (fun h59 => ?_) (fun h59 => ?_)
          · refine x_iload_n dX6_convoy_66 rfl ?_
            refine x_iload dX6_convoy_67 rfl ?_
            refine x_iadd dX6_convoy_69 ?_
            exact x_iret dX6_convoy_70  (hP _ _ (Or.inr ⟨hp1, ⟨r, hr2, Or.inr ⟨by omega, rfl⟩⟩, ha2, fun j hj _ => hk2 j hj⟩))
          · refine x_iconst dX6_convoy_62 ?_
            refine x_goto (tgt := 70) dX6_convoy_63 (by decide) ?_
            exact x_iret dX6_convoy_70  (hP _ _ (Or.inr ⟨hp1, ⟨r, hr2, Or.inl ⟨by omega, rfl⟩⟩, ha2, fun j hj _ => hk2 j hj⟩))
        · obtain ⟨hp1, rfl⟩ := hf1.f h38
          refine x_iconst dX6_convoy_41 ?_
          exact x_iret dX6_convoy_42  (hP _ 0 (Or.inl ⟨1, _, ⟨hp1, rfl, rfl⟩, rfl⟩))
      · refine x_iconst dX6_convoy_28 ?_
        refine x_goto (tgt := 33) dX6_convoy_29 (by decide) ?_
        refine x_top ((zi_t (show (1 ≤ x ∧ x < ((2 ^ (v 5).toNat : Nat) : Int)) ∧ (4 ≤ y ∧ y ≤ 25) ∧ (0 ≤ z ∧ z ≤ 10000) from ⟨zi_1.mp h11, zi_1.mp h18, zi_1.mp h25⟩)).symm) ?_
        refine x_iconst dX6_convoy_33 ?_
        refine x_iconst dX6_convoy_34 ?_
        refine x_V3 mX6_196 dX6_convoy_35 rfl (s_isFine (p := (1 ≤ x ∧ x < ((2 ^ (v 5).toNat : Nat) : Int)) ∧ (4 ≤ y ∧ y ≤ 25) ∧ (0 ≤ z ∧ z ≤ 10000)) (c := 1) (k := 1) th_0 (by omega) (by omega) (fun m1 r1 hf1 => ?_))
        refine x_if_ne (tgt := 43) dX6_convoy_38 (by decide) hf1.r (fun h38 => ?_) (fun h38 => ?_)
        · obtain ⟨hp1, rfl⟩ := hf1.t h38
          obtain ⟨a, rfl⟩ := nat_of (show 0 ≤ x by omega)
          obtain ⟨ha64, hset⟩ := set_ok hv5 hp1.1.2
          obtain ⟨c, hcnt⟩ := cnt_ok (gp := (v 1).toNat) ha64 (show 0 < a by omega)
          have hcb := gp_c ha64 (by omega) (show (v 1).toNat ≤ 240 by omega) hcnt
          refine x_aload_n dX6_convoy_43 rfl ?_
          refine x_iload_n dX6_convoy_44 rfl ?_
          refine x_iload_n dX6_convoy_45 rfl ?_
          refine x_iload_n dX6_convoy_46 rfl ?_
          refine x_V3 mX6_366 dX6_convoy_47 rfl (s_laysGoods (gp := (v 1).toNat) hv hN.z ha64 (by omega) hset (by omega) hcnt (by omega) (by omega) (fun m2 ha2 hk2 hM2 hg2 => ?_))
          refine x_aload_n dX6_convoy_50 rfl ?_
          refine x_V0 mX6_369 dX6_convoy_51 rfl (s_firstStart (gp := (v 1).toNat) (by rw [ha2 98 (by decide), hN.z 1 (by omega)]; omega) (by omega) hcnt hcb.1 ha64 hM2 (asL_in ha64) hg2 (fun r hr => ?_))
          have hr2 : dayR (alG (gdf v y z) a (v 1).toNat) r := (dayR_c (fun t => alG_A ha64)).mp hr
          have hrb := dayR_b hr2
          refine x_istore dX6_convoy_54 ?_
          refine x_iload dX6_convoy_56 rfl ?_
          refine x_iconst dX6_convoy_58 ?_
          refine x_icmp_ne (tgt := 66) dX6_convoy_59 (by decide) (by omega) (fun h59 => ?_) (fun h59 => ?_)
          · refine x_iload_n dX6_convoy_66 rfl ?_
            refine x_iload dX6_convoy_67 rfl ?_
            refine x_iadd dX6_convoy_69 ?_
            exact x_iret dX6_convoy_70  (hP _ _ (Or.inr ⟨hp1, ⟨r, hr2, Or.inr ⟨by omega, rfl⟩⟩, ha2, fun j hj _ => hk2 j hj⟩))
          · refine x_iconst dX6_convoy_62 ?_
            refine x_goto (tgt := 70) dX6_convoy_63 (by decide) ?_
            exact x_iret dX6_convoy_70  (hP _ _ (Or.inr ⟨hp1, ⟨r, hr2, Or.inl ⟨by omega, rfl⟩⟩, ha2, fun j hj _ => hk2 j hj⟩))
        · obtain ⟨hp1, rfl⟩ := hf1.f h38
          refine x_iconst dX6_convoy_41 ?_
          exact x_iret dX6_convoy_42  (hP _ 0 (Or.inl ⟨1, _, ⟨hp1, rfl, rfl⟩, rfl⟩))

end MI
