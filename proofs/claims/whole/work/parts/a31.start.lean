section LS
def cB5 (n : Nat) : List gC := [(5, 0, [(n + 1), (n + 5), (n + 39), (n + 40), (n + 46), (n + 48), 0, 0, 0, 0, 0, 0]), (0, 0, [0, 0, 0, 0, 0, 0, (n + 1 + 1), (n + 1 + 2), (n + 1 + 3), 2, 0, 0]), (8, 18, []), (8, 36, []), (8, 48, []), (1, 0, [((n + 5) + 1), 0, 0]), (11, 8, [((n + 5) + 2), ((n + 5) + 6), ((n + 5) + 10), ((n + 5) + 14), ((n + 5) + 18), ((n + 5) + 22), ((n + 5) + 26), ((n + 5) + 30)]), (0, 0, [0, 0, 0, 0, 0, 0, ((n + 5) + 2 + 1), ((n + 5) + 2 + 2), ((n + 5) + 2 + 3), 2, 0, 0]), (8, 18, []), (8, 36, []), (8, 48, []), (0, 0, [0, 0, 0, 0, 0, 0, ((n + 5) + 6 + 1), ((n + 5) + 6 + 2), ((n + 5) + 6 + 3), 2, 0, 0]), (8, 18, []), (8, 36, []), (8, 48, []), (0, 0, [0, 0, 0, 0, 0, 0, ((n + 5) + 10 + 1), ((n + 5) + 10 + 2), ((n + 5) + 10 + 3), 2, 0, 0]), (8, 18, []), (8, 36, []), (8, 48, []), (0, 0, [0, 0, 0, 0, 0, 0, ((n + 5) + 14 + 1), ((n + 5) + 14 + 2), ((n + 5) + 14 + 3), 2, 0, 0]), (8, 18, []), (8, 36, []), (8, 48, []), (0, 0, [0, 0, 0, 0, 0, 0, ((n + 5) + 18 + 1), ((n + 5) + 18 + 2), ((n + 5) + 18 + 3), 2, 0, 0]), (8, 18, []), (8, 36, []), (8, 48, []), (0, 0, [0, 0, 0, 0, 0, 0, ((n + 5) + 22 + 1), ((n + 5) + 22 + 2), ((n + 5) + 22 + 3), 2, 0, 0]), (8, 18, []), (8, 36, []), (8, 48, []), (0, 0, [0, 0, 0, 0, 0, 0, ((n + 5) + 26 + 1), ((n + 5) + 26 + 2), ((n + 5) + 26 + 3), 2, 0, 0]), (8, 18, []), (8, 36, []), (8, 48, []), (0, 0, [0, 0, 0, 0, 0, 0, ((n + 5) + 30 + 1), ((n + 5) + 30 + 2), ((n + 5) + 30 + 3), 2, 0, 0]), (8, 18, []), (8, 36, []), (8, 48, []), (7, 600, []), (3, 0, [(n + 39), ((n + 40) + 1), 0, 0, 0, 0, 0, 0, ((n + 40) + 2), 0]), (8, 600, []), (0, 0, [0, 0, 0, 0, 0, 0, ((n + 40) + 2 + 1), ((n + 40) + 2 + 2), ((n + 40) + 2 + 3), 2, 0, 0]), (8, 18, []), (8, 36, []), (8, 48, []), (4, 0, [(n + 1), ((n + 46) + 1), 0]), (8, 15000, []), (2, 0, [(n + 1), (n + 46), ((n + 48) + 1), ((n + 48) + 2), ((n + 48) + 3), ((n + 48) + 4), ((n + 48) + 5), ((n + 48) + 6), 0, ((n + 48) + 7)]), (9, 16, []), (8, 2670, []), (8, 2670, []), (8, 2640, []), (7, 1001, []), (7, 1001, []), (8, 6, [])]
def cM5 (m : xM) (n : Nat) : xM := xu (cM2 (xz0 (cM4 (xz0 (cM3 (xz0 (xz0 (cM1 (xz0 (chM (xz0 (m) (n + 1)) (n + 1)) (n + 5)) (n + 5)) (n + 39)) (n + 40)) (n + 40)) (n + 46)) (n + 46)) (n + 48)) (n + 48)) n 8 (-1)
def cB6 (n : Nat) : List gC := [(6, 0, [0, (n + 1), (n + 2), (n + 3), (n + 4), 0, (n + 5), (n + 6), 0, 0, 0, 0, 0, 0, 0, 0, 0, (n + 7), (n + 8), (n + 9), (n + 10), (n + 11), (n + 12), (n + 13), (n + 14), 0, 0]), (8, 3, []), (8, 709, []), (8, 709, []), (8, 5672, []), (7, 600, []), (7, 600, []), (9, 600, []), (10, 1440, []), (10, 1001, []), (10, 1001, []), (10, 1001, []), (10, 15840, []), (8, 6, []), (8, 6, [])]
def cM6 (m : xM) (n : Nat) : xM := xu (xz0 (xz0 (xz0 (xz0 (xz0 (xz0 (xz0 (xz0 (xu (xz0 (xz0 (xz0 (xz0 (xz0 (xz0 (m) (n + 1)) (n + 2)) (n + 3)) (n + 4)) (n + 5)) (n + 6)) n 13 (-1)) (n + 7)) (n + 8)) (n + 9)) (n + 10)) (n + 11)) (n + 12)) (n + 13)) (n + 14)) (n + 2) 1 15
theorem s_newX6b {E : xE} {A B : List gC} {m : xM} {P : xPo} {PX : xPx} (hA : 40 ≤ A.length) (hP : P none (gT A (B ++ cB6 (A.length + B.length))) (cM6 m (A.length + B.length))) : xC E (yX6_init, cX6_init, 1, none) 1 14 29188 [vr E (A.length + B.length)] (gT A (B ++ [(6, 0, List.replicate (xN 6) 0)])) m P PX := by
  rw [gT_m, ← List.length_append]
  exact s_newX6 (by rw [List.length_append]; omega) (by rw [List.length_append, ← gT_m]; exact hP)
def A40 : List gC := List.replicate 40 (99, 0, [])
theorem A40_l : A40.length = 40 := rfl
def B112 : List gC := cB5 40 ++ (cB6 96 ++ [(9, 1, [])])
theorem B112_l : B112.length = 72 := by decide +kernel
theorem g_r : ∀ a : Nat, a < 112 → ((A40 ++ B112).getD a (99, 0, [])).2.2.length ≤ 32 ∧ ((A40 ++ B112).getD a (99, 0, [])).1 = gkt.getD a 99 ∧ ((A40 ++ B112).getD a (99, 0, [])).2.1 = glt.getD a 0 ∧ ∀ b : Nat, b < 32 → ((A40 ++ B112).getD a (99, 0, [])).2.2.getD b 0 = gRf (fun _ => 2) a b := by decide +kernel
theorem gRf_b {f : Nat → Nat} {a b : Nat} (h : 32 ≤ b) : gRf f a b = 0 := by
  unfold gRf
  repeat' split
  all_goals first | rfl | omega | (rw [List.getD_eq_getElem?_getD, List.getElem?_eq_none (by simp; omega)]; rfl)
theorem gRf_a {f : Nat → Nat} {a b : Nat} (h : 112 ≤ a) : gRf f a b = 0 := by
  unfold gRf
  rw [if_neg (by omega), if_neg (by omega), if_neg (by omega), if_neg (by omega), if_neg (by omega), if_neg (by omega), if_neg (by omega), if_neg (by rw [gkt_n a h]; decide)]
theorem g_112 : gT A40 B112 = gS (fun _ => 2) (fun _ => (99, 0)) 112 := by
  have hd : ∀ a, 112 ≤ a → (A40 ++ B112).getD a (99, 0, []) = (99, 0, []) := fun a ha => by
    rw [List.getD_eq_getElem?_getD, List.getElem?_eq_none (by rw [List.length_append, A40_l, B112_l]; exact ha)]; rfl
  unfold gT gS
  refine Prod.ext ?_ (Prod.ext ?_ (Prod.ext ?_ ?_))
  · funext a b
    show ((A40 ++ B112).getD a (99, 0, [])).2.2.getD b 0 = gRf (fun _ => 2) a b
    by_cases ca : a < 112
    · by_cases cb : b < 32
      · exact (g_r a ca).2.2.2 b cb
      · rw [gRf_b (by omega), List.getD_eq_getElem?_getD, List.getElem?_eq_none (by have := (g_r a ca).1; omega)]; rfl
    · rw [gRf_a (by omega), hd a (by omega)]; rfl
  · funext a
    show ((A40 ++ B112).getD a (99, 0, [])).1 = if a < 112 then gkt.getD a 99 else 99
    by_cases ca : a < 112
    · rw [if_pos ca]; exact (g_r a ca).2.1
    · rw [if_neg ca, hd a (by omega)]
  · funext a
    show ((A40 ++ B112).getD a (99, 0, [])).2.1 = if a < 112 then glt.getD a 0 else 0
    by_cases ca : a < 112
    · rw [if_pos ca]; exact (g_r a ca).2.2.1
    · rw [if_neg ca, hd a (by omega)]
  · show A40.length + B112.length = 112
    rw [A40_l, B112_l]
def mS (m : xM) : xM := xz0 (cM6 (xz0 (cM5 (xz0 m 40) 40) 96) 96) 111
/-- the view at the start -/
def v00 : Nat → Int := fun k => if k = 1 then 15 else if k < 1024 then 0 else gdm ((k - 1000) % 24)
theorem v00_0 {k : Nat} (h : k < 1024) (h1 : k ≠ 1) : v00 k = 0 := by unfold v00; rw [if_neg h1, if_pos h]
theorem v00_g {t : Int} {k : Nat} (ht : 0 < t) (hk : k < 24) : gw v00 t k = gdm k := by
  show v00 (1000 + 24 * t.toNat + k) = _
  unfold v00
  rw [if_neg (by omega), if_neg (by omega), show (1000 + 24 * t.toNat + k - 1000) % 24 = k by omega]
theorem v00_z {t : Int} {k : Nat} (ht : t ≤ 0) (hk : k < 24) : gw v00 t k = 0 := by
  show v00 (1000 + 24 * t.toNat + k) = _
  exact v00_0 (by omega) (by omega)
theorem tI_0 (m : xM) : tI v00 [] (fun _ => 2) (fun _ => (99, 0)) 112 (mS m) := by
  have hz : ∀ k, k < 1024 → k ≠ 1 → v00 k = 0 := fun k h1 h2 => v00_0 h1 h2
  have h3 := hz 3 (by omega) (by omega)
  have h4 := hz 4 (by omega) (by omega)
  have h5 := hz 5 (by omega) (by omega)
  have h8 := hz 108 (by omega) (by omega)
  have hvo : vOk v00 := by
    refine ⟨⟨by rw [hz 0 (by omega) (by omega)]; decide, by show 0 ≤ (15 : Int) ∧ (15 : Int) ≤ 240; decide, by rw [hz 2 (by omega) (by omega)]; decide, ⟨by rw [h3]; decide, fun w hw => by rw [h3] at hw; omega⟩, ⟨by rw [h4]; decide, fun w hw => by rw [h4] at hw; omega⟩, ⟨by rw [h5]; decide, fun w hw => by rw [h5] at hw; omega⟩⟩, by rw [h8]; decide, fun k hk => by rw [h8] at hk; omega, fun hk => by rw [h8] at hk; omega⟩
  have hg0 : ∀ x, gws v00 0 x = 0 := fun x => by unfold gws; rw [v00_z (by omega) (by omega)]; rfl
  refine ⟨⟨⟨hvo, ⟨⟨⟨?_, ?_, ?_⟩, ⟨?_, fun i hi => by rw [h3] at hi; omega⟩, ⟨?_, fun i hi => by rw [h4] at hi; omega⟩, ⟨?_, fun i hi => by rw [h5] at hi; omega⟩⟩, ⟨fun p hp => Or.inl rfl, fun x => ?_⟩, ⟨?_, ?_⟩, ⟨?_, ?_⟩⟩, Or.inl ⟨h8, rfl⟩, Or.inl ⟨rfl, fun k hk => by rw [h8] at hk; omega⟩⟩, ⟨fun t => ?_, fun t ht x h1 h2 => ?_⟩, ⟨?_, ?_⟩, by omega, fun c _ => by show 2 < 112; omega, 0, rfl, by omega, rfl, by decide, fun i hi => by cases hi⟩, fun k hk => ?_, ⟨rfl, by decide, fun j hj => by cases hj⟩, ⟨0, by omega, rfl, rfl⟩, ⟨rfl, fun k => by show -128 ≤ (0 : Int) ∧ (0 : Int) ≤ 127; decide⟩, rfl, fun q hq => ?_⟩
  · rw [hz 0 (by omega) (by omega)]; rfl
  · rfl
  · rw [hz 2 (by omega) (by omega)]; rfl
  · rw [h3]; rfl
  · rw [h4]; rfl
  · rw [h5]; rfl
  · show gws v00 0 x = _; rw [hg0, h3]; rfl
  · show (0 : Int) ≤ 0; decide
  · show (0 : Int) ≤ 100000; decide
  · show (0 : Int) ≤ 0; decide
  · show (0 : Int) ≤ 100000; decide
  · rcases Int.lt_or_le 0 t with c | c
    · rw [v00_g c (by omega)]; decide
    · rw [v00_z c (by omega)]; decide
  · have ht0 : 0 < t := ht
    unfold gws
    rw [v00_g ht0 (by omega), wsum_c (w := gdm) (fun k _ hk => v00_g ht0 hk) _ (by decide)]
    exact gdm_s h1 h2
  · show (0 : Int) ≤ 0; decide
  · show (0 : Int) ≤ 100000; decide
  · show (if k = 1 then (15 : Int) else 0) = v00 k
    by_cases c : k = 1
    · rw [if_pos c, c]; rfl
    · rw [if_neg c, hz k (by omega) c]
  · rcases (by omega : q = 0 ∨ q = 1 ∨ q = 2) with rfl | rfl | rfl <;> rfl
theorem x_m {E : xE} {J : xJ} {own : String} {cc : ByteArray} {mL k n pc : Nat} {lv : List (Nat × Value)} {st : List Value} {g : xG} {m m' : xM} (h : m = m') (hx : xX E J own cc mL k n pc lv st g m') : xX E J own cc mL k n pc lv st g m := by subst h; exact hx
set_option maxRecDepth 20000 in
theorem law_start {E : xE} {P : xPo} {PX : xPx} {m : xM} (hL : eL E) (hmax : (E.2.2.2.2.2 1).1 ≤ 3584) (hsc : ∀ j, -2147483648 ≤ (E.2.2.2.2.2 1).2 j ∧ (E.2.2.2.2.2 1).2 j ≤ 2147483647) (hP : ∀ g m, P (some (vi 1)) g m) : xX E (("law", some .boolean, []), (25, 600000, 7000000), P, PX) RL cL_law 7 0 0 0 [(0, vr E 1)] [] (gT A40 []) m := by
  have hA : 40 ≤ A40.length := by rw [A40_l]; omega
  have hv1 : vr E 1 = .ref (xad E 1) := vr_pos (by decide)
  refine xl_new (K := 5) (b := 0) (B' := [] ++ [(5, 0, List.replicate (xN 5) 0)]) rfl rfl (by decide) qcL_8 qiX5 qSX5 dL_law_0 ?_
  refine x_dup dL_law_3 vr_cat ?_
  refine x_init (na := 0) (c := 40) (as := []) (rest := [vr E 40]) (mc' := 55) (ms' := 27378) ⟨qmL_99, qSX5, qCX5, by decide, by decide +kernel, by decide⟩ qIX5 rfl dL_law_4 (by decide) rfl rfl (by simp only [List.map_cons, List.map_nil, vr_cat]; decide) (by decide) (by decide) (by decide) (s_newX5 hA ?_)
  refine x_g (g' := gT A40 (cB5 40)) rfl ?_
  refine x_m (m' := cM5 (xz0 m 40) 40) rfl ?_
  refine x_astore_n dL_law_7 ?_
  refine xl_new (K := 6) (b := 56) (B' := cB5 40 ++ [(6, 0, List.replicate (xN 6) 0)]) (by decide +kernel) rfl (by decide) qcL_100 qiX6 qSX6 dL_law_8 ?_
  refine x_dup dL_law_11 vr_cat ?_
  refine x_init (na := 0) (c := 96) (as := []) (rest := [vr E 96]) (mc' := 14) (ms' := 29188) ⟨qmL_102, qSX6, qCX6, by decide, by decide +kernel, by decide⟩ qIX6 rfl dL_law_12 (by decide) rfl rfl (by simp only [List.map_cons, List.map_nil, vr_cat]; decide) (by decide) (by decide) (by decide) (s_newX6b (B := cB5 40) hA ?_)
  refine x_g (g' := gT A40 (cB5 40 ++ cB6 96)) rfl ?_
  refine x_m (m' := cM6 (xz0 (cM5 (xz0 m 40) 40) 96) 96) rfl ?_
  refine x_astore_n dL_law_15 ?_
  refine x_iconst dL_law_16 ?_
  refine xl_J (len := 1) (b := 71) (B' := B112) (by decide +kernel) (by decide +kernel) (by decide) (by decide) dL_law_17 ?_
  refine x_astore_n dL_law_19 ?_
  refine x_iconst dL_law_20 ?_
  refine x_istore dL_law_21 ?_
  refine x_g g_112 ?_
  refine x_m (m' := mS m) rfl ?_
  refine x_loc (lv' := [(0, vr E 1), (1, vr E 40), (2, vr E 96), (3, vr E 111), (4, vi ((0 : Nat) : Int))]) ⟨?_, ?_, ?_, ?_, rfl, trivial⟩ (x_wide (k' := 100) (n' := 80000) (by decide) (by decide) (law_loop hL hmax hsc hP 600 0 v00 [] (fun _ => 2) (fun _ => (99, 0)) 112 (mS m) 100 80000 (by omega) (by omega) (tI_0 m) (by show (0 : Int) ≤ 0; decide) (by omega) (by omega)))
  all_goals rfl
end LS
