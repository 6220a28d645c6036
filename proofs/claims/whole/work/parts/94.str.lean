section ST
theorem sw_val : Cond.fieldLink RJ0 9 "java/lang/String" "value" "[B" ∈ xTb := xTb_of 1624 (by decide +kernel) (by decide +kernel)
theorem sw_cod : Cond.fieldLink RJ0 15 "java/lang/String" "coder" "B" ∈ xTb := xTb_of 1625 (by decide +kernel) (by decide +kernel)
theorem sw_cmp : Cond.fieldLink RJ0 38 "java/lang/String" "COMPACT_STRINGS" "Z" ∈ xTb := xTb_of 613 (by decide +kernel) (by decide +kernel)
theorem sw_sio : Cond.fieldLink RJ0 1053 "jdk/internal/util/Preconditions" "SIOOBE_FORMATTER" "Ljava/util/function/BiFunction;" ∈ xTb := xTb_of 632 (by decide +kernel) (by decide +kernel)
theorem sw_ini : Cond.initialized RJ0 ∈ xTb := xTb_of 110 (by decide +kernel) (by decide +kernel)
theorem sw_i_length : Cond.instanceMethod yJ0_length_8abf5 ∈ xTb := xTb_of 606 (by decide +kernel) (by decide +kernel)
theorem sw_s_length : Cond.selects "java/lang/String" yJ0_length_8abf5 yJ0_length_8abf5 ∈ xTb := xTb_of 607 (by decide +kernel) (by decide +kernel)
theorem sw_c_length : Cond.code yJ0_length_8abf5 cJ0_length_8abf5 1 (some .int) ∈ xTb := xTb_of 608 (by decide +kernel) (by decide +kernel)
theorem sw_i_charAt : Cond.instanceMethod yJ0_charAt_5068e ∈ xTb := xTb_of 619 (by decide +kernel) (by decide +kernel)
theorem sw_s_charAt : Cond.selects "java/lang/String" yJ0_charAt_5068e yJ0_charAt_5068e ∈ xTb := xTb_of 620 (by decide +kernel) (by decide +kernel)
theorem sw_c_charAt : Cond.code yJ0_charAt_5068e cJ0_charAt_5068e 2 (some .char) ∈ xTb := xTb_of 621 (by decide +kernel) (by decide +kernel)
theorem sw_i_coder : Cond.instanceMethod yJ0_coder_7d493 ∈ xTb := xTb_of 610 (by decide +kernel) (by decide +kernel)
theorem sw_s_coder : Cond.selects "java/lang/String" yJ0_coder_7d493 yJ0_coder_7d493 ∈ xTb := xTb_of 611 (by decide +kernel) (by decide +kernel)
theorem sw_c_coder : Cond.code yJ0_coder_7d493 cJ0_coder_7d493 1 (some .byte) ∈ xTb := xTb_of 612 (by decide +kernel) (by decide +kernel)
theorem sw_i_isLatin1 : Cond.instanceMethod yJ0_isLatin1_aae02 ∈ xTb := xTb_of 623 (by decide +kernel) (by decide +kernel)
theorem sw_s_isLatin1 : Cond.selects "java/lang/String" yJ0_isLatin1_aae02 yJ0_isLatin1_aae02 ∈ xTb := xTb_of 624 (by decide +kernel) (by decide +kernel)
theorem sw_c_isLatin1 : Cond.code yJ0_isLatin1_aae02 cJ0_isLatin1_aae02 1 (some .boolean) ∈ xTb := xTb_of 625 (by decide +kernel) (by decide +kernel)
theorem sw_X3_194 : Cond.methodLink RX3 194 yJ0_length_8abf5 ∈ xTb := xTb_of 605 (by decide +kernel) (by decide +kernel)
theorem sb_X3_194 : xMB RX3 194 yJ0_length_8abf5 cJ0_length_8abf5 1 (some .int) 0 := ⟨sw_X3_194, sw_ini, sw_c_length, ⟨by decide, by decide⟩, by decide, by decide⟩
theorem sw_X3_202 : Cond.methodLink RX3 202 yJ0_charAt_5068e ∈ xTb := xTb_of 618 (by decide +kernel) (by decide +kernel)
theorem sb_X3_202 : xMB RX3 202 yJ0_charAt_5068e cJ0_charAt_5068e 2 (some .char) 1 := ⟨sw_X3_202, sw_ini, sw_c_charAt, ⟨by decide, by decide⟩, by decide, by decide⟩
theorem sw_X6_88 : Cond.methodLink RX6 88 yJ0_length_8abf5 ∈ xTb := xTb_of 1248 (by decide +kernel) (by decide +kernel)
theorem sb_X6_88 : xMB RX6 88 yJ0_length_8abf5 cJ0_length_8abf5 1 (some .int) 0 := ⟨sw_X6_88, sw_ini, sw_c_length, ⟨by decide, by decide⟩, by decide, by decide⟩
theorem sw_X6_97 : Cond.methodLink RX6 97 yJ0_charAt_5068e ∈ xTb := xTb_of 1253 (by decide +kernel) (by decide +kernel)
theorem sb_X6_97 : xMB RX6 97 yJ0_charAt_5068e cJ0_charAt_5068e 2 (some .char) 1 := ⟨sw_X6_97, sw_ini, sw_c_charAt, ⟨by decide, by decide⟩, by decide, by decide⟩
theorem sw_J0_335 : Cond.methodLink RJ0 335 yJ0_coder_7d493 ∈ xTb := xTb_of 609 (by decide +kernel) (by decide +kernel)
theorem sb_J0_335 : xMB RJ0 335 yJ0_coder_7d493 cJ0_coder_7d493 1 (some .byte) 0 := ⟨sw_J0_335, sw_ini, sw_c_coder, ⟨by decide, by decide⟩, by decide, by decide⟩
theorem sw_J0_492 : Cond.methodLink RJ0 492 yJ0_isLatin1_aae02 ∈ xTb := xTb_of 622 (by decide +kernel) (by decide +kernel)
theorem sb_J0_492 : xMB RJ0 492 yJ0_isLatin1_aae02 cJ0_isLatin1_aae02 1 (some .boolean) 0 := ⟨sw_J0_492, sw_ini, sw_c_isLatin1, ⟨by decide, by decide⟩, by decide, by decide⟩
section R
variable {E : xE} {J : xJ} {own : String} {cc : ByteArray} {mL k n pc : Nat} {lv : List (Nat × Value)} {st : List Value} {g : xG} {m : xM}
variable {nm : String} {ret : Option FieldType} {hh : List (Nat × Nat × Nat × Nat)} {d mc ms : Nat} {P : xPo} {PX : xPx}
theorem wl_31 : ∀ i, i < 13 → wl i < 2147483648 := fun i hi => by have := (wl_b i hi).2; omega
theorem x_strs {s : State} {p : Program} {mi : MethodId} {args : Array Value} {meth : Method} {c : Code} {hh9 : List (Nat × Nat × Nat × Nat)} (hC : xCtx E nm ret hh9 own cc mL p s mi args meth c) : vk_S 13 xwl xwb (fun i => xad E (9 + i)) (fun i => xad E (22 + i)) (xF E) s s.heap := by
  obtain ⟨-, -, -, -, -, -, -, -, -, hV, h0⟩ := hC
  exact (hV.2.2.2.2.2.2.2.2.1).kept (xK0 h0)
/-- a call on a string constant -/
theorem x_callT {idx na i dc mc' ms' : Nat} {y : MethodName} {cy : ByteArray} {ml : Nat} {rt : Option FieldType} {as rest : List Value} (hi : i < 13) (hB : xMB own idx y cy ml rt na) (hI : Cond.instanceMethod y ∈ xTb) (hS : Cond.selects "java/lang/String" y y ∈ xTb) (hd : decode cc pc = .ok (.invokevirtual idx, 3)) (hst : st = as.reverse ++ vr E (9 + i) :: rest) (hna : as.length = na)
    (hc : xC E (y, cy, ml, rt) dc mc' ms' (vr E (9 + i) :: as) g m (fun r g' m' => xX E ((nm, ret, []), (d, mc, ms), P, PX) own cc mL (k + mc') (n + ms') (pc + 3) lv (xpush r rest) g' m') PX) (hcat : (rest.map fun v => v.category).sum ≤ 8 := by first | exact Nat.le_of_ble_eq_true rfl | (simp only [List.map, vr_cat]; exact Nat.le_of_ble_eq_true rfl)) (hdp : dc + 1 ≤ d := by decide) (hmc : k + mc' ≤ mc := by decide) (hms : n + ms' ≤ ms := by decide) : xX E ((nm, ret, []), (d, mc, ms), P, PX) own cc mL k n pc lv st g m := by
  intro p e s mi args below meth c0 H locs ls hC hW hL hl T hT X
  obtain ⟨hx, hb, -, hml, hown, hts, -, -, -, hV, h0⟩ := id hC
  have hz : s.heap.size ≤ H.size := by rw [← hT]; exact (vx_frame X.same).1
  obtain ⟨cell, q1, q2, q3⟩ := vk_recv (x_strs hC) hi (xS0 h0 hW hz hL)
  subst hst
  rw [vr_pos (show 0 < 9 + i by omega)] at hc ⊢
  exact x_after (vx_runV (As := as) (b := xad E (9 + i)) (C := "java/lang/String") ⟨hx, hb, hml, hown, hts⟩ hc ⟨xcallB hB hts hdp, hts _ hI, hts _ hS⟩ ⟨xblind, ⟨cell, q1, q2, q3⟩, xPre hV hW⟩ rfl hna hl.1 rfl (lv_room hcat) hd ⟨hmc, hms⟩) hmc hms hC hL hl T hT X
theorem x_sval {idx i : Nat} (hi : i < 13) (hlk : Cond.fieldLink own idx "java/lang/String" "value" "[B" ∈ xTb) (hd : decode cc pc = .ok (.getfield idx, 3)) (h : xX E J own cc mL k n (pc + 3) lv (vr E (22 + i) :: st) g m) : xX E J own cc mL k n pc lv (vr E (9 + i) :: st) g m := by
  intro p e s mi args below meth c0 H locs ls hC hW hL hl T hT X
  obtain ⟨hx, hb, -, hml, hown, hts, -, -, -, hV, h0⟩ := id hC
  have hz : s.heap.size ≤ H.size := by rw [← hT]; exact (vx_frame X.same).1
  have h9 := h p e s mi args below meth c0 H locs ls hC hW hL hl
  rw [vr_pos (show 0 < 22 + i by omega)] at h9
  rw [vr_pos (show 0 < 9 + i by omega)]
  exact vk_getf hx hb ((x_strs hC).1 i hi).2.2.1 (xS0 h0 hW hz hL) hown (hts _ hlk) (fun _ h => h) hd h9 T hT X
theorem x_scod {idx i : Nat} (hi : i < 13) (hlk : Cond.fieldLink own idx "java/lang/String" "coder" "B" ∈ xTb) (hd : decode cc pc = .ok (.getfield idx, 3)) (h : xX E J own cc mL k n (pc + 3) lv (vi 0 :: st) g m) : xX E J own cc mL k n pc lv (vr E (9 + i) :: st) g m := by
  intro p e s mi args below meth c0 H locs ls hC hW hL hl T hT X
  obtain ⟨hx, hb, -, hml, hown, hts, -, -, -, hV, h0⟩ := id hC
  have hz : s.heap.size ≤ H.size := by rw [← hT]; exact (vx_frame X.same).1
  have h9 := h p e s mi args below meth c0 H locs ls hC hW hL hl
  rw [vr_pos (show 0 < 9 + i by omega)]
  exact vk_getf hx hb ((x_strs hC).1 i hi).2.1 (xS0 h0 hW hz hL) hown (hts _ hlk) (fun _ h => h) hd h9 T hT X
theorem x_tlen {i : Nat} (hi : i < 13) (hd : decode cc pc = .ok (.arraylength, 1)) (h : xX E J own cc mL k n (pc + 1) lv (vi ((wl i : Nat) : Int) :: st) g m) : xX E J own cc mL k n pc lv (vr E (22 + i) :: st) g m := by
  intro p e s mi args below meth c0 H locs ls hC hW hL hl T hT X
  obtain ⟨hx, hb, -, hml, hown, hts, -, -, -, hV, h0⟩ := id hC
  have hz : s.heap.size ≤ H.size := by rw [← hT]; exact (vx_frame X.same).1
  have h9 := h p e s mi args below meth c0 H locs ls hC hW hL hl
  rw [vr_pos (show 0 < 22 + i by omega)]
  exact va_tlen hx hb ((x_strs hC).1 i hi).2.2.2 (xS0 h0 hW hz hL) (ofN_I _) hd h9 T hT X
theorem x_tbald {i j : Nat} {z : Int} (hi : i < 13) (hz9 : z = (j : Int)) (hj : j < wl i) (hd : decode cc pc = .ok (.baload, 1)) (h : xX E J own cc mL k n (pc + 1) lv (vi (wc i j) :: st) g m) : xX E J own cc mL k n pc lv (vi z :: vr E (22 + i) :: st) g m := by
  intro p e s mi args below meth c0 H locs ls hC hW hL hl T hT X
  obtain ⟨hx, hb, -, hml, hown, hts, -, -, -, hV, h0⟩ := id hC
  have hz : s.heap.size ≤ H.size := by rw [← hT]; exact (vx_frame X.same).1
  have hb9 : j < 2147483648 := Nat.lt_trans hj (wl_31 i hi)
  have h9 := h p e s mi args below meth c0 H locs ls hC hW hL hl
  rw [vr_pos (show 0 < 22 + i by omega)]
  refine va_tb hx hb ((x_strs hC).1 i hi).2.2.2 (xS0 h0 hW hz hL) (ix_in hz9 hj hb9) ?_ hd h9 T hT X
  show Value.int ((xwb.getD i []).getD (Int32.ofInt z).toNatClampNeg 0) = vi (wc i j)
  rw [ix_cl hz9 hb9]
  unfold vi wc
  rw [Int32.ofInt_toInt]
theorem x_gsio {idx : Nat} (hlk : Cond.fieldLink own idx "jdk/internal/util/Preconditions" "SIOOBE_FORMATTER" "Ljava/util/function/BiFunction;" ∈ xTb) (hd : decode cc pc = .ok (.getstatic idx, 3)) (h : ∀ v : Value, (v = .null ∨ ∃ t, v = .ref t) → xX E J own cc mL k n (pc + 3) lv (v :: st) g m) : xX E J own cc mL k n pc lv st g m := by
  intro p e s mi args below meth c0 H locs ls hC hW hL hl T hT X
  obtain ⟨hx, hb, -, -, hown, hts, -, -, -, hV, h0⟩ := id hC
  have hz : s.heap.size ≤ H.size := by rw [← hT]; exact (vx_frame X.same).1
  rcases (hV.2.2.2.2.2.2.2.2.2.2.2.2.2.2.kept (xK0 h0)).1 with q | ⟨t, q⟩
  · exact va_gets hx hb q (xS0 h0 hW hz hL) hown (hts _ hlk) (fun _ h9 => h9) hd (h .null (Or.inl rfl) p e s mi args below meth c0 H locs ls hC hW hL hl) T hT X
  · exact va_gets hx hb q (xS0 h0 hW hz hL) hown (hts _ hlk) (fun _ h9 => h9) hd (h (.ref t) (Or.inr ⟨t, rfl⟩) p e s mi args below meth c0 H locs ls hC hW hL hl) T hT X
end R
theorem sh_0 : ∀ i, i < 13 → Int32.ofInt ((wl i : Nat) : Int) >>> (Int32.ofInt 0 &&& 31) = Int32.ofInt ((wl i : Nat) : Int) := by decide +kernel
theorem an_255 : ∀ i, i < 13 → ∀ k, k < wl i → Int32.ofInt (wc i k) &&& Int32.ofInt 255 = Int32.ofInt (wc i k) := by decide +kernel
theorem i2_c : ∀ i, i < 13 → ∀ k, k < wl i → ((Int32.ofInt (wc i k)).toUInt32 % 65536).toInt32 = Int32.ofInt (wc i k) := by decide +kernel
theorem ch_c2 : ∀ i, i < 13 → ∀ k, k < wl i → narrow .char (vi (wc i k)) = vi (wc i k) := by decide +kernel
set_option maxRecDepth 20000 in
theorem s_coder {E : xE} {g : xG} {m : xM} {P : xPo} {PX : xPx} {i : Nat} (hi : i < 13) (hP : P (some (vi 0)) g m) : xC E (yJ0_coder_7d493, cJ0_coder_7d493, 1, some .byte) 0 0 0 [vr E (9 + i)] g m P PX := by
  refine x_enterF (by decide +kernel) rfl rfl (by simp only [lg_sl, List.flatMap_cons, List.flatMap_nil, vr_cat]; exact Nat.le_of_ble_eq_true rfl) ?_
  have hle : lv_args 0 [vr E (9 + i)] = [(0, vr E (9 + i))] := by simp only [lv_args, vr_cat]
  rw [hle]
  refine x_getsZ sw_cmp dJ0_coder_7d493_0 ?_
  refine x_if_eq (tgt := 13) dJ0_coder_7d493_3 (by decide) (by omega) (fun h3 => absurd h3 (by omega)) (fun h3 => ?_)
  refine x_aload_n dJ0_coder_7d493_6 rfl ?_
  refine x_scod hi sw_cod dJ0_coder_7d493_7 ?_
  refine x_goto (tgt := 14) dJ0_coder_7d493_10 (by decide) ?_
  exact x_bret dJ0_coder_7d493_14 rfl hP

set_option maxRecDepth 20000 in
theorem s_isLatin1 {E : xE} {g : xG} {m : xM} {P : xPo} {PX : xPx} {i : Nat} (hi : i < 13) (hP : P (some (vi 1)) g m) : xC E (yJ0_isLatin1_aae02, cJ0_isLatin1_aae02, 1, some .boolean) 0 0 0 [vr E (9 + i)] g m P PX := by
  refine x_enterF (by decide +kernel) rfl rfl (by simp only [lg_sl, List.flatMap_cons, List.flatMap_nil, vr_cat]; exact Nat.le_of_ble_eq_true rfl) ?_
  have hle : lv_args 0 [vr E (9 + i)] = [(0, vr E (9 + i))] := by simp only [lv_args, vr_cat]
  rw [hle]
  refine x_getsZ sw_cmp dJ0_isLatin1_aae02_0 ?_
  refine x_if_eq (tgt := 17) dJ0_isLatin1_aae02_3 (by decide) (by omega) (fun h3 => absurd h3 (by omega)) (fun h3 => ?_)
  refine x_aload_n dJ0_isLatin1_aae02_6 rfl ?_
  refine x_scod hi sw_cod dJ0_isLatin1_aae02_7 ?_
  refine x_if_ne (tgt := 17) dJ0_isLatin1_aae02_10 (by decide) (by omega) (fun h3 => absurd rfl h3) (fun h3 => ?_)
  refine x_iconst dJ0_isLatin1_aae02_13 ?_
  refine x_goto (tgt := 18) dJ0_isLatin1_aae02_14 (by decide) ?_
  exact x_zret dJ0_isLatin1_aae02_18 (Or.inr rfl) hP

set_option maxRecDepth 20000 in
theorem s_length {E : xE} {g : xG} {m : xM} {P : xPo} {PX : xPx} {i : Nat} (hi : i < 13) (hP : P (some (vi ((wl i : Nat) : Int))) g m) : xC E (yJ0_length_8abf5, cJ0_length_8abf5, 1, some .int) 1 0 0 [vr E (9 + i)] g m P PX := by
  refine x_enterF (by decide +kernel) rfl rfl (by simp only [lg_sl, List.flatMap_cons, List.flatMap_nil, vr_cat]; exact Nat.le_of_ble_eq_true rfl) ?_
  have hle : lv_args 0 [vr E (9 + i)] = [(0, vr E (9 + i))] := by simp only [lv_args, vr_cat]
  rw [hle]
  refine x_aload_n dJ0_length_8abf5_0 rfl ?_
  refine x_sval hi sw_val dJ0_length_8abf5_1 ?_
  refine x_tlen hi dJ0_length_8abf5_4 ?_
  refine x_aload_n dJ0_length_8abf5_5 rfl ?_
  refine x_callT (as := []) hi sb_J0_335 sw_i_coder sw_s_coder dJ0_length_8abf5_6 rfl rfl (s_coder hi ?_)
  refine x_ishr (z := ((wl i : Nat) : Int)) dJ0_length_8abf5_9 (sh_0 i hi) ?_
  exact x_iret dJ0_length_8abf5_10 hP

set_option maxRecDepth 20000 in
theorem s_checkIx {E : xE} {g : xG} {m : xM} {P : xPo} {PX : xPx} {a b : Int} {v : Value} (hv : v = .null ∨ ∃ t, v = .ref t) (hab : 0 ≤ a ∧ a < b ∧ b ≤ 100) (hP : P (some (vi a)) g m) : xC E (yJ3_checkIndex_8e157, cJ3_checkIndex_8e157, 3, some .int) 0 0 0 [vi a, vi b, v] g m P PX := by
  rcases hv with rfl | ⟨t, rfl⟩
  · refine x_enterF (by decide +kernel) rfl rfl (Nat.le_of_ble_eq_true rfl) ?_
    refine x_iload_n dJ3_checkIndex_8e157_0 rfl ?_
    refine x_if_lt (tgt := 9) dJ3_checkIndex_8e157_1 (by decide) (by omega) (fun h3 => absurd h3 (by omega)) (fun h3 => ?_)
    refine x_iload_n dJ3_checkIndex_8e157_4 rfl ?_
    refine x_iload_n dJ3_checkIndex_8e157_5 rfl ?_
    refine x_icmp_lt (tgt := 16) dJ3_checkIndex_8e157_6 (by decide) (by omega) (fun h4 => ?_) (fun h4 => absurd hab.2.1 h4)
    refine x_iload_n dJ3_checkIndex_8e157_16 rfl ?_
    exact x_iret dJ3_checkIndex_8e157_17 hP
  · refine x_enterF (by decide +kernel) rfl rfl (Nat.le_of_ble_eq_true rfl) ?_
    refine x_iload_n dJ3_checkIndex_8e157_0 rfl ?_
    refine x_if_lt (tgt := 9) dJ3_checkIndex_8e157_1 (by decide) (by omega) (fun h3 => absurd h3 (by omega)) (fun h3 => ?_)
    refine x_iload_n dJ3_checkIndex_8e157_4 rfl ?_
    refine x_iload_n dJ3_checkIndex_8e157_5 rfl ?_
    refine x_icmp_lt (tgt := 16) dJ3_checkIndex_8e157_6 (by decide) (by omega) (fun h4 => ?_) (fun h4 => absurd hab.2.1 h4)
    refine x_iload_n dJ3_checkIndex_8e157_16 rfl ?_
    exact x_iret dJ3_checkIndex_8e157_17 hP

set_option maxRecDepth 20000 in
theorem s_checkSx {E : xE} {g : xG} {m : xM} {P : xPo} {PX : xPx} {a b : Int} (hab : 0 ≤ a ∧ a < b ∧ b ≤ 100) (hP : P none g m) : xC E (yJ0_checkIndex_df160, cJ0_checkIndex_df160, 2, none) 1 0 0 [vi a, vi b] g m P PX := by
  refine x_enterF (by decide +kernel) rfl rfl (Nat.le_of_ble_eq_true rfl) ?_
  refine x_iload_n dJ0_checkIndex_df160_0 rfl ?_
  refine x_iload_n dJ0_checkIndex_df160_1 rfl ?_
  refine x_gsio sw_sio dJ0_checkIndex_df160_2 (fun v hv => ?_)
  refine x_S3 mJ0_1059 dJ0_checkIndex_df160_5 (s_checkIx hv hab ?_)
  refine x_pop dJ0_checkIndex_df160_8 rfl ?_
  exact x_vret dJ0_checkIndex_df160_9 hP

set_option maxRecDepth 20000 in
theorem s_charAtL {E : xE} {g : xG} {m : xM} {P : xPo} {PX : xPx} {i j : Nat} (hi : i < 13) (hj : j < wl i) (hP : P (some (vi (wc i j))) g m) : xC E (yJ1_charAt_3b067, cJ1_charAt_3b067, 2, some .char) 2 0 0 [vr E (22 + i), vi (j : Int)] g m P PX := by
  refine x_enterF (by decide +kernel) rfl rfl (by simp only [lg_sl, List.flatMap_cons, List.flatMap_nil, vr_cat]; exact Nat.le_of_ble_eq_true rfl) ?_
  have hle : lv_args 0 [vr E (22 + i), vi (j : Int)] = [(0, vr E (22 + i)), (1, vi (j : Int))] := by simp only [lv_args, vr_cat]; rfl
  rw [hle]
  have hwb := wl_b i hi
  refine x_iload_n dJ1_charAt_3b067_0 rfl ?_
  refine x_aload_n dJ1_charAt_3b067_1 rfl ?_
  refine x_tlen hi dJ1_charAt_3b067_2 ?_
  refine x_S2 mJ1_9 dJ1_charAt_3b067_3 (s_checkSx (by omega) ?_)
  refine x_aload_n dJ1_charAt_3b067_6 rfl ?_
  refine x_iload_n dJ1_charAt_3b067_7 rfl ?_
  refine x_tbald hi rfl hj dJ1_charAt_3b067_8 ?_
  refine x_sipush dJ1_charAt_3b067_9 (h := ?_)
  refine x_iand (z := wc i j) dJ1_charAt_3b067_12 (an_255 i hi j hj) ?_
  refine x_i2c (z := wc i j) dJ1_charAt_3b067_13 (i2_c i hi j hj) ?_
  exact x_cret dJ1_charAt_3b067_14 (ch_c2 i hi j hj) hP

set_option maxRecDepth 20000 in
theorem s_charAt {E : xE} {g : xG} {m : xM} {P : xPo} {PX : xPx} {i j : Nat} (hi : i < 13) (hj : j < wl i) (hP : P (some (vi (wc i j))) g m) : xC E (yJ0_charAt_5068e, cJ0_charAt_5068e, 2, some .char) 3 0 0 [vr E (9 + i), vi (j : Int)] g m P PX := by
  refine x_enterF (by decide +kernel) rfl rfl (by simp only [lg_sl, List.flatMap_cons, List.flatMap_nil, vr_cat]; exact Nat.le_of_ble_eq_true rfl) ?_
  have hle : lv_args 0 [vr E (9 + i), vi (j : Int)] = [(0, vr E (9 + i)), (1, vi (j : Int))] := by simp only [lv_args, vr_cat]; rfl
  rw [hle]
  refine x_aload_n dJ0_charAt_5068e_0 rfl ?_
  refine x_callT (as := []) hi sb_J0_492 sw_i_isLatin1 sw_s_isLatin1 dJ0_charAt_5068e_1 rfl rfl (s_isLatin1 hi ?_)
  refine x_if_eq (tgt := 16) dJ0_charAt_5068e_4 (by decide) (by omega) (fun h3 => absurd h3 (by omega)) (fun h3 => ?_)
  refine x_aload_n dJ0_charAt_5068e_7 rfl ?_
  refine x_sval hi sw_val dJ0_charAt_5068e_8 ?_
  refine x_iload_n dJ0_charAt_5068e_11 rfl ?_
  refine x_S2 mJ0_495 dJ0_charAt_5068e_12 (s_charAtL hi hj ?_)
  exact x_cret dJ0_charAt_5068e_15 (ch_c2 i hi j hj) hP

end ST
