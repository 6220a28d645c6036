section XR
variable {E : xE} {J : xJ} {own : String} {cc : ByteArray} {mL k n pc : Nat} {lv : List (Nat × Value)} {st : List Value} {g : xG} {m : xM}
/-- a local by its number -/
def xl (lv : List (Nat × Value)) (i : Nat) : Option Value := match lv with
  | [] => none
  | (j, v) :: r => if j = i then some v else xl r i
theorem xl_mem {lv : List (Nat × Value)} {i : Nat} {v : Value} (h : xl lv i = some v) : (i, v) ∈ lv := by
  induction lv with
  | nil => cases h
  | cons q r ih =>
    obtain ⟨j, w⟩ := q
    unfold xl at h
    by_cases c : j = i
    · rw [if_pos c] at h
      obtain rfl := Option.some.inj h
      rw [← c]
      exact List.mem_cons_self
    · rw [if_neg c] at h
      exact List.mem_cons_of_mem _ (ih h)
theorem xl_at {ls : Array Slot} {nL : Nat} {lv : List (Nat × Value)} {i : Nat} {v : Value} (h : lv_has ls nL lv) (hv : xl lv i = some v) : ls[i]? = some (.val v) := h.2.2 (i, v) (xl_mem hv)
def xst (lv : List (Nat × Value)) (i : Nat) (v : Value) : List (Nat × Value) := (i, v) :: lv.filter (fun q => !(q.1 == i) && !(q.1 + 1 == i && q.2.category == 2))
def xst2 (lv : List (Nat × Value)) (i : Nat) (v : Value) : List (Nat × Value) := (i, v) :: lv.filter (fun q => !(q.1 == i) && (!(q.1 == i + 1) && !(q.1 + 1 == i && q.2.category == 2)))
/-- fewer locals, in any order -/
def xsub (lv : List (Nat × Value)) : List (Nat × Value) → Prop
  | [] => True
  | q :: r => xl lv q.1 = some q.2 ∧ xsub lv r
theorem xsub_mem {lv lv' : List (Nat × Value)} (h : xsub lv lv') : ∀ q ∈ lv', xl lv q.1 = some q.2 := by
  induction lv' with
  | nil => intro q hq; cases hq
  | cons a r ih =>
    intro q hq
    rcases List.mem_cons.mp hq with rfl | hq
    · exact h.1
    · exact ih h.2 q hq
theorem x_loc {lv' : List (Nat × Value)} (hs : xsub lv lv') (h : xX E J own cc mL k n pc lv' st g m) : xX E J own cc mL k n pc lv st g m := by
  intro p e s mi args below meth c H locs ls hC hW hL hl
  exact h p e s mi args below meth c H locs ls hC hW hL ⟨hl.1, hl.2.1, fun q hq => xl_at hl (xsub_mem hs q hq)⟩
theorem x_widen {k' n' : Nat} (h1 : k ≤ k') (h2 : n ≤ n') (h : xX E J own cc mL k' n' pc lv st g m) : xX E J own cc mL k n pc lv st g m := by
  intro p e s mi args below meth c H locs ls hC hW hL hl
  exact W.widen h1 h2 (h p e s mi args below meth c H locs ls hC hW hL hl)
/-- the top of the stack by another name -/
theorem x_top {z z' : Int} (e : z = z') (h : xX E J own cc mL k n pc lv (vi z' :: st) g m) : xX E J own cc mL k n pc lv (vi z :: st) g m := by rw [e]; exact h
theorem x_topl {z z' : Int} (e : z = z') (h : xX E J own cc mL k n pc lv (vl z' :: st) g m) : xX E J own cc mL k n pc lv (vl z :: st) g m := by rw [e]; exact h
theorem x_name {z : Int} (h : ∀ z', z' = z → xX E J own cc mL k n pc lv (vi z' :: st) g m) : xX E J own cc mL k n pc lv (vi z :: st) g m := h z rfl
theorem x_mem {m' : xM} (e : m = m') (h : xX E J own cc mL k n pc lv st g m') : xX E J own cc mL k n pc lv st g m := by rw [e]; exact h
theorem mx32 : Int32.maxValue.toInt = 2147483647 := by decide
theorem mn32 : Int32.minValue.toInt = -2147483648 := by decide
theorem mx64 : Int64.maxValue.toInt = 9223372036854775807 := by decide
theorem mn64 : Int64.minValue.toInt = -9223372036854775808 := by decide
theorem ri_lt {a b : Int} (h : -2147483648 ≤ a ∧ a ≤ 2147483647 ∧ -2147483648 ≤ b ∧ b ≤ 2147483647) : Int32.ofInt a < Int32.ofInt b ↔ a < b := Int32.ofInt_lt_iff_lt (mn32 ▸ h.1) (mx32 ▸ h.2.1) (mn32 ▸ h.2.2.1) (mx32 ▸ h.2.2.2)
theorem ri_le {a b : Int} (h : -2147483648 ≤ a ∧ a ≤ 2147483647 ∧ -2147483648 ≤ b ∧ b ≤ 2147483647) : Int32.ofInt a ≤ Int32.ofInt b ↔ a ≤ b := Int32.ofInt_le_iff_le (mn32 ▸ h.1) (mx32 ▸ h.2.1) (mn32 ▸ h.2.2.1) (mx32 ▸ h.2.2.2)
theorem ri_to {a : Int} (h : -2147483648 ≤ a ∧ a ≤ 2147483647) : (Int32.ofInt a).toInt = a := Int32.toInt_ofInt_of_le (by omega) (by omega)
theorem ri_eq {a b : Int} (h : -2147483648 ≤ a ∧ a ≤ 2147483647 ∧ -2147483648 ≤ b ∧ b ≤ 2147483647) : Int32.ofInt a = Int32.ofInt b ↔ a = b := by
  constructor
  · intro q
    have h1 := ri_to (a := a) ⟨h.1, h.2.1⟩
    rw [q, ri_to ⟨h.2.2.1, h.2.2.2⟩] at h1
    exact h1.symm
  · intro q; rw [q]
theorem rl_to {a : Int} (h : -9223372036854775808 ≤ a ∧ a ≤ 9223372036854775807) : (Int64.ofInt a).toInt = a := Int64.toInt_ofInt_of_le (by omega) (by omega)
theorem rl_lt {a b : Int} (h : -9223372036854775808 ≤ a ∧ a ≤ 9223372036854775807 ∧ -9223372036854775808 ≤ b ∧ b ≤ 9223372036854775807) : Int64.ofInt a < Int64.ofInt b ↔ a < b := by
  rw [Int64.lt_iff_toInt_lt, rl_to ⟨h.1, h.2.1⟩, rl_to ⟨h.2.2.1, h.2.2.2⟩]
theorem rl_eq {a b : Int} (h : -9223372036854775808 ≤ a ∧ a ≤ 9223372036854775807 ∧ -9223372036854775808 ≤ b ∧ b ≤ 9223372036854775807) : Int64.ofInt a = Int64.ofInt b ↔ a = b := by
  rw [← Int64.toInt_inj, rl_to ⟨h.1, h.2.1⟩, rl_to ⟨h.2.2.1, h.2.2.2⟩]

theorem x_iconst {z : Int} (hd : decode cc pc = .ok (.iconst z, 1))  (h : xX E J own cc mL k n (pc + 1) lv (vi z :: st) g m) : xX E J own cc mL k n pc lv st g m := by
  intro p e s mi args below meth c H locs ls hC hW hL hl
  exact lv_iconst hC.1 hC.2.1 hd rfl (h p e s mi args below meth c H locs ls hC hW hL hl)
theorem x_bipush {z : Int} (hd : decode cc pc = .ok (.bipush z, 2)) (hv : (Int8.ofInt z).toInt32 = Int32.ofInt z := by decide) (h : xX E J own cc mL k n (pc + 2) lv (vi z :: st) g m) : xX E J own cc mL k n pc lv st g m := by
  intro p e s mi args below meth c H locs ls hC hW hL hl
  exact lv_bipush hC.1 hC.2.1 hd hv (h p e s mi args below meth c H locs ls hC hW hL hl)
theorem x_sipush {z : Int} (hd : decode cc pc = .ok (.sipush z, 3)) (hv : (Int16.ofInt z).toInt32 = Int32.ofInt z := by decide) (h : xX E J own cc mL k n (pc + 3) lv (vi z :: st) g m) : xX E J own cc mL k n pc lv st g m := by
  intro p e s mi args below meth c H locs ls hC hW hL hl
  exact lv_sipush hC.1 hC.2.1 hd hv (h p e s mi args below meth c H locs ls hC hW hL hl)
theorem x_lconst {z : Fin 2} (hd : decode cc pc = .ok (.lconst z, 1))  (h : xX E J own cc mL k n (pc + 1) lv (vl (z : Nat) :: st) g m) : xX E J own cc mL k n pc lv st g m := by
  intro p e s mi args below meth c H locs ls hC hW hL hl
  exact lv_lconst hC.1 hC.2.1 hd (by match z with | 0 => rfl | 1 => rfl) (h p e s mi args below meth c H locs ls hC hW hL hl)
theorem x_iload_n {i : Fin 4} {z : Int} (hd : decode cc pc = .ok (.iload_n i, 1)) (hv : xl lv (i : Nat) = some (vi z)) (h : xX E J own cc mL k n (pc + 1) lv (vi z :: st) g m) : xX E J own cc mL k n pc lv st g m := by
  intro p e s mi args below meth c H locs ls hC hW hL hl
  exact lv_iload_n hC.1 hC.2.1 hd rfl (xl_at hl hv) (h p e s mi args below meth c H locs ls hC hW hL hl)
theorem x_iload {i : Nat} {z : Int} (hd : decode cc pc = .ok (.iload i, 2)) (hv : xl lv i = some (vi z)) (h : xX E J own cc mL k n (pc + 2) lv (vi z :: st) g m) : xX E J own cc mL k n pc lv st g m := by
  intro p e s mi args below meth c H locs ls hC hW hL hl
  exact lv_iload hC.1 hC.2.1 hd (xl_at hl hv) (h p e s mi args below meth c H locs ls hC hW hL hl)
theorem x_lload_n {i : Fin 4} {z : Int} (hd : decode cc pc = .ok (.lload_n i, 1)) (hv : xl lv (i : Nat) = some (vl z)) (h : xX E J own cc mL k n (pc + 1) lv (vl z :: st) g m) : xX E J own cc mL k n pc lv st g m := by
  intro p e s mi args below meth c H locs ls hC hW hL hl
  exact lv_lload_n hC.1 hC.2.1 hd rfl (xl_at hl hv) (h p e s mi args below meth c H locs ls hC hW hL hl)
theorem x_lload {i : Nat} {z : Int} (hd : decode cc pc = .ok (.lload i, 2)) (hv : xl lv i = some (vl z)) (h : xX E J own cc mL k n (pc + 2) lv (vl z :: st) g m) : xX E J own cc mL k n pc lv st g m := by
  intro p e s mi args below meth c H locs ls hC hW hL hl
  exact lv_lload hC.1 hC.2.1 hd (xl_at hl hv) (h p e s mi args below meth c H locs ls hC hW hL hl)
theorem x_aload_n {i : Fin 4} {r : Nat} (hd : decode cc pc = .ok (.aload_n i, 1)) (hv : xl lv (i : Nat) = some (vr E r)) (h : xX E J own cc mL k n (pc + 1) lv (vr E r :: st) g m) : xX E J own cc mL k n pc lv st g m := by
  intro p e s mi args below meth c H locs ls hC hW hL hl
  have hq := xl_at hl hv
  have hh := h p e s mi args below meth c H locs ls hC hW hL hl
  unfold vr at hq hh
  cases ho : xo E r with
  | none =>
    rw [ho] at hq hh
    exact lv_aload_nN hC.1 hC.2.1 hd rfl hq hh
  | some a =>
    rw [ho] at hq hh
    exact lv_aload_n hC.1 hC.2.1 hd rfl hq hh
theorem x_aload {i : Nat} {r : Nat} (hd : decode cc pc = .ok (.aload i, 2)) (hv : xl lv i = some (vr E r)) (h : xX E J own cc mL k n (pc + 2) lv (vr E r :: st) g m) : xX E J own cc mL k n pc lv st g m := by
  intro p e s mi args below meth c H locs ls hC hW hL hl
  have hq := xl_at hl hv
  have hh := h p e s mi args below meth c H locs ls hC hW hL hl
  unfold vr at hq hh
  cases ho : xo E r with
  | none =>
    rw [ho] at hq hh
    exact lv_aloadN hC.1 hC.2.1 hd hq hh
  | some a =>
    rw [ho] at hq hh
    exact lv_aload hC.1 hC.2.1 hd hq hh
theorem x_istore_n {i : Fin 4} {z : Int} (hd : decode cc pc = .ok (.istore_n i, 1)) (h : xX E J own cc mL k n (pc + 1) (xst lv (i : Nat) (vi z)) st g m) (hn : (i : Nat) < mL := by decide) : xX E J own cc mL k n pc lv (vi z :: st) g m := by
  intro p e s mi args below meth c H locs ls hC hW hL hl
  exact lv_istore_n hC.1 hC.2.1 hd rfl hl hn rfl (fun ls hl => h p e s mi args below meth c H locs ls hC hW hL hl)
theorem x_istore {i : Nat} {z : Int} (hd : decode cc pc = .ok (.istore i, 2)) (h : xX E J own cc mL k n (pc + 2) (xst lv i (vi z)) st g m) (hn : i < mL := by decide) : xX E J own cc mL k n pc lv (vi z :: st) g m := by
  intro p e s mi args below meth c H locs ls hC hW hL hl
  exact lv_istore hC.1 hC.2.1 hd hl hn rfl (fun ls hl => h p e s mi args below meth c H locs ls hC hW hL hl)
theorem x_lstore_n {i : Fin 4} {z : Int} (hd : decode cc pc = .ok (.lstore_n i, 1)) (h : xX E J own cc mL k n (pc + 1) (xst2 lv (i : Nat) (vl z)) st g m) (hn : (i : Nat) + 1 < mL := by decide) : xX E J own cc mL k n pc lv (vl z :: st) g m := by
  intro p e s mi args below meth c H locs ls hC hW hL hl
  exact lv_lstore_n hC.1 hC.2.1 hd rfl hl hn rfl (fun ls hl => h p e s mi args below meth c H locs ls hC hW hL hl)
theorem x_lstore {i : Nat} {z : Int} (hd : decode cc pc = .ok (.lstore i, 2)) (h : xX E J own cc mL k n (pc + 2) (xst2 lv i (vl z)) st g m) (hn : i + 1 < mL := by decide) : xX E J own cc mL k n pc lv (vl z :: st) g m := by
  intro p e s mi args below meth c H locs ls hC hW hL hl
  exact lv_lstore hC.1 hC.2.1 hd hl hn rfl (fun ls hl => h p e s mi args below meth c H locs ls hC hW hL hl)
theorem x_astore_n {i : Fin 4} {r : Nat} (hd : decode cc pc = .ok (.astore_n i, 1)) (h : xX E J own cc mL k n (pc + 1) (xst lv (i : Nat) (vr E r)) st g m) (hn : (i : Nat) < mL := by decide) : xX E J own cc mL k n pc lv (vr E r :: st) g m := by
  intro p e s mi args below meth c H locs ls hC hW hL hl
  unfold vr at h ⊢
  cases ho : xo E r with
  | none =>
    rw [ho] at h
    exact lv_astore_nN hC.1 hC.2.1 hd rfl hl hn rfl (fun ls hl => h p e s mi args below meth c H locs ls hC hW hL hl)
  | some a =>
    rw [ho] at h
    exact lv_astore_n hC.1 hC.2.1 hd rfl hl hn rfl (fun ls hl => h p e s mi args below meth c H locs ls hC hW hL hl)
theorem x_astore_nr {i : Fin 4} {a : Nat} (hd : decode cc pc = .ok (.astore_n i, 1)) (h : xX E J own cc mL k n (pc + 1) (xst lv (i : Nat) (.ref a)) st g m) (hn : (i : Nat) < mL := by decide) : xX E J own cc mL k n pc lv (.ref a :: st) g m := by
  intro p e s mi args below meth c H locs ls hC hW hL hl
  exact lv_astore_n hC.1 hC.2.1 hd rfl hl hn rfl (fun ls hl => h p e s mi args below meth c H locs ls hC hW hL hl)
theorem x_astore {i : Nat} {r : Nat} (hd : decode cc pc = .ok (.astore i, 2)) (h : xX E J own cc mL k n (pc + 2) (xst lv i (vr E r)) st g m) (hn : i < mL := by decide) : xX E J own cc mL k n pc lv (vr E r :: st) g m := by
  intro p e s mi args below meth c H locs ls hC hW hL hl
  unfold vr at h ⊢
  cases ho : xo E r with
  | none =>
    rw [ho] at h
    exact lv_astoreN hC.1 hC.2.1 hd hl hn rfl (fun ls hl => h p e s mi args below meth c H locs ls hC hW hL hl)
  | some a =>
    rw [ho] at h
    exact lv_astore hC.1 hC.2.1 hd hl hn rfl (fun ls hl => h p e s mi args below meth c H locs ls hC hW hL hl)
theorem x_astorer {i : Nat} {a : Nat} (hd : decode cc pc = .ok (.astore i, 2)) (h : xX E J own cc mL k n (pc + 2) (xst lv i (.ref a)) st g m) (hn : i < mL := by decide) : xX E J own cc mL k n pc lv (.ref a :: st) g m := by
  intro p e s mi args below meth c H locs ls hC hW hL hl
  exact lv_astore hC.1 hC.2.1 hd hl hn rfl (fun ls hl => h p e s mi args below meth c H locs ls hC hW hL hl)
theorem x_iinc {i : Nat} {w z : Int} (hd : decode cc pc = .ok (.iinc i w, 3)) (hv : xl lv i = some (vi z)) (h : xX E J own cc mL k n (pc + 3) (xst lv i (vi (z + w))) st g m) (hn : i < mL := by decide) : xX E J own cc mL k n pc lv st g m := by
  intro p e s mi args below meth c H locs ls hC hW hL hl
  obtain ⟨j, hj⟩ := List.getElem?_of_mem (xl_mem hv)
  exact lv_iinc (k := j) (v := Int32.ofInt (z + w)) hC.1 hC.2.1 hd hl hj (by rw [Int32.ofInt_add]) hn rfl (fun ls hl => h p e s mi args below meth c H locs ls hC hW hL hl)
theorem x_iadd {x y : Int} (hd : decode cc pc = .ok (.iadd, 1))  (h : xX E J own cc mL k n (pc + 1) lv (vi (x + y) :: st) g m) : xX E J own cc mL k n pc lv (vi y :: vi x :: st) g m := by
  intro p e s mi args below meth c H locs ls hC hW hL hl
  refine lv_iadd hC.1 hC.2.1 hd ?_
  rw [← Int32.ofInt_add]
  exact h p e s mi args below meth c H locs ls hC hW hL hl
theorem x_isub {x y : Int} (hd : decode cc pc = .ok (.isub, 1))  (h : xX E J own cc mL k n (pc + 1) lv (vi (x - y) :: st) g m) : xX E J own cc mL k n pc lv (vi y :: vi x :: st) g m := by
  intro p e s mi args below meth c H locs ls hC hW hL hl
  refine lv_isub hC.1 hC.2.1 hd ?_
  rw [← Int32.ofInt_sub]
  exact h p e s mi args below meth c H locs ls hC hW hL hl
theorem x_imul {x y : Int} (hd : decode cc pc = .ok (.imul, 1))  (h : xX E J own cc mL k n (pc + 1) lv (vi (x * y) :: st) g m) : xX E J own cc mL k n pc lv (vi y :: vi x :: st) g m := by
  intro p e s mi args below meth c H locs ls hC hW hL hl
  refine lv_imul hC.1 hC.2.1 hd ?_
  rw [← Int32.ofInt_mul]
  exact h p e s mi args below meth c H locs ls hC hW hL hl
theorem x_ineg {x : Int} (hd : decode cc pc = .ok (.ineg, 1))  (h : xX E J own cc mL k n (pc + 1) lv (vi (-x) :: st) g m) : xX E J own cc mL k n pc lv (vi x :: st) g m := by
  intro p e s mi args below meth c H locs ls hC hW hL hl
  refine lv_ineg hC.1 hC.2.1 hd ?_
  rw [← Int32.ofInt_neg]
  exact h p e s mi args below meth c H locs ls hC hW hL hl
theorem x_idiv {x y : Int} (hd : decode cc pc = .ok (.idiv, 1)) (hr : -2147483648 ≤ x ∧ x ≤ 2147483647 ∧ -2147483648 ≤ y ∧ y ≤ 2147483647) (h0 : y ≠ 0) (h : xX E J own cc mL k n (pc + 1) lv (vi (x.tdiv y) :: st) g m) : xX E J own cc mL k n pc lv (vi y :: vi x :: st) g m := by
  intro p e s mi args below meth c H locs ls hC hW hL hl
  refine lv_idiv hC.1 hC.2.1 hd (fun q => h0 ((ri_eq (a := y) (b := 0) (by omega)).mp q)) ?_
  rw [← Int32.ofInt_tdiv (by first | exact (mn32 ▸ hr.1) | exact (mn64 ▸ hr.1)) (by first | exact (mx32 ▸ hr.2.1) | exact (mx64 ▸ hr.2.1)) (by first | exact (mn32 ▸ hr.2.2.1) | exact (mn64 ▸ hr.2.2.1)) (by first | exact (mx32 ▸ hr.2.2.2) | exact (mx64 ▸ hr.2.2.2))]
  exact h p e s mi args below meth c H locs ls hC hW hL hl
theorem x_irem {x y : Int} (hd : decode cc pc = .ok (.irem, 1)) (hr : -2147483648 ≤ x ∧ x ≤ 2147483647 ∧ -2147483648 ≤ y ∧ y ≤ 2147483647) (h0 : y ≠ 0) (h : xX E J own cc mL k n (pc + 1) lv (vi (x.tmod y) :: st) g m) : xX E J own cc mL k n pc lv (vi y :: vi x :: st) g m := by
  intro p e s mi args below meth c H locs ls hC hW hL hl
  refine lv_irem hC.1 hC.2.1 hd (fun q => h0 ((ri_eq (a := y) (b := 0) (by omega)).mp q)) ?_
  have e9 : Int32.ofInt x - Int32.ofInt x / Int32.ofInt y * Int32.ofInt y = Int32.ofInt (x.tmod y) := by
    rw [← Int32.ofInt_tdiv (by first | exact (mn32 ▸ hr.1) | exact (mn64 ▸ hr.1)) (by first | exact (mx32 ▸ hr.2.1) | exact (mx64 ▸ hr.2.1)) (by first | exact (mn32 ▸ hr.2.2.1) | exact (mn64 ▸ hr.2.2.1)) (by first | exact (mx32 ▸ hr.2.2.2) | exact (mx64 ▸ hr.2.2.2)), ← Int32.ofInt_mul, ← Int32.ofInt_sub, Int.tmod_def, Int.mul_comm]
  rw [e9]
  exact h p e s mi args below meth c H locs ls hC hW hL hl
theorem x_iand {x y z : Int} (hd : decode cc pc = .ok (.iand, 1)) (hv : Int32.ofInt x &&& Int32.ofInt y = Int32.ofInt z) (h : xX E J own cc mL k n (pc + 1) lv (vi z :: st) g m) : xX E J own cc mL k n pc lv (vi y :: vi x :: st) g m := by
  intro p e s mi args below meth c H locs ls hC hW hL hl
  refine lv_iand hC.1 hC.2.1 hd ?_
  rw [hv]
  exact h p e s mi args below meth c H locs ls hC hW hL hl
theorem x_ior {x y z : Int} (hd : decode cc pc = .ok (.ior, 1)) (hv : Int32.ofInt x ||| Int32.ofInt y = Int32.ofInt z) (h : xX E J own cc mL k n (pc + 1) lv (vi z :: st) g m) : xX E J own cc mL k n pc lv (vi y :: vi x :: st) g m := by
  intro p e s mi args below meth c H locs ls hC hW hL hl
  refine lv_ior hC.1 hC.2.1 hd ?_
  rw [hv]
  exact h p e s mi args below meth c H locs ls hC hW hL hl
theorem x_ixor {x y z : Int} (hd : decode cc pc = .ok (.ixor, 1)) (hv : Int32.ofInt x ^^^ Int32.ofInt y = Int32.ofInt z) (h : xX E J own cc mL k n (pc + 1) lv (vi z :: st) g m) : xX E J own cc mL k n pc lv (vi y :: vi x :: st) g m := by
  intro p e s mi args below meth c H locs ls hC hW hL hl
  refine lv_ixor hC.1 hC.2.1 hd ?_
  rw [hv]
  exact h p e s mi args below meth c H locs ls hC hW hL hl
theorem x_ishl {x y z : Int} (hd : decode cc pc = .ok (.ishl, 1)) (hv : Int32.ofInt x <<< (Int32.ofInt y &&& 31) = Int32.ofInt z) (h : xX E J own cc mL k n (pc + 1) lv (vi z :: st) g m) : xX E J own cc mL k n pc lv (vi y :: vi x :: st) g m := by
  intro p e s mi args below meth c H locs ls hC hW hL hl
  refine lv_ishl hC.1 hC.2.1 hd ?_
  rw [hv]
  exact h p e s mi args below meth c H locs ls hC hW hL hl
theorem x_ishr {x y z : Int} (hd : decode cc pc = .ok (.ishr, 1)) (hv : Int32.ofInt x >>> (Int32.ofInt y &&& 31) = Int32.ofInt z) (h : xX E J own cc mL k n (pc + 1) lv (vi z :: st) g m) : xX E J own cc mL k n pc lv (vi y :: vi x :: st) g m := by
  intro p e s mi args below meth c H locs ls hC hW hL hl
  refine lv_ishr hC.1 hC.2.1 hd ?_
  rw [hv]
  exact h p e s mi args below meth c H locs ls hC hW hL hl
theorem x_iushr {x y z : Int} (hd : decode cc pc = .ok (.iushr, 1)) (hv : ((Int32.ofInt x).toUInt32 >>> ((Int32.ofInt y).toUInt32 &&& Int32.toUInt32 31)).toInt32 = Int32.ofInt z) (h : xX E J own cc mL k n (pc + 1) lv (vi z :: st) g m) : xX E J own cc mL k n pc lv (vi y :: vi x :: st) g m := by
  intro p e s mi args below meth c H locs ls hC hW hL hl
  exact lv_iushr hC.1 hC.2.1 hd hv (h p e s mi args below meth c H locs ls hC hW hL hl)
theorem x_i2b {x z : Int} (hd : decode cc pc = .ok (.i2b, 1)) (hv : (Int32.ofInt x).toInt8.toInt32 = Int32.ofInt z) (h : xX E J own cc mL k n (pc + 1) lv (vi z :: st) g m) : xX E J own cc mL k n pc lv (vi x :: st) g m := by
  intro p e s mi args below meth c H locs ls hC hW hL hl
  exact lv_i2b hC.1 hC.2.1 hd hv (h p e s mi args below meth c H locs ls hC hW hL hl)
theorem x_i2c {x z : Int} (hd : decode cc pc = .ok (.i2c, 1)) (hv : ((Int32.ofInt x).toUInt32 % 65536).toInt32 = Int32.ofInt z) (h : xX E J own cc mL k n (pc + 1) lv (vi z :: st) g m) : xX E J own cc mL k n pc lv (vi x :: st) g m := by
  intro p e s mi args below meth c H locs ls hC hW hL hl
  exact lv_i2c hC.1 hC.2.1 hd hv (h p e s mi args below meth c H locs ls hC hW hL hl)
theorem x_i2l {x : Int} (hd : decode cc pc = .ok (.i2l, 1)) (hr : -2147483648 ≤ x ∧ x ≤ 2147483647) (h : xX E J own cc mL k n (pc + 1) lv (vl x :: st) g m) : xX E J own cc mL k n pc lv (vi x :: st) g m := by
  intro p e s mi args below meth c H locs ls hC hW hL hl
  exact lv_i2l hC.1 hC.2.1 hd (Int32.toInt64_ofInt (mn32 ▸ hr.1) (mx32 ▸ hr.2)) (h p e s mi args below meth c H locs ls hC hW hL hl)
theorem x_l2i {x : Int} (hd : decode cc pc = .ok (.l2i, 1))  (h : xX E J own cc mL k n (pc + 1) lv (vi x :: st) g m) : xX E J own cc mL k n pc lv (vl x :: st) g m := by
  intro p e s mi args below meth c H locs ls hC hW hL hl
  exact lv_l2i hC.1 hC.2.1 hd Int64.toInt32_ofInt (h p e s mi args below meth c H locs ls hC hW hL hl)
theorem x_ladd {x y : Int} (hd : decode cc pc = .ok (.ladd, 1))  (h : xX E J own cc mL k n (pc + 1) lv (vl (x + y) :: st) g m) : xX E J own cc mL k n pc lv (vl y :: vl x :: st) g m := by
  intro p e s mi args below meth c H locs ls hC hW hL hl
  refine lv_ladd hC.1 hC.2.1 hd ?_
  rw [← Int64.ofInt_add]
  exact h p e s mi args below meth c H locs ls hC hW hL hl
theorem x_lsub {x y : Int} (hd : decode cc pc = .ok (.lsub, 1))  (h : xX E J own cc mL k n (pc + 1) lv (vl (x - y) :: st) g m) : xX E J own cc mL k n pc lv (vl y :: vl x :: st) g m := by
  intro p e s mi args below meth c H locs ls hC hW hL hl
  refine lv_lsub hC.1 hC.2.1 hd ?_
  rw [← Int64.ofInt_sub]
  exact h p e s mi args below meth c H locs ls hC hW hL hl
theorem x_lmul {x y : Int} (hd : decode cc pc = .ok (.lmul, 1))  (h : xX E J own cc mL k n (pc + 1) lv (vl (x * y) :: st) g m) : xX E J own cc mL k n pc lv (vl y :: vl x :: st) g m := by
  intro p e s mi args below meth c H locs ls hC hW hL hl
  refine lv_lmul hC.1 hC.2.1 hd ?_
  rw [← Int64.ofInt_mul]
  exact h p e s mi args below meth c H locs ls hC hW hL hl
theorem x_ldiv {x y : Int} (hd : decode cc pc = .ok (.ldiv, 1)) (hr : -9223372036854775808 ≤ x ∧ x ≤ 9223372036854775807 ∧ -9223372036854775808 ≤ y ∧ y ≤ 9223372036854775807) (h0 : y ≠ 0) (h : xX E J own cc mL k n (pc + 1) lv (vl (x.tdiv y) :: st) g m) : xX E J own cc mL k n pc lv (vl y :: vl x :: st) g m := by
  intro p e s mi args below meth c H locs ls hC hW hL hl
  refine lv_ldiv hC.1 hC.2.1 hd (fun q => h0 ((rl_eq (a := y) (b := 0) (by omega)).mp q)) ?_
  rw [← Int64.ofInt_tdiv (by first | exact (mn32 ▸ hr.1) | exact (mn64 ▸ hr.1)) (by first | exact (mx32 ▸ hr.2.1) | exact (mx64 ▸ hr.2.1)) (by first | exact (mn32 ▸ hr.2.2.1) | exact (mn64 ▸ hr.2.2.1)) (by first | exact (mx32 ▸ hr.2.2.2) | exact (mx64 ▸ hr.2.2.2))]
  exact h p e s mi args below meth c H locs ls hC hW hL hl
theorem x_lrem {x y : Int} (hd : decode cc pc = .ok (.lrem, 1)) (hr : -9223372036854775808 ≤ x ∧ x ≤ 9223372036854775807 ∧ -9223372036854775808 ≤ y ∧ y ≤ 9223372036854775807) (h0 : y ≠ 0) (h : xX E J own cc mL k n (pc + 1) lv (vl (x.tmod y) :: st) g m) : xX E J own cc mL k n pc lv (vl y :: vl x :: st) g m := by
  intro p e s mi args below meth c H locs ls hC hW hL hl
  refine lv_lrem hC.1 hC.2.1 hd (fun q => h0 ((rl_eq (a := y) (b := 0) (by omega)).mp q)) ?_
  have e9 : Int64.ofInt x - Int64.ofInt x / Int64.ofInt y * Int64.ofInt y = Int64.ofInt (x.tmod y) := by
    rw [← Int64.ofInt_tdiv (by first | exact (mn32 ▸ hr.1) | exact (mn64 ▸ hr.1)) (by first | exact (mx32 ▸ hr.2.1) | exact (mx64 ▸ hr.2.1)) (by first | exact (mn32 ▸ hr.2.2.1) | exact (mn64 ▸ hr.2.2.1)) (by first | exact (mx32 ▸ hr.2.2.2) | exact (mx64 ▸ hr.2.2.2)), ← Int64.ofInt_mul, ← Int64.ofInt_sub, Int.tmod_def, Int.mul_comm]
  rw [e9]
  exact h p e s mi args below meth c H locs ls hC hW hL hl
theorem x_land {x y z : Int} (hd : decode cc pc = .ok (.land, 1)) (hv : Int64.ofInt x &&& Int64.ofInt y = Int64.ofInt z) (h : xX E J own cc mL k n (pc + 1) lv (vl z :: st) g m) : xX E J own cc mL k n pc lv (vl y :: vl x :: st) g m := by
  intro p e s mi args below meth c H locs ls hC hW hL hl
  refine lv_land hC.1 hC.2.1 hd ?_
  rw [hv]
  exact h p e s mi args below meth c H locs ls hC hW hL hl
theorem x_lor {x y z : Int} (hd : decode cc pc = .ok (.lor, 1)) (hv : Int64.ofInt x ||| Int64.ofInt y = Int64.ofInt z) (h : xX E J own cc mL k n (pc + 1) lv (vl z :: st) g m) : xX E J own cc mL k n pc lv (vl y :: vl x :: st) g m := by
  intro p e s mi args below meth c H locs ls hC hW hL hl
  refine lv_lor hC.1 hC.2.1 hd ?_
  rw [hv]
  exact h p e s mi args below meth c H locs ls hC hW hL hl
theorem x_lxor {x y z : Int} (hd : decode cc pc = .ok (.lxor, 1)) (hv : Int64.ofInt x ^^^ Int64.ofInt y = Int64.ofInt z) (h : xX E J own cc mL k n (pc + 1) lv (vl z :: st) g m) : xX E J own cc mL k n pc lv (vl y :: vl x :: st) g m := by
  intro p e s mi args below meth c H locs ls hC hW hL hl
  refine lv_lxor hC.1 hC.2.1 hd ?_
  rw [hv]
  exact h p e s mi args below meth c H locs ls hC hW hL hl
theorem x_lshl {x y z : Int} (hd : decode cc pc = .ok (.lshl, 1)) (hv : Int64.ofInt x <<< ((Int32.ofInt y).toInt64 &&& 63) = Int64.ofInt z) (h : xX E J own cc mL k n (pc + 1) lv (vl z :: st) g m) : xX E J own cc mL k n pc lv (vi y :: vl x :: st) g m := by
  intro p e s mi args below meth c H locs ls hC hW hL hl
  exact lv_lshl hC.1 hC.2.1 hd hv (h p e s mi args below meth c H locs ls hC hW hL hl)
theorem x_lshr {x y z : Int} (hd : decode cc pc = .ok (.lshr, 1)) (hv : Int64.ofInt x >>> ((Int32.ofInt y).toInt64 &&& 63) = Int64.ofInt z) (h : xX E J own cc mL k n (pc + 1) lv (vl z :: st) g m) : xX E J own cc mL k n pc lv (vi y :: vl x :: st) g m := by
  intro p e s mi args below meth c H locs ls hC hW hL hl
  exact lv_lshr hC.1 hC.2.1 hd hv (h p e s mi args below meth c H locs ls hC hW hL hl)
theorem vr_cat {E : xE} {r : Nat} : (vr E r).category = 1 := by
  unfold vr
  cases xo E r <;> rfl
theorem x_dup {v : Value} (hd : decode cc pc = .ok (.dup, 1)) (hv : v.category = 1) (h : xX E J own cc mL k n (pc + 1) lv (v :: v :: st) g m) : xX E J own cc mL k n pc lv (v :: st) g m := by
  intro p e s mi args below meth c H locs ls hC hW hL hl
  exact lv_dup hC.1 hC.2.1 hd hv (h p e s mi args below meth c H locs ls hC hW hL hl)
theorem x_pop {v : Value} (hd : decode cc pc = .ok (.pop, 1)) (hv : v.category = 1) (h : xX E J own cc mL k n (pc + 1) lv st g m) : xX E J own cc mL k n pc lv (v :: st) g m := by
  intro p e s mi args below meth c H locs ls hC hW hL hl
  exact lv_pop hC.1 hC.2.1 hd hv (h p e s mi args below meth c H locs ls hC hW hL hl)
theorem x_dup2 {v w : Value} (hd : decode cc pc = .ok (.dup2, 1)) (hv : v.category = 1) (hw : w.category = 1) (h : xX E J own cc mL k n (pc + 1) lv (v :: w :: v :: w :: st) g m) : xX E J own cc mL k n pc lv (v :: w :: st) g m := by
  intro p e s mi args below meth c H locs ls hC hW hL hl
  exact lv_dup2_11 hC.1 hC.2.1 hd hv hw (h p e s mi args below meth c H locs ls hC hW hL hl)
theorem x_icmp_eq {x y : Int} {off : Int} {tgt : Nat} (hd : decode cc pc = .ok (.if_icmp .eq off, 3)) (ht : (pc : Int) + off = (tgt : Int)) (hr : -2147483648 ≤ x ∧ x ≤ 2147483647 ∧ -2147483648 ≤ y ∧ y ≤ 2147483647) (kt : x = y → xX E J own cc mL k n tgt lv st g m) (kf : ¬ x = y → xX E J own cc mL k n (pc + 3) lv st g m) : xX E J own cc mL k n pc lv (vi y :: vi x :: st) g m := by
  intro p e s mi args below meth c H locs ls hC hW hL hl
  exact lv_icmp_eq hC.1 hC.2.1 hd ht (fun q => kt ((ri_eq hr).mp q) p e s mi args below meth c H locs ls hC hW hL hl) (fun q => kf (fun z => q ((ri_eq hr).mpr z)) p e s mi args below meth c H locs ls hC hW hL hl)
theorem x_icmp_lt {x y : Int} {off : Int} {tgt : Nat} (hd : decode cc pc = .ok (.if_icmp .lt off, 3)) (ht : (pc : Int) + off = (tgt : Int)) (hr : -2147483648 ≤ x ∧ x ≤ 2147483647 ∧ -2147483648 ≤ y ∧ y ≤ 2147483647) (kt : x < y → xX E J own cc mL k n tgt lv st g m) (kf : ¬ x < y → xX E J own cc mL k n (pc + 3) lv st g m) : xX E J own cc mL k n pc lv (vi y :: vi x :: st) g m := by
  intro p e s mi args below meth c H locs ls hC hW hL hl
  exact lv_icmp_lt hC.1 hC.2.1 hd ht (fun q => kt ((ri_lt hr).mp q) p e s mi args below meth c H locs ls hC hW hL hl) (fun q => kf (fun z => q ((ri_lt hr).mpr z)) p e s mi args below meth c H locs ls hC hW hL hl)
theorem ri_ge {x y : Int} (hr : -2147483648 ≤ x ∧ x ≤ 2147483647 ∧ -2147483648 ≤ y ∧ y ≤ 2147483647) : Int32.ofInt y ≤ Int32.ofInt x ↔ y ≤ x := ri_le (by omega)
theorem ri_gt {x y : Int} (hr : -2147483648 ≤ x ∧ x ≤ 2147483647 ∧ -2147483648 ≤ y ∧ y ≤ 2147483647) : Int32.ofInt y < Int32.ofInt x ↔ y < x := ri_lt (by omega)
theorem ri_0 {x : Int} (hr : -2147483648 ≤ x ∧ x ≤ 2147483647) : Int32.ofInt x = 0 ↔ x = 0 := ri_eq (b := 0) (by omega)
theorem ri_l0 {x : Int} (hr : -2147483648 ≤ x ∧ x ≤ 2147483647) : Int32.ofInt x < 0 ↔ x < 0 := ri_lt (b := 0) (by omega)
theorem ri_g0 {x : Int} (hr : -2147483648 ≤ x ∧ x ≤ 2147483647) : 0 < Int32.ofInt x ↔ 0 < x := ri_lt (a := 0) (by omega)
theorem ri_le0 {x : Int} (hr : -2147483648 ≤ x ∧ x ≤ 2147483647) : Int32.ofInt x ≤ 0 ↔ x ≤ 0 := ri_le (b := 0) (by omega)
theorem ri_ge0 {x : Int} (hr : -2147483648 ≤ x ∧ x ≤ 2147483647) : 0 ≤ Int32.ofInt x ↔ 0 ≤ x := ri_le (a := 0) (by omega)
theorem x_icmp_ge {x y : Int} {off : Int} {tgt : Nat} (hd : decode cc pc = .ok (.if_icmp .ge off, 3)) (ht : (pc : Int) + off = (tgt : Int)) (hr : -2147483648 ≤ x ∧ x ≤ 2147483647 ∧ -2147483648 ≤ y ∧ y ≤ 2147483647) (kt : y ≤ x → xX E J own cc mL k n tgt lv st g m) (kf : ¬ y ≤ x → xX E J own cc mL k n (pc + 3) lv st g m) : xX E J own cc mL k n pc lv (vi y :: vi x :: st) g m := by
  intro p e s mi args below meth c H locs ls hC hW hL hl
  exact lv_icmp_ge hC.1 hC.2.1 hd ht (fun q => kt ((ri_ge hr).mp q) p e s mi args below meth c H locs ls hC hW hL hl) (fun q => kf (fun z => q ((ri_ge hr).mpr z)) p e s mi args below meth c H locs ls hC hW hL hl)
theorem x_icmp_gt {x y : Int} {off : Int} {tgt : Nat} (hd : decode cc pc = .ok (.if_icmp .gt off, 3)) (ht : (pc : Int) + off = (tgt : Int)) (hr : -2147483648 ≤ x ∧ x ≤ 2147483647 ∧ -2147483648 ≤ y ∧ y ≤ 2147483647) (kt : y < x → xX E J own cc mL k n tgt lv st g m) (kf : ¬ y < x → xX E J own cc mL k n (pc + 3) lv st g m) : xX E J own cc mL k n pc lv (vi y :: vi x :: st) g m := by
  intro p e s mi args below meth c H locs ls hC hW hL hl
  exact lv_icmp_gt hC.1 hC.2.1 hd ht (fun q => kt ((ri_gt hr).mp q) p e s mi args below meth c H locs ls hC hW hL hl) (fun q => kf (fun z => q ((ri_gt hr).mpr z)) p e s mi args below meth c H locs ls hC hW hL hl)
theorem x_icmp_le {x y : Int} {off : Int} {tgt : Nat} (hd : decode cc pc = .ok (.if_icmp .le off, 3)) (ht : (pc : Int) + off = (tgt : Int)) (hr : -2147483648 ≤ x ∧ x ≤ 2147483647 ∧ -2147483648 ≤ y ∧ y ≤ 2147483647) (kt : x ≤ y → xX E J own cc mL k n tgt lv st g m) (kf : ¬ x ≤ y → xX E J own cc mL k n (pc + 3) lv st g m) : xX E J own cc mL k n pc lv (vi y :: vi x :: st) g m := by
  intro p e s mi args below meth c H locs ls hC hW hL hl
  exact lv_icmp_le hC.1 hC.2.1 hd ht (fun q => kt ((ri_le hr).mp q) p e s mi args below meth c H locs ls hC hW hL hl) (fun q => kf (fun z => q ((ri_le hr).mpr z)) p e s mi args below meth c H locs ls hC hW hL hl)
theorem x_if_eq {x : Int} {off : Int} {tgt : Nat} (hd : decode cc pc = .ok (.ifCond .eq off, 3)) (ht : (pc : Int) + off = (tgt : Int)) (hr : -2147483648 ≤ x ∧ x ≤ 2147483647) (kt : x = 0 → xX E J own cc mL k n tgt lv st g m) (kf : ¬ x = 0 → xX E J own cc mL k n (pc + 3) lv st g m) : xX E J own cc mL k n pc lv (vi x :: st) g m := by
  intro p e s mi args below meth c H locs ls hC hW hL hl
  exact lv_if_eq hC.1 hC.2.1 hd ht (fun q => kt ((ri_0 hr).mp q) p e s mi args below meth c H locs ls hC hW hL hl) (fun q => kf (fun z => q ((ri_0 hr).mpr z)) p e s mi args below meth c H locs ls hC hW hL hl)
theorem x_if_lt {x : Int} {off : Int} {tgt : Nat} (hd : decode cc pc = .ok (.ifCond .lt off, 3)) (ht : (pc : Int) + off = (tgt : Int)) (hr : -2147483648 ≤ x ∧ x ≤ 2147483647) (kt : x < 0 → xX E J own cc mL k n tgt lv st g m) (kf : ¬ x < 0 → xX E J own cc mL k n (pc + 3) lv st g m) : xX E J own cc mL k n pc lv (vi x :: st) g m := by
  intro p e s mi args below meth c H locs ls hC hW hL hl
  exact lv_if_lt hC.1 hC.2.1 hd ht (fun q => kt ((ri_l0 hr).mp q) p e s mi args below meth c H locs ls hC hW hL hl) (fun q => kf (fun z => q ((ri_l0 hr).mpr z)) p e s mi args below meth c H locs ls hC hW hL hl)
theorem x_if_ge {x : Int} {off : Int} {tgt : Nat} (hd : decode cc pc = .ok (.ifCond .ge off, 3)) (ht : (pc : Int) + off = (tgt : Int)) (hr : -2147483648 ≤ x ∧ x ≤ 2147483647) (kt : 0 ≤ x → xX E J own cc mL k n tgt lv st g m) (kf : ¬ 0 ≤ x → xX E J own cc mL k n (pc + 3) lv st g m) : xX E J own cc mL k n pc lv (vi x :: st) g m := by
  intro p e s mi args below meth c H locs ls hC hW hL hl
  exact lv_if_ge hC.1 hC.2.1 hd ht (fun q => kt ((ri_ge0 hr).mp q) p e s mi args below meth c H locs ls hC hW hL hl) (fun q => kf (fun z => q ((ri_ge0 hr).mpr z)) p e s mi args below meth c H locs ls hC hW hL hl)
theorem x_if_gt {x : Int} {off : Int} {tgt : Nat} (hd : decode cc pc = .ok (.ifCond .gt off, 3)) (ht : (pc : Int) + off = (tgt : Int)) (hr : -2147483648 ≤ x ∧ x ≤ 2147483647) (kt : 0 < x → xX E J own cc mL k n tgt lv st g m) (kf : ¬ 0 < x → xX E J own cc mL k n (pc + 3) lv st g m) : xX E J own cc mL k n pc lv (vi x :: st) g m := by
  intro p e s mi args below meth c H locs ls hC hW hL hl
  exact lv_if_gt hC.1 hC.2.1 hd ht (fun q => kt ((ri_g0 hr).mp q) p e s mi args below meth c H locs ls hC hW hL hl) (fun q => kf (fun z => q ((ri_g0 hr).mpr z)) p e s mi args below meth c H locs ls hC hW hL hl)
theorem x_if_le {x : Int} {off : Int} {tgt : Nat} (hd : decode cc pc = .ok (.ifCond .le off, 3)) (ht : (pc : Int) + off = (tgt : Int)) (hr : -2147483648 ≤ x ∧ x ≤ 2147483647) (kt : x ≤ 0 → xX E J own cc mL k n tgt lv st g m) (kf : ¬ x ≤ 0 → xX E J own cc mL k n (pc + 3) lv st g m) : xX E J own cc mL k n pc lv (vi x :: st) g m := by
  intro p e s mi args below meth c H locs ls hC hW hL hl
  exact lv_if_le hC.1 hC.2.1 hd ht (fun q => kt ((ri_le0 hr).mp q) p e s mi args below meth c H locs ls hC hW hL hl) (fun q => kf (fun z => q ((ri_le0 hr).mpr z)) p e s mi args below meth c H locs ls hC hW hL hl)
theorem x_icmp_ne {x y : Int} {off : Int} {tgt : Nat} (hd : decode cc pc = .ok (.if_icmp .ne off, 3)) (ht : (pc : Int) + off = (tgt : Int)) (hr : -2147483648 ≤ x ∧ x ≤ 2147483647 ∧ -2147483648 ≤ y ∧ y ≤ 2147483647) (kt : ¬ x = y → xX E J own cc mL k n tgt lv st g m) (kf : x = y → xX E J own cc mL k n (pc + 3) lv st g m) : xX E J own cc mL k n pc lv (vi y :: vi x :: st) g m := by
  intro p e s mi args below meth c H locs ls hC hW hL hl
  exact lv_icmp_ne hC.1 hC.2.1 hd ht (fun q => kt (fun z => q ((ri_eq hr).mpr z)) p e s mi args below meth c H locs ls hC hW hL hl) (fun q => kf ((ri_eq hr).mp q) p e s mi args below meth c H locs ls hC hW hL hl)
theorem x_if_ne {x : Int} {off : Int} {tgt : Nat} (hd : decode cc pc = .ok (.ifCond .ne off, 3)) (ht : (pc : Int) + off = (tgt : Int)) (hr : -2147483648 ≤ x ∧ x ≤ 2147483647) (kt : ¬ x = 0 → xX E J own cc mL k n tgt lv st g m) (kf : x = 0 → xX E J own cc mL k n (pc + 3) lv st g m) : xX E J own cc mL k n pc lv (vi x :: st) g m := by
  intro p e s mi args below meth c H locs ls hC hW hL hl
  exact lv_if_ne hC.1 hC.2.1 hd ht (fun q => kt (fun z => q ((ri_0 hr).mpr z)) p e s mi args below meth c H locs ls hC hW hL hl) (fun q => kf ((ri_0 hr).mp q) p e s mi args below meth c H locs ls hC hW hL hl)
/-- the comparison of longs, as a number -/
def cmpL (x y : Int) : Int := if y < x then 1 else if x = y then 0 else -1
theorem cmpL_ok {x y : Int} (hr : -9223372036854775808 ≤ x ∧ x ≤ 9223372036854775807 ∧ -9223372036854775808 ≤ y ∧ y ≤ 9223372036854775807) : lg_cmp (Int64.ofInt x) (Int64.ofInt y) = Int32.ofInt (cmpL x y) := by
  unfold lg_cmp cmpL
  by_cases h1 : y < x
  · rw [if_pos h1, if_pos ((rl_lt (a := y) (b := x) (by omega)).mpr h1)]; rfl
  · rw [if_neg h1, if_neg (fun q => h1 ((rl_lt (a := y) (b := x) (by omega)).mp q))]
    by_cases h2 : x = y
    · rw [if_pos h2, if_pos ((rl_eq hr).mpr h2)]; rfl
    · rw [if_neg h2, if_neg (fun q => h2 ((rl_eq hr).mp q))]; rfl
theorem cmpL_r (x y : Int) : -2147483648 ≤ cmpL x y ∧ cmpL x y ≤ 2147483647 := by unfold cmpL; split <;> (try split) <;> omega
theorem cmpL_lt {x y : Int} : cmpL x y < 0 ↔ x < y := by unfold cmpL; split <;> (try split) <;> omega
theorem cmpL_ge {x y : Int} : 0 ≤ cmpL x y ↔ y ≤ x := by unfold cmpL; split <;> (try split) <;> omega
theorem cmpL_gt {x y : Int} : 0 < cmpL x y ↔ y < x := by unfold cmpL; split <;> (try split) <;> omega
theorem cmpL_le {x y : Int} : cmpL x y ≤ 0 ↔ x ≤ y := by unfold cmpL; split <;> (try split) <;> omega
theorem cmpL_eq {x y : Int} : cmpL x y = 0 ↔ x = y := by unfold cmpL; split <;> (try split) <;> omega
theorem x_lcmp {x y : Int} (hd : decode cc pc = .ok (.lcmp, 1)) (hr : -9223372036854775808 ≤ x ∧ x ≤ 9223372036854775807 ∧ -9223372036854775808 ≤ y ∧ y ≤ 9223372036854775807) (h : xX E J own cc mL k n (pc + 1) lv (vi (cmpL x y) :: st) g m) : xX E J own cc mL k n pc lv (vl y :: vl x :: st) g m := by
  intro p e s mi args below meth c H locs ls hC hW hL hl
  refine W.lcmp hC.1 hC.2.1 hd ?_
  rw [cmpL_ok hr]
  exact h p e s mi args below meth c H locs ls hC hW hL hl
theorem x_llt {x y : Int} {off : Int} {tgt : Nat} (hd1 : decode cc pc = .ok (.lcmp, 1)) (hd : decode cc (pc + 1) = .ok (.ifCond .lt off, 3)) (ht : ((pc + 1 : Nat) : Int) + off = (tgt : Int)) (hr : -9223372036854775808 ≤ x ∧ x ≤ 9223372036854775807 ∧ -9223372036854775808 ≤ y ∧ y ≤ 9223372036854775807) (kt : x < y → xX E J own cc mL k n tgt lv st g m) (kf : ¬ x < y → xX E J own cc mL k n (pc + 4) lv st g m) : xX E J own cc mL k n pc lv (vl y :: vl x :: st) g m :=
  x_lcmp hd1 hr (x_if_lt hd ht (cmpL_r x y) (fun q => kt (cmpL_lt.mp q)) (fun q => kf (fun z => q (cmpL_lt.mpr z))))
theorem x_lge {x y : Int} {off : Int} {tgt : Nat} (hd1 : decode cc pc = .ok (.lcmp, 1)) (hd : decode cc (pc + 1) = .ok (.ifCond .ge off, 3)) (ht : ((pc + 1 : Nat) : Int) + off = (tgt : Int)) (hr : -9223372036854775808 ≤ x ∧ x ≤ 9223372036854775807 ∧ -9223372036854775808 ≤ y ∧ y ≤ 9223372036854775807) (kt : y ≤ x → xX E J own cc mL k n tgt lv st g m) (kf : ¬ y ≤ x → xX E J own cc mL k n (pc + 4) lv st g m) : xX E J own cc mL k n pc lv (vl y :: vl x :: st) g m :=
  x_lcmp hd1 hr (x_if_ge hd ht (cmpL_r x y) (fun q => kt (cmpL_ge.mp q)) (fun q => kf (fun z => q (cmpL_ge.mpr z))))
theorem x_lgt {x y : Int} {off : Int} {tgt : Nat} (hd1 : decode cc pc = .ok (.lcmp, 1)) (hd : decode cc (pc + 1) = .ok (.ifCond .gt off, 3)) (ht : ((pc + 1 : Nat) : Int) + off = (tgt : Int)) (hr : -9223372036854775808 ≤ x ∧ x ≤ 9223372036854775807 ∧ -9223372036854775808 ≤ y ∧ y ≤ 9223372036854775807) (kt : y < x → xX E J own cc mL k n tgt lv st g m) (kf : ¬ y < x → xX E J own cc mL k n (pc + 4) lv st g m) : xX E J own cc mL k n pc lv (vl y :: vl x :: st) g m :=
  x_lcmp hd1 hr (x_if_gt hd ht (cmpL_r x y) (fun q => kt (cmpL_gt.mp q)) (fun q => kf (fun z => q (cmpL_gt.mpr z))))
theorem x_lle {x y : Int} {off : Int} {tgt : Nat} (hd1 : decode cc pc = .ok (.lcmp, 1)) (hd : decode cc (pc + 1) = .ok (.ifCond .le off, 3)) (ht : ((pc + 1 : Nat) : Int) + off = (tgt : Int)) (hr : -9223372036854775808 ≤ x ∧ x ≤ 9223372036854775807 ∧ -9223372036854775808 ≤ y ∧ y ≤ 9223372036854775807) (kt : x ≤ y → xX E J own cc mL k n tgt lv st g m) (kf : ¬ x ≤ y → xX E J own cc mL k n (pc + 4) lv st g m) : xX E J own cc mL k n pc lv (vl y :: vl x :: st) g m :=
  x_lcmp hd1 hr (x_if_le hd ht (cmpL_r x y) (fun q => kt (cmpL_le.mp q)) (fun q => kf (fun z => q (cmpL_le.mpr z))))
theorem x_leq {x y : Int} {off : Int} {tgt : Nat} (hd1 : decode cc pc = .ok (.lcmp, 1)) (hd : decode cc (pc + 1) = .ok (.ifCond .eq off, 3)) (ht : ((pc + 1 : Nat) : Int) + off = (tgt : Int)) (hr : -9223372036854775808 ≤ x ∧ x ≤ 9223372036854775807 ∧ -9223372036854775808 ≤ y ∧ y ≤ 9223372036854775807) (kt : x = y → xX E J own cc mL k n tgt lv st g m) (kf : ¬ x = y → xX E J own cc mL k n (pc + 4) lv st g m) : xX E J own cc mL k n pc lv (vl y :: vl x :: st) g m :=
  x_lcmp hd1 hr (x_if_eq hd ht (cmpL_r x y) (fun q => kt (cmpL_eq.mp q)) (fun q => kf (fun z => q (cmpL_eq.mpr z))))
theorem x_lne {x y : Int} {off : Int} {tgt : Nat} (hd1 : decode cc pc = .ok (.lcmp, 1)) (hd : decode cc (pc + 1) = .ok (.ifCond .ne off, 3)) (ht : ((pc + 1 : Nat) : Int) + off = (tgt : Int)) (hr : -9223372036854775808 ≤ x ∧ x ≤ 9223372036854775807 ∧ -9223372036854775808 ≤ y ∧ y ≤ 9223372036854775807) (kt : ¬ x = y → xX E J own cc mL k n tgt lv st g m) (kf : x = y → xX E J own cc mL k n (pc + 4) lv st g m) : xX E J own cc mL k n pc lv (vl y :: vl x :: st) g m :=
  x_lcmp hd1 hr (x_if_ne hd ht (cmpL_r x y) (fun q => kt (fun z => q (cmpL_eq.mpr z))) (fun q => kf (cmpL_eq.mp q)))
theorem x_goto {off : Int} {tgt : Nat} (hd : decode cc pc = .ok (.goto off, 3)) (ht : (pc : Int) + off = (tgt : Int)) (h : xX E J own cc mL k n tgt lv st g m) : xX E J own cc mL k n pc lv st g m := by
  intro p e s mi args below meth c H locs ls hC hW hL hl
  exact lv_goto hC.1 hC.2.1 hd ht (h p e s mi args below meth c H locs ls hC hW hL hl)
theorem x_tswIn {x dflt lo hi off : Int} {offs : Array Int} {len tgt : Nat} (hd : decode cc pc = .ok (.tableswitch dflt lo hi offs, len)) (hr : -2147483648 ≤ x ∧ x ≤ 2147483647) (h1 : lo ≤ x) (h2 : x ≤ hi) (ho : offs[(x - lo).toNat]? = some off) (ht : (pc : Int) + off = (tgt : Int)) (h : xX E J own cc mL k n tgt lv st g m) : xX E J own cc mL k n pc lv (vi x :: st) g m := by
  intro p e s mi args below meth c H locs ls hC hW hL hl
  have e1 := ri_to hr
  exact lv_tableIn hC.1 hC.2.1 hd (by rw [e1]; omega) (by rw [e1]; omega) (by rw [e1]; exact ho) ht (h p e s mi args below meth c H locs ls hC hW hL hl)
theorem x_tswOut {x dflt lo hi : Int} {offs : Array Int} {len tgt : Nat} (hd : decode cc pc = .ok (.tableswitch dflt lo hi offs, len)) (hr : -2147483648 ≤ x ∧ x ≤ 2147483647) (h1 : x < lo ∨ hi < x) (ht : (pc : Int) + dflt = (tgt : Int)) (h : xX E J own cc mL k n tgt lv st g m) : xX E J own cc mL k n pc lv (vi x :: st) g m := by
  intro p e s mi args below meth c H locs ls hC hW hL hl
  have e1 := ri_to hr
  exact lv_tableOut hC.1 hC.2.1 hd (by rw [e1]; exact h1) ht (h p e s mi args below meth c H locs ls hC hW hL hl)
end XR
