section EN
theorem o8 : ∀ a : Nat, a < 8 → ∀ b : Nat, b < 8 → Int32.ofNat a = Int32.ofNat b → a = b := by decide +kernel
/-- the strings of the words: by their places, apart by what they hold -/
theorem vy_Sof {args : Array Value} {s : State} {N : Nat} {tm : Nat → Term} {len : List Nat} {byt : List (List Int32)} {A : Nat → Prop} (hN : ∀ i : Nat, i < N → len.getD i 0 < 8) (hex : ∀ i : Nat, i < N → (Cond.exactly (tm i) "java/lang/String").before args s = true) (hco : ∀ i : Nat, i < N → (Cond.eq (.field (tm i) "java/lang/String" "coder" "B") (.int 0)).before args s = true)
    (har : ∀ i : Nat, i < N → (Cond.arrayOf (.field (tm i) "java/lang/String" "value" "[B") .byte).before args s = true) (hle : ∀ i : Nat, i < N → (Cond.eq (.length (.field (tm i) "java/lang/String" "value" "[B")) (.int (Int32.ofNat (len.getD i 0)))).before args s = true)
    (hel : ∀ i : Nat, i < N → ∀ j : Nat, j < len.getD i 0 → (Cond.eq (.elem (.field (tm i) "java/lang/String" "value" "[B") (.int (Int32.ofNat j))) (.int ((byt.getD i []).getD j 0))).before args s = true)
    (hdf : ∀ i j : Nat, i < N → j < N → i ≠ j → len.getD i 0 = len.getD j 0 → ∃ k, k < len.getD i 0 ∧ (byt.getD i []).getD k 0 ≠ (byt.getD j []).getD k 0) (hA : ∀ a : Nat, a < s.heap.size → ¬ A a) :
    ∃ adK adV : Nat → Nat, vk_S N len byt adK adV A s s.heap ∧ (∀ i : Nat, i < N → (tm i).eval args s none [] s = some (.ref (adK i))) ∧ ∀ i, i < N → adK i < s.heap.size ∧ adV i < s.heap.size := by
  have h0 : ∀ i : Nat, ∃ q : Nat × Nat, i < N → (tm i).eval args s none [] s = some (.ref q.1) ∧ va_O "java/lang/String" q.1 A s s.heap ∧ va_OF "java/lang/String" "coder" "B" (.int 0) q.1 A s s.heap ∧ va_OF "java/lang/String" "value" "[B" (.ref q.2) q.1 A s s.heap ∧ va_T .byte q.2 (len.getD i 0) (fun j => .int ((byt.getD i []).getD j 0)) A s s.heap := by
    intro i
    by_cases hi : i < N
    · obtain ⟨a, c, cA, kA, q1, q2, q3, q4, q5, q6, -⟩ := Cond.exactly_spec (args := args) (first := s) (o := none) (s := s) (idx := []) (t := tm i) (cls := "java/lang/String") (hex i hi)
      obtain ⟨t, ht, hT⟩ := va_Tof (f := fun j => .int ((byt.getD i []).getD j 0)) (A := A) (by have := hN i hi; omega) (har i hi) (va_eqt (hle i hi)) (fun j hj => va_eqt (hel i hi j hj)) hA
      exact ⟨(a, t), fun _ => ⟨q1, ⟨cA, q3, q5, by rw [q6]; exact q2, hA a (Array.getElem?_eq_some_iff.mp q3).1⟩, vk_OFof q1 (va_eqt (hco i hi)) hA, vk_OFof q1 ht hA, hT⟩⟩
    · exact ⟨(0, 0), fun h => absurd h hi⟩
  obtain ⟨ad, had⟩ := Classical.axiomOfChoice h0
  refine ⟨fun i => (ad i).1, fun i => (ad i).2, ⟨fun i hi => (had i hi).2, fun i j hi hj e => ?_⟩, fun i hi => (had i hi).1, fun i hi => ?_⟩
  · apply Classical.byContradiction
    intro hij
    obtain ⟨-, -, -, ⟨cf, k, i9, f, cell, f1, f2, f3, f4, f5, -⟩, ⟨c2, g1, g2, g3, g4, g5, g6, -⟩⟩ := had i hi
    obtain ⟨-, -, -, ⟨cf', k', i9', f', cell', f1', f2', f3', f4', f5', -⟩, ⟨c2', g1', g2', g3', g4', g5', g6', -⟩⟩ := had j hj
    have e : (ad i).1 = (ad j).1 := e
    rw [f1] at f1'
    cases f1'
    rw [← e, f3] at f3'
    cases f3'
    rw [f5] at f5'
    have ev : (ad i).2 = (ad j).2 := Value.ref.inj (Option.some.inj f5')
    rw [← ev, g1] at g1'
    cases g1'
    have hl := o8 _ (hN i hi) _ (hN j hj) (g5.symm.trans g5')
    obtain ⟨q, hq, hne⟩ := hdf i j hi hj hij hl
    have h1 := g6 q hq
    rw [g6' q (by omega)] at h1
    simp only [Option.some.injEq, Value.int.injEq] at h1
    exact hne h1.symm
  · obtain ⟨-, ⟨cell, h1, -⟩, -, -, ⟨c2, h2, -⟩⟩ := had i hi
    exact ⟨(Array.getElem?_eq_some_iff.mp h1).1, (Array.getElem?_eq_some_iff.mp h2).1⟩
theorem vy_eqR {args : Array Value} {s : State} {t u : Term} {a b : Nat} (h : (Cond.eq t u).before args s = true) (ht : t.eval args s none [] s = some (.ref a)) (hu : u.eval args s none [] s = some (.ref b)) : b = a := by
  simp [Cond.before, Cond.holds, Cond.value, ht, hu] at h
  exact h.symm
theorem arrOf_c {s : State} {args : Array Value} {ty : FieldType} (h : (Cond.arrayClass ty).before args s = true) : ∃ cA, ArrOfT s cA ty ∧ s.vm.findClass ("[" ++ ty.toString) = some cA := by
  obtain ⟨cA, k, comp, h1, h2, h3⟩ := Cond.arrayClass_spec h
  exact ⟨cA, fun n z => ⟨fun k' h' => (nomatch h'), k, h2, comp, h3⟩, h1⟩
theorem vy_of {args : Array Value} {s : State} {tm : Term} {N : Nat} {f : Nat → Int32} {A : Nat → Prop} (hN : N < 2 ^ 31) (harr : (Cond.arrayOf tm .int).before args s = true) (hlen : (Cond.eq (.length tm) (.int (Int32.ofNat N))).before args s = true) (hel : ∀ j : Nat, j < N → (Cond.eq (.elem tm (.int (Int32.ofNat j))) (.int (f j))).before args s = true) (hA : ∀ a : Nat, a < s.heap.size → ¬ A a) : ∃ t : Nat, tm.eval args s none [] s = some (.ref t) ∧ vy_X t N f s s.heap ∧ t < s.heap.size := by
  obtain ⟨t, ht, cell, h1, h2, h3, h4, h5, h6, -⟩ := va_Tof (ty := .int) (f := fun j => .int (f j)) (A := A) hN harr (va_eqt hlen) (fun j hj => va_eqt (hel j hj)) hA
  exact ⟨t, ht, ⟨cell, h1, h2, h3, ⟨h4, h5⟩, h6⟩, (Array.getElem?_eq_some_iff.mp h1).1⟩
theorem str_a {s : State} {args : Array Value} {t : Term} {n : String} (h : (Cond.exactly t n).before args s = true) : ∃ a, t.eval args s none [] s = some (.ref a) ∧ a < s.heap.size := by
  obtain ⟨a, c, cell, k, q1, -, q3, -⟩ := Cond.exactly_spec (args := args) (first := s) (o := none) (s := s) (idx := []) (t := t) (cls := n) h
  exact ⟨a, q1, (Array.getElem?_eq_some_iff.mp q3).1⟩
theorem i_X0 : ∀ w ∈ u_ws RX0 TX0 12, w ∈ lw_tbl := by decide +kernel
theorem i_X1 : ∀ w ∈ u_ws RX1 TX1 3, w ∈ lw_tbl := by decide +kernel
theorem i_X2 : ∀ w ∈ u_ws RX2 TX2 10, w ∈ lw_tbl := by decide +kernel
theorem i_X3 : ∀ w ∈ u_ws RX3 TX3 10, w ∈ lw_tbl := by decide +kernel
theorem i_X4 : ∀ w ∈ u_ws RX4 TX4 3, w ∈ lw_tbl := by decide +kernel
theorem i_X5 : ∀ w ∈ u_ws RX5 TX5 12, w ∈ lw_tbl := by decide +kernel
theorem i_X6 : ∀ w ∈ u_ws RX6 TX6 27, w ∈ lw_tbl := by decide +kernel
def wtm (i : Nat) : Term := .string RX3 ([74, 96, 101, 147, 106, 158, 111, 179, 181, 183, 185, 116, 120].getD i 0)
def w6 (i : Nat) : Nat := [200, 168, 177, 158, 182, 163, 187, 144, 149, 151, 153, 192, 194].getD i 0

theorem w_df0 : ∀ i : Nat, i < 13 → ∀ j : Nat, j < 13 → i ≠ j → xwl.getD i 0 = xwl.getD j 0 → ((List.range (xwl.getD i 0)).any fun k => decide ((xwb.getD i []).getD k 0 ≠ (xwb.getD j []).getD k 0)) = true := by decide +kernel
theorem w_df (i : Nat) (hi : i < 13) (j : Nat) (hj : j < 13) (hij : i ≠ j) (he : xwl.getD i 0 = xwl.getD j 0) : ∃ k, k < xwl.getD i 0 ∧ (xwb.getD i []).getD k 0 ≠ (xwb.getD j []).getD k 0 := by
  obtain ⟨k, hk, hd⟩ := List.any_eq_true.mp (w_df0 i hi j hj hij he)
  exact ⟨k, List.mem_range.mp hk, of_decide_eq_true hd⟩
theorem w_all {s : State} {b : Nat} (hs : ∀ c ∈ flatC (Jvm.Cond.and given_1 narrow_1), c.before #[Value.ref b] s = true) (hA : ∀ a : Nat, a < s.heap.size → ¬ (fun q : Nat => s.heap.size ≤ q) a) : ∃ adK adV : Nat → Nat, vk_S 13 xwl xwb adK adV (fun q => s.heap.size ≤ q) s s.heap ∧ (∀ i : Nat, i < 13 → (wtm i).eval #[Value.ref b] s none [] s = some (.ref (adK i)) ∧ (Term.string RX6 (w6 i)).eval #[Value.ref b] s none [] s = some (.ref (adK i))) ∧ ∀ i, i < 13 → adK i < s.heap.size ∧ adV i < s.heap.size := by
  obtain ⟨adK, adV, h1, h2, h3⟩ := vy_Sof (N := 13) (tm := wtm) (len := xwl) (byt := xwb) (args := #[Value.ref b]) (s := s) (A := fun q => s.heap.size ≤ q) (by decide)
   (fun i hi => by
    match i, hi with
    | 0, _ => exact hs _ (by decide +kernel)
    | 1, _ => exact hs _ (by decide +kernel)
    | 2, _ => exact hs _ (by decide +kernel)
    | 3, _ => exact hs _ (by decide +kernel)
    | 4, _ => exact hs _ (by decide +kernel)
    | 5, _ => exact hs _ (by decide +kernel)
    | 6, _ => exact hs _ (by decide +kernel)
    | 7, _ => exact hs _ (by decide +kernel)
    | 8, _ => exact hs _ (by decide +kernel)
    | 9, _ => exact hs _ (by decide +kernel)
    | 10, _ => exact hs _ (by decide +kernel)
    | 11, _ => exact hs _ (by decide +kernel)
    | 12, _ => exact hs _ (by decide +kernel)
    | n + 13, h => exact absurd h (by omega))
   (fun i hi => by
    match i, hi with
    | 0, _ => exact hs _ (by decide +kernel)
    | 1, _ => exact hs _ (by decide +kernel)
    | 2, _ => exact hs _ (by decide +kernel)
    | 3, _ => exact hs _ (by decide +kernel)
    | 4, _ => exact hs _ (by decide +kernel)
    | 5, _ => exact hs _ (by decide +kernel)
    | 6, _ => exact hs _ (by decide +kernel)
    | 7, _ => exact hs _ (by decide +kernel)
    | 8, _ => exact hs _ (by decide +kernel)
    | 9, _ => exact hs _ (by decide +kernel)
    | 10, _ => exact hs _ (by decide +kernel)
    | 11, _ => exact hs _ (by decide +kernel)
    | 12, _ => exact hs _ (by decide +kernel)
    | n + 13, h => exact absurd h (by omega))
   (fun i hi => by
    match i, hi with
    | 0, _ => exact hs _ (by decide +kernel)
    | 1, _ => exact hs _ (by decide +kernel)
    | 2, _ => exact hs _ (by decide +kernel)
    | 3, _ => exact hs _ (by decide +kernel)
    | 4, _ => exact hs _ (by decide +kernel)
    | 5, _ => exact hs _ (by decide +kernel)
    | 6, _ => exact hs _ (by decide +kernel)
    | 7, _ => exact hs _ (by decide +kernel)
    | 8, _ => exact hs _ (by decide +kernel)
    | 9, _ => exact hs _ (by decide +kernel)
    | 10, _ => exact hs _ (by decide +kernel)
    | 11, _ => exact hs _ (by decide +kernel)
    | 12, _ => exact hs _ (by decide +kernel)
    | n + 13, h => exact absurd h (by omega))
   (fun i hi => by
    match i, hi with
    | 0, _ => exact hs _ (by decide +kernel)
    | 1, _ => exact hs _ (by decide +kernel)
    | 2, _ => exact hs _ (by decide +kernel)
    | 3, _ => exact hs _ (by decide +kernel)
    | 4, _ => exact hs _ (by decide +kernel)
    | 5, _ => exact hs _ (by decide +kernel)
    | 6, _ => exact hs _ (by decide +kernel)
    | 7, _ => exact hs _ (by decide +kernel)
    | 8, _ => exact hs _ (by decide +kernel)
    | 9, _ => exact hs _ (by decide +kernel)
    | 10, _ => exact hs _ (by decide +kernel)
    | 11, _ => exact hs _ (by decide +kernel)
    | 12, _ => exact hs _ (by decide +kernel)
    | n + 13, h => exact absurd h (by omega))
   (fun i hi j hj => by
    match i, hi, j, hj with
    | 0, _, 0, _ => exact hs _ (by decide +kernel)
    | 0, _, 1, _ => exact hs _ (by decide +kernel)
    | 0, _, 2, _ => exact hs _ (by decide +kernel)
    | 0, _, 3, _ => exact hs _ (by decide +kernel)
    | 0, _, n + 4, h => exact absurd h (by show ¬ n + 4 < 4; omega)
    | 1, _, 0, _ => exact hs _ (by decide +kernel)
    | 1, _, 1, _ => exact hs _ (by decide +kernel)
    | 1, _, 2, _ => exact hs _ (by decide +kernel)
    | 1, _, 3, _ => exact hs _ (by decide +kernel)
    | 1, _, n + 4, h => exact absurd h (by show ¬ n + 4 < 4; omega)
    | 2, _, 0, _ => exact hs _ (by decide +kernel)
    | 2, _, 1, _ => exact hs _ (by decide +kernel)
    | 2, _, 2, _ => exact hs _ (by decide +kernel)
    | 2, _, n + 3, h => exact absurd h (by show ¬ n + 3 < 3; omega)
    | 3, _, 0, _ => exact hs _ (by decide +kernel)
    | 3, _, 1, _ => exact hs _ (by decide +kernel)
    | 3, _, 2, _ => exact hs _ (by decide +kernel)
    | 3, _, n + 3, h => exact absurd h (by show ¬ n + 3 < 3; omega)
    | 4, _, 0, _ => exact hs _ (by decide +kernel)
    | 4, _, 1, _ => exact hs _ (by decide +kernel)
    | 4, _, 2, _ => exact hs _ (by decide +kernel)
    | 4, _, 3, _ => exact hs _ (by decide +kernel)
    | 4, _, n + 4, h => exact absurd h (by show ¬ n + 4 < 4; omega)
    | 5, _, 0, _ => exact hs _ (by decide +kernel)
    | 5, _, 1, _ => exact hs _ (by decide +kernel)
    | 5, _, 2, _ => exact hs _ (by decide +kernel)
    | 5, _, n + 3, h => exact absurd h (by show ¬ n + 3 < 3; omega)
    | 6, _, 0, _ => exact hs _ (by decide +kernel)
    | 6, _, 1, _ => exact hs _ (by decide +kernel)
    | 6, _, 2, _ => exact hs _ (by decide +kernel)
    | 6, _, 3, _ => exact hs _ (by decide +kernel)
    | 6, _, 4, _ => exact hs _ (by decide +kernel)
    | 6, _, n + 5, h => exact absurd h (by show ¬ n + 5 < 5; omega)
    | 7, _, 0, _ => exact hs _ (by decide +kernel)
    | 7, _, 1, _ => exact hs _ (by decide +kernel)
    | 7, _, 2, _ => exact hs _ (by decide +kernel)
    | 7, _, 3, _ => exact hs _ (by decide +kernel)
    | 7, _, 4, _ => exact hs _ (by decide +kernel)
    | 7, _, n + 5, h => exact absurd h (by show ¬ n + 5 < 5; omega)
    | 8, _, 0, _ => exact hs _ (by decide +kernel)
    | 8, _, 1, _ => exact hs _ (by decide +kernel)
    | 8, _, 2, _ => exact hs _ (by decide +kernel)
    | 8, _, 3, _ => exact hs _ (by decide +kernel)
    | 8, _, 4, _ => exact hs _ (by decide +kernel)
    | 8, _, n + 5, h => exact absurd h (by show ¬ n + 5 < 5; omega)
    | 9, _, 0, _ => exact hs _ (by decide +kernel)
    | 9, _, 1, _ => exact hs _ (by decide +kernel)
    | 9, _, 2, _ => exact hs _ (by decide +kernel)
    | 9, _, 3, _ => exact hs _ (by decide +kernel)
    | 9, _, 4, _ => exact hs _ (by decide +kernel)
    | 9, _, 5, _ => exact hs _ (by decide +kernel)
    | 9, _, 6, _ => exact hs _ (by decide +kernel)
    | 9, _, n + 7, h => exact absurd h (by show ¬ n + 7 < 7; omega)
    | 10, _, 0, _ => exact hs _ (by decide +kernel)
    | 10, _, 1, _ => exact hs _ (by decide +kernel)
    | 10, _, 2, _ => exact hs _ (by decide +kernel)
    | 10, _, 3, _ => exact hs _ (by decide +kernel)
    | 10, _, 4, _ => exact hs _ (by decide +kernel)
    | 10, _, n + 5, h => exact absurd h (by show ¬ n + 5 < 5; omega)
    | 11, _, 0, _ => exact hs _ (by decide +kernel)
    | 11, _, 1, _ => exact hs _ (by decide +kernel)
    | 11, _, 2, _ => exact hs _ (by decide +kernel)
    | 11, _, n + 3, h => exact absurd h (by show ¬ n + 3 < 3; omega)
    | 12, _, 0, _ => exact hs _ (by decide +kernel)
    | 12, _, 1, _ => exact hs _ (by decide +kernel)
    | 12, _, 2, _ => exact hs _ (by decide +kernel)
    | 12, _, 3, _ => exact hs _ (by decide +kernel)
    | 12, _, 4, _ => exact hs _ (by decide +kernel)
    | 12, _, n + 5, h => exact absurd h (by show ¬ n + 5 < 5; omega)
    | n + 13, h, _, _ => exact absurd h (by omega))
   (fun i j hi hj hij he => w_df i hi j hj hij he) hA
  refine ⟨adK, adV, h1, fun i hi => ⟨h2 i hi, ?_⟩, h3⟩
  have h6 : (Cond.exactly (Term.string RX6 (w6 i)) "java/lang/String").before #[Value.ref b] s = true ∧ (Cond.eq (wtm i) (Term.string RX6 (w6 i))).before #[Value.ref b] s = true := by
    match i, hi with
    | 0, _ => exact ⟨hs _ (by decide +kernel), hs _ (by decide +kernel)⟩
    | 1, _ => exact ⟨hs _ (by decide +kernel), hs _ (by decide +kernel)⟩
    | 2, _ => exact ⟨hs _ (by decide +kernel), hs _ (by decide +kernel)⟩
    | 3, _ => exact ⟨hs _ (by decide +kernel), hs _ (by decide +kernel)⟩
    | 4, _ => exact ⟨hs _ (by decide +kernel), hs _ (by decide +kernel)⟩
    | 5, _ => exact ⟨hs _ (by decide +kernel), hs _ (by decide +kernel)⟩
    | 6, _ => exact ⟨hs _ (by decide +kernel), hs _ (by decide +kernel)⟩
    | 7, _ => exact ⟨hs _ (by decide +kernel), hs _ (by decide +kernel)⟩
    | 8, _ => exact ⟨hs _ (by decide +kernel), hs _ (by decide +kernel)⟩
    | 9, _ => exact ⟨hs _ (by decide +kernel), hs _ (by decide +kernel)⟩
    | 10, _ => exact ⟨hs _ (by decide +kernel), hs _ (by decide +kernel)⟩
    | 11, _ => exact ⟨hs _ (by decide +kernel), hs _ (by decide +kernel)⟩
    | 12, _ => exact ⟨hs _ (by decide +kernel), hs _ (by decide +kernel)⟩
    | n + 13, h => exact absurd h (by omega)
  obtain ⟨a, ha, -⟩ := str_a h6.1
  rw [ha, vy_eqR h6.2 (h2 i hi) ha]
set_option maxRecDepth 20000 in
theorem x_start {p : Program} {s : State} {m : MethodId} {meth : Method} {c : Code} (l : Launch) (hflags : l.flags = flags0) {b L : Nat} {xs : Nat → Int32} (hL : L ≤ 3584) (C0 : lw_At p s m meth c b L xs) : ∃ E : xE, E.1 = l ∧ xH0 E = s.heap ∧ xad E 1 = b ∧ xV E s ∧ eL E ∧ (E.2.2.2.2.2 1).1 ≤ 3584 ∧ ∀ j, -2147483648 ≤ (E.2.2.2.2.2 1).2 j ∧ (E.2.2.2.2.2 1).2 j ≤ 2147483647 := by
  obtain ⟨hx, hb, hr, hml, hown, hts, hX, hbl, hlocks, hgv, htab, hnm⟩ := id C0
  have hs := flat_of_before _ hgv
  have hA : ∀ a : Nat, a < s.heap.size → ¬ (fun q : Nat => s.heap.size ≤ q) a := fun a h q => absurd h (Nat.not_lt.mpr q)
  have hw : ∀ {w : Cond}, w ∈ xTb → w.before #[Value.ref b] s = true := fun h => hts _ (List.mem_filter.mp h).1
  obtain ⟨c0, i0, hk0⟩ := u_known (C := RX0) (T := TX0) (N := 12) (n := 12) hts i_X0 (hw qiX0)
  obtain ⟨c1, i1, hk1⟩ := u_known (C := RX1) (T := TX1) (N := 3) (n := 3) hts i_X1 (hw qiX1)
  obtain ⟨c2, i2, hk2⟩ := u_known (C := RX2) (T := TX2) (N := 10) (n := 10) hts i_X2 (hw qiX2)
  obtain ⟨c3, i3, hk3⟩ := u_known (C := RX3) (T := TX3) (N := 10) (n := 10) hts i_X3 (hw qiX3)
  obtain ⟨c4, i4, hk4⟩ := u_known (C := RX4) (T := TX4) (N := 3) (n := 3) hts i_X4 (hw qiX4)
  obtain ⟨c5, i5, hk5⟩ := u_known (C := RX5) (T := TX5) (N := 12) (n := 12) hts i_X5 (hw qiX5)
  obtain ⟨c6, i6, hk6⟩ := u_known (C := RX6) (T := TX6) (N := 27) (n := 27) hts i_X6 (hw qiX6)
  obtain ⟨qB, qB1, qB2⟩ := arrOf_c (hw qa_byte)
  obtain ⟨qI, qI1, qI2⟩ := arrOf_c (hw qa_int)
  obtain ⟨qJ, qJ1, qJ2⟩ := arrOf_c (hw qa_long)
  obtain ⟨qZ, qZ1, qZ2⟩ := arrOf_c (hw qa_boolean)
  have hAO : (Cond.arrayOver (.object RX0)).before #[Value.ref b] s = true := hts _ (List.mem_of_getElem? (i := 209) (by decide +kernel))
  obtain ⟨comp, qR, kR, r1, r2, r3, r4, r5⟩ := Cond.arrayOver_spec hAO
  obtain ⟨a2, a2e, a2x, a2l⟩ := vy_of (args := #[Value.ref b]) (s := s) (tm := .static RX0 "NO_FORMULA" "[I") (N := 0) (f := fun j => Int32.ofInt (([] : List Int).getD j 0)) (A := fun q => s.heap.size ≤ q) (by decide) (hs _ (by decide +kernel)) (hs _ (by decide +kernel)) (fun j hj => by
    match j, hj with

    | n + 0, h => exact absurd h (by omega)) hA
  obtain ⟨a3, a3e, a3x, a3l⟩ := vy_of (args := #[Value.ref b]) (s := s) (tm := .static RX3 "WAVE_LIMITS" "[I") (N := 6) (f := fun j => Int32.ofInt (([0, 400, 60, 2000, 0, 2000] : List Int).getD j 0)) (A := fun q => s.heap.size ≤ q) (by decide) (hs _ (by decide +kernel)) (hs _ (by decide +kernel)) (fun j hj => by
    match j, hj with
    | 0, _ => exact hs _ (by decide +kernel)
    | 1, _ => exact hs _ (by decide +kernel)
    | 2, _ => exact hs _ (by decide +kernel)
    | 3, _ => exact hs _ (by decide +kernel)
    | 4, _ => exact hs _ (by decide +kernel)
    | 5, _ => exact hs _ (by decide +kernel)
    | n + 6, h => exact absurd h (by omega)) hA
  obtain ⟨a4, a4e, a4x, a4l⟩ := vy_of (args := #[Value.ref b]) (s := s) (tm := .static RX3 "BAR_LIMITS" "[I") (N := 10) (f := fun j => Int32.ofInt (([0, 200, 100, 3000, 1, 20, 0, 300, 50, 150] : List Int).getD j 0)) (A := fun q => s.heap.size ≤ q) (by decide) (hs _ (by decide +kernel)) (hs _ (by decide +kernel)) (fun j hj => by
    match j, hj with
    | 0, _ => exact hs _ (by decide +kernel)
    | 1, _ => exact hs _ (by decide +kernel)
    | 2, _ => exact hs _ (by decide +kernel)
    | 3, _ => exact hs _ (by decide +kernel)
    | 4, _ => exact hs _ (by decide +kernel)
    | 5, _ => exact hs _ (by decide +kernel)
    | 6, _ => exact hs _ (by decide +kernel)
    | 7, _ => exact hs _ (by decide +kernel)
    | 8, _ => exact hs _ (by decide +kernel)
    | 9, _ => exact hs _ (by decide +kernel)
    | n + 10, h => exact absurd h (by omega)) hA
  obtain ⟨a5, a5e, a5x, a5l⟩ := vy_of (args := #[Value.ref b]) (s := s) (tm := .static RX3 "SHIP_LIMITS" "[I") (N := 8) (f := fun j => Int32.ofInt (([100, 2500, 40, 95, 0, 300, 4, 25] : List Int).getD j 0)) (A := fun q => s.heap.size ≤ q) (by decide) (hs _ (by decide +kernel)) (hs _ (by decide +kernel)) (fun j hj => by
    match j, hj with
    | 0, _ => exact hs _ (by decide +kernel)
    | 1, _ => exact hs _ (by decide +kernel)
    | 2, _ => exact hs _ (by decide +kernel)
    | 3, _ => exact hs _ (by decide +kernel)
    | 4, _ => exact hs _ (by decide +kernel)
    | 5, _ => exact hs _ (by decide +kernel)
    | 6, _ => exact hs _ (by decide +kernel)
    | 7, _ => exact hs _ (by decide +kernel)
    | n + 8, h => exact absurd h (by omega)) hA
  obtain ⟨a6, a6e, a6l⟩ := str_a (s := s) (args := #[Value.ref b]) (t := .string RX5 257) (n := "java/lang/String") (hs _ (by decide +kernel))
  obtain ⟨a7, a7e, a7l⟩ := str_a (s := s) (args := #[Value.ref b]) (t := .string RX5 264) (n := "java/lang/String") (hs _ (by decide +kernel))
  obtain ⟨a8, a8e, a8l⟩ := str_a (s := s) (args := #[Value.ref b]) (t := .string RX5 269) (n := "java/lang/String") (hs _ (by decide +kernel))
  obtain ⟨adK, adV, hS1, hS2, hS3⟩ := w_all hs hA
  let E : xE := (l, (fun k => if k = 0 then c0 else if k = 1 then c1 else if k = 2 then c2 else if k = 3 then c3 else if k = 4 then c4 else if k = 5 then c5 else c6, fun k => if k = 0 then i0 else if k = 1 then i1 else if k = 2 then i2 else if k = 3 then i3 else if k = 4 then i4 else if k = 5 then i5 else i6), (fun k => if k = 7 then qB else if k = 8 then qI else if k = 9 then qJ else if k = 10 then qZ else qR), (fun c => if c < 40 then (if c = 0 then b else if c = 1 then b else if c = 2 then a2 else if c = 3 then a3 else if c = 4 then a4 else if c = 5 then a5 else if c = 6 then a6 else if c = 7 then a7 else if c = 8 then a8 else if c < 22 then adK (c - 9) else if c < 35 then adV (c - 22) else b) else s.heap.size + c - 40), s.heap, (fun c => if c = 1 then (L, fun j => (xs j).toInt) else if c = 2 then (0, fun j => ([] : List Int).getD j 0) else if c = 3 then (6, fun j => ([0, 400, 60, 2000, 0, 2000] : List Int).getD j 0) else if c = 4 then (10, fun j => ([0, 200, 100, 3000, 1, 20, 0, 300, 50, 150] : List Int).getD j 0) else (8, fun j => ([100, 2500, 40, 95, 0, 300, 4, 25] : List Int).getD j 0)))
  have hK : va_K E.2.1 vwCl (xtys E) s := by
    refine ⟨fun k q hq => ?_, fun k q hq => ?_⟩
    · match k, hq with
      | 0, hq => cases hq; exact hk0
      | 1, hq => cases hq; exact hk1
      | 2, hq => cases hq; exact hk2
      | 3, hq => cases hq; exact hk3
      | 4, hq => cases hq; exact hk4
      | 5, hq => cases hq; exact hk5
      | 6, hq => cases hq; exact hk6
      | k + 7, hq => simp [vwCl] at hq
    · match k, hq with
      | 0, hq => cases hq; exact ⟨qB1, qB2⟩
      | 1, hq => cases hq; exact ⟨qI1, qI2⟩
      | 2, hq => cases hq; exact ⟨qJ1, qJ2⟩
      | 3, hq => cases hq; exact ⟨qZ1, qZ2⟩
      | 4, hq => cases hq; exact ⟨fun n z => ⟨fun k' h' => (nomatch h'), kR, r3, comp, r4⟩, kR, comp, r3, r4, r1, r5⟩
      | k + 5, hq => simp [xtys] at hq
  have hEk : xEok E := by
    refine ⟨fun c hc => ?_, fun c hc => ?_⟩
    · show (if c < 40 then _ else s.heap.size + c - 40) + 40 = s.heap.size + c
      rw [if_neg (by unfold nS at hc; omega)]
      unfold nS at hc
      omega
    · show (if c < 40 then _ else _) < s.heap.size
      rw [if_pos (by unfold nS at hc; omega)]
      unfold nS at hc
      repeat' split
      all_goals first | exact hbl | exact a2l | exact a3l | exact a4l | exact a5l | exact a6l | exact a7l | exact a8l | exact (hS3 _ (by omega)).1 | exact (hS3 _ (by omega)).2
  have hXs : ∀ c, 0 < c → c < 6 → vy_X (xad E c) (E.2.2.2.2.2 c).1 (fun j => Int32.ofInt ((E.2.2.2.2.2 c).2 j)) s (xH0 E) := by
    intro c h1 h2
    rcases (by omega : c = 1 ∨ c = 2 ∨ c = 3 ∨ c = 4 ∨ c = 5) with rfl | rfl | rfl | rfl | rfl
    · obtain ⟨scr, x1, x2, x3, x4, x5⟩ := hX
      refine ⟨scr, x1, x2, x3, ⟨Nat.le_of_eq x4.symm, by rw [x4]; rfl⟩, fun j hj => ?_⟩
      show scr.slots[j]? = some (.int (Int32.ofInt (xs j).toInt))
      rw [Int32.ofInt_toInt]
      exact x5 j hj
    · exact a2x
    · exact a3x
    · exact a4x
    · exact a5x
  refine ⟨E, rfl, rfl, rfl, ⟨hK, hEk, ?_, List.forall_mem_cons.mpr ⟨vk_R.of (hts _ (List.mem_of_getElem? (i := 785) (by decide +kernel))) (a6e), List.forall_mem_cons.mpr ⟨vk_R.of (hts _ (List.mem_of_getElem? (i := 555) (by decide +kernel))) (a7e), List.forall_mem_cons.mpr ⟨vk_R.of (hts _ (List.mem_of_getElem? (i := 841) (by decide +kernel))) (a8e), List.forall_mem_cons.mpr ⟨vk_R.of (hts _ (List.mem_of_getElem? (i := 596) (by decide +kernel))) ((hS2 0 (by decide)).1), List.forall_mem_cons.mpr ⟨vk_R.of (hts _ (List.mem_of_getElem? (i := 684) (by decide +kernel))) ((hS2 1 (by decide)).1), List.forall_mem_cons.mpr ⟨vk_R.of (hts _ (List.mem_of_getElem? (i := 695) (by decide +kernel))) ((hS2 2 (by decide)).1), List.forall_mem_cons.mpr ⟨vk_R.of (hts _ (List.mem_of_getElem? (i := 702) (by decide +kernel))) ((hS2 3 (by decide)).1), List.forall_mem_cons.mpr ⟨vk_R.of (hts _ (List.mem_of_getElem? (i := 703) (by decide +kernel))) ((hS2 4 (by decide)).1), List.forall_mem_cons.mpr ⟨vk_R.of (hts _ (List.mem_of_getElem? (i := 710) (by decide +kernel))) ((hS2 5 (by decide)).1), List.forall_mem_cons.mpr ⟨vk_R.of (hts _ (List.mem_of_getElem? (i := 715) (by decide +kernel))) ((hS2 6 (by decide)).1), List.forall_mem_cons.mpr ⟨vk_R.of (hts _ (List.mem_of_getElem? (i := 728) (by decide +kernel))) ((hS2 7 (by decide)).1), List.forall_mem_cons.mpr ⟨vk_R.of (hts _ (List.mem_of_getElem? (i := 733) (by decide +kernel))) ((hS2 8 (by decide)).1), List.forall_mem_cons.mpr ⟨vk_R.of (hts _ (List.mem_of_getElem? (i := 734) (by decide +kernel))) ((hS2 9 (by decide)).1), List.forall_mem_cons.mpr ⟨vk_R.of (hts _ (List.mem_of_getElem? (i := 735) (by decide +kernel))) ((hS2 10 (by decide)).1), List.forall_mem_cons.mpr ⟨vk_R.of (hts _ (List.mem_of_getElem? (i := 736) (by decide +kernel))) ((hS2 11 (by decide)).1), List.forall_mem_cons.mpr ⟨vk_R.of (hts _ (List.mem_of_getElem? (i := 737) (by decide +kernel))) ((hS2 12 (by decide)).1), List.forall_mem_cons.mpr ⟨vk_R.of (hts _ (List.mem_of_getElem? (i := 1235) (by decide +kernel))) ((hS2 0 (by decide)).2), List.forall_mem_cons.mpr ⟨vk_R.of (hts _ (List.mem_of_getElem? (i := 1276) (by decide +kernel))) ((hS2 1 (by decide)).2), List.forall_mem_cons.mpr ⟨vk_R.of (hts _ (List.mem_of_getElem? (i := 1285) (by decide +kernel))) ((hS2 2 (by decide)).2), List.forall_mem_cons.mpr ⟨vk_R.of (hts _ (List.mem_of_getElem? (i := 1290) (by decide +kernel))) ((hS2 3 (by decide)).2), List.forall_mem_cons.mpr ⟨vk_R.of (hts _ (List.mem_of_getElem? (i := 1291) (by decide +kernel))) ((hS2 4 (by decide)).2), List.forall_mem_cons.mpr ⟨vk_R.of (hts _ (List.mem_of_getElem? (i := 1297) (by decide +kernel))) ((hS2 5 (by decide)).2), List.forall_mem_cons.mpr ⟨vk_R.of (hts _ (List.mem_of_getElem? (i := 1298) (by decide +kernel))) ((hS2 6 (by decide)).2), List.forall_mem_cons.mpr ⟨vk_R.of (hts _ (List.mem_of_getElem? (i := 1315) (by decide +kernel))) ((hS2 7 (by decide)).2), List.forall_mem_cons.mpr ⟨vk_R.of (hts _ (List.mem_of_getElem? (i := 1316) (by decide +kernel))) ((hS2 8 (by decide)).2), List.forall_mem_cons.mpr ⟨vk_R.of (hts _ (List.mem_of_getElem? (i := 1317) (by decide +kernel))) ((hS2 9 (by decide)).2), List.forall_mem_cons.mpr ⟨vk_R.of (hts _ (List.mem_of_getElem? (i := 1318) (by decide +kernel))) ((hS2 10 (by decide)).2), List.forall_mem_cons.mpr ⟨vk_R.of (hts _ (List.mem_of_getElem? (i := 1323) (by decide +kernel))) ((hS2 11 (by decide)).2), List.forall_mem_cons.mpr ⟨vk_R.of (hts _ (List.mem_of_getElem? (i := 1324) (by decide +kernel))) ((hS2 12 (by decide)).2), fun _ h => absurd h List.not_mem_nil⟩⟩⟩⟩⟩⟩⟩⟩⟩⟩⟩⟩⟩⟩⟩⟩⟩⟩⟩⟩⟩⟩⟩⟩⟩⟩⟩⟩⟩, vx_Zqof (hts _ (List.mem_of_getElem? (i := 541) (by decide +kernel))) (hts _ (List.mem_of_getElem? (i := 105) (by decide +kernel))) (hs _ (by decide +kernel)) hA, vx_Zqof (hts _ (List.mem_of_getElem? (i := 543) (by decide +kernel))) (hts _ (List.mem_of_getElem? (i := 105) (by decide +kernel))) (hs _ (by decide +kernel)) hA, hXs, List.forall_mem_cons.mpr ⟨va_Zof (hts _ (List.mem_of_getElem? (i := 134) (by decide +kernel))) (hts _ (List.mem_of_getElem? (i := 99) (by decide +kernel))) a2e hA, List.forall_mem_cons.mpr ⟨va_Zof (hts _ (List.mem_of_getElem? (i := 690) (by decide +kernel))) (hts _ (List.mem_of_getElem? (i := 101) (by decide +kernel))) a3e hA, List.forall_mem_cons.mpr ⟨va_Zof (hts _ (List.mem_of_getElem? (i := 701) (by decide +kernel))) (hts _ (List.mem_of_getElem? (i := 101) (by decide +kernel))) a4e hA, List.forall_mem_cons.mpr ⟨va_Zof (hts _ (List.mem_of_getElem? (i := 709) (by decide +kernel))) (hts _ (List.mem_of_getElem? (i := 101) (by decide +kernel))) a5e hA, fun _ h => absurd h List.not_mem_nil⟩⟩⟩⟩, ?_, va_Zof (hts _ (List.mem_of_getElem? (i := 614) (by decide +kernel))) (hts _ (List.mem_of_getElem? (i := 110) (by decide +kernel))) (va_eqt (hs _ (by decide +kernel))) hA, va_AO.of hAO, List.forall_mem_cons.mpr ⟨va_Nw.of rfl (hts _ (List.mem_of_getElem? (i := 129) (by decide +kernel))), List.forall_mem_cons.mpr ⟨va_Nw.of rfl (hts _ (List.mem_of_getElem? (i := 210) (by decide +kernel))), List.forall_mem_cons.mpr ⟨va_Nw.of rfl (hts _ (List.mem_of_getElem? (i := 229) (by decide +kernel))), fun _ h => absurd h List.not_mem_nil⟩⟩⟩, List.forall_mem_cons.mpr ⟨va_Nw.of rfl (hts _ (List.mem_of_getElem? (i := 778) (by decide +kernel))), List.forall_mem_cons.mpr ⟨va_Nw.of rfl (hts _ (List.mem_of_getElem? (i := 516) (by decide +kernel))), List.forall_mem_cons.mpr ⟨va_Nw.of rfl (hts _ (List.mem_of_getElem? (i := 834) (by decide +kernel))), fun _ h => absurd h List.not_mem_nil⟩⟩⟩, List.forall_mem_cons.mpr ⟨va_Nc.of (hs _ (by decide +kernel)), List.forall_mem_cons.mpr ⟨va_Nc.of (hs _ (by decide +kernel)), List.forall_mem_cons.mpr ⟨va_Nc.of (hs _ (by decide +kernel)), List.forall_mem_cons.mpr ⟨va_Nc.of (hs _ (by decide +kernel)), fun _ h => absurd h List.not_mem_nil⟩⟩⟩⟩, vx_Zqof (hts _ (List.mem_of_getElem? (i := 633) (by decide +kernel))) (hts _ (List.mem_of_getElem? (i := 112) (by decide +kernel))) (hs _ (by decide +kernel)) hA⟩, ⟨rfl, ⟨rfl, fun j hj => rfl⟩, ⟨rfl, fun j hj => rfl⟩, rfl, fun j hj => rfl⟩, hL, fun j => ?_⟩
  · show l.stackTraces = false
    unfold Launch.stackTraces
    rw [hflags]
    decide
  · have eK : ∀ i, i < 13 → xad E (9 + i) = adK i := by
      intro i hi
      match i, hi with
      | 0, _ => rfl
      | 1, _ => rfl
      | 2, _ => rfl
      | 3, _ => rfl
      | 4, _ => rfl
      | 5, _ => rfl
      | 6, _ => rfl
      | 7, _ => rfl
      | 8, _ => rfl
      | 9, _ => rfl
      | 10, _ => rfl
      | 11, _ => rfl
      | 12, _ => rfl
      | n + 13, h => exact absurd h (by omega)
    have eV : ∀ i, i < 13 → xad E (22 + i) = adV i := by
      intro i hi
      match i, hi with
      | 0, _ => rfl
      | 1, _ => rfl
      | 2, _ => rfl
      | 3, _ => rfl
      | 4, _ => rfl
      | 5, _ => rfl
      | 6, _ => rfl
      | 7, _ => rfl
      | 8, _ => rfl
      | 9, _ => rfl
      | 10, _ => rfl
      | 11, _ => rfl
      | 12, _ => rfl
      | n + 13, h => exact absurd h (by omega)
    refine ⟨fun i hi => ?_, fun i j hi hj e => hS1.2 i j hi hj ?_⟩
    · have h9 := hS1.1 i hi
      rw [← eK i hi, ← eV i hi] at h9
      exact h9
    · have e : xad E (9 + i) = xad E (9 + j) := e
      rwa [eK i hi, eK j hj] at e
  · show -2147483648 ≤ (xs j).toInt ∧ (xs j).toInt ≤ 2147483647
    have h1 := (xs j).le_toInt
    have h2 := (xs j).toInt_lt
    omega
theorem whole_start {p : Program} {e : Env} {s : State} {m : MethodId} {below : List Frame} {meth : Method} {c : Code} (l : Launch) (hflags : l.flags = flags0) {b L : Nat} {xs : Nat → Int32} (hL : L ≤ 3584) (C0 : lw_At p s m meth c b L xs) : W p l e room_1 s m #[Value.ref b] below meth c s.heap [] 0 0 (lw_Z below #[Value.ref b] s) (entryFrame m ([Value.ref b] : List Value).toArray 7) := by
  obtain ⟨E, h1, h2, h3, h4, h5, h6, h7⟩ := x_start l hflags hL C0
  subst h1
  exact whole_of E h2 h3 h4 h5 h6 h7 C0

end EN
