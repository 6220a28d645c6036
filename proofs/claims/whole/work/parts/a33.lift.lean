section LF
variable {p : Program} {l : Launch} {e : Env} {s : State} {m : MethodId} {args : Array Value} {below : List Frame} {meth : Method} {c : Code} {H : Heap} {locs : List Loc} {cells slots : Nat}
theorem W_room {R R' : Room} {Q : State → Prop} {g : JFrame} (hf : R'.frames ≤ R.frames) (hl : R'.locals ≤ R.locals) (hc : R'.cells ≤ R.cells) (hs : R'.slots ≤ R.slots) (h : W p l e R' s m args below meth c H locs cells slots Q g) : W p l e R s m args below meth c H locs cells slots Q g := by
  intro T hT X
  refine h T hT ⟨X.admits, X.cas, X.clock, X.frames, ?_, X.hears, X.method, X.code, X.here, X.tail, X.warmed, X.limits, X.bytes, X.same⟩
  have h := X.room
  simp only [State.hasRoom, Bool.and_eq_true, decide_eq_true_eq] at h ⊢
  obtain ⟨⟨⟨⟨h1, h2, h3, h4, h5, h6⟩, h7⟩, h8⟩, h9⟩ := h
  exact ⟨⟨⟨⟨by omega, by omega, by omega, by omega, by omega, h6⟩, by omega⟩, by omega⟩, h9⟩
theorem same_forget {t : State} {L : List Loc} {k n k' n' : Nat} (h : s.sameButNew t L k n) (hL : ∀ q ∈ L, s.heap.size ≤ q.base) (hk : k ≤ k') (hn : n ≤ n') : s.sameButNew t [] k' n' := by
  obtain ⟨h1, h2, h3, h4, h5, h6⟩ := h
  refine ⟨h1, h2, by omega, h4, by omega, fun a c hc => ?_⟩
  obtain ⟨c', g1, g2, g3, g4⟩ := h6 a c hc
  refine ⟨c', g1, g2, g3, fun i _ => g4 i (fun hm => ?_)⟩
  have := hL _ hm
  have h9 := (Array.getElem?_eq_some_iff.mp hc).1
  exact absurd h9 (Nat.not_lt.mpr this)
theorem whole_of {b L : Nat} {xs : Nat → Int32} (E : xE) (hH : xH0 E = s.heap) (hb1 : xad E 1 = b) (hV : xV E s) (hL : eL E) (hlen : (E.2.2.2.2.2 1).1 ≤ 3584) (hsc : ∀ j, -2147483648 ≤ (E.2.2.2.2.2 1).2 j ∧ (E.2.2.2.2.2 1).2 j ≤ 2147483647) (C0 : lw_At p s m meth c b L xs) : W p E.1 e room_1 s m #[Value.ref b] below meth c s.heap [] 0 0 (lw_Z below #[Value.ref b] s) (entryFrame m ([Value.ref b] : List Value).toArray 7) := by
  obtain ⟨hx, hb, hr, hml, hown, hts, hX, hbl, hlocks, hgv, htab, hnm⟩ := id C0
  have hl := lv_entry ([.ref b]) (n := 7) (Nat.le_of_ble_eq_true rfl)
  rw [lg_entry_eq]
  generalize (lg_sl ([.ref b]) ++ List.replicate (7 - (lg_sl ([.ref b])).length) Slot.unset).toArray = ls at hl ⊢
  have hl : lv_has ls 7 [(0, .ref b)] := hl
  have hB : xB E = s.heap.size := by unfold xB; rw [hH]
  have hw := law_start (E := E) (P := fun r _ _ => r = some (vi 1)) (PX := fun _ _ _ => False) (m := fun _ _ => 0) hL hlen hsc (fun _ _ => rfl)
  have hW : xWH E (gT A40 []) (fun _ _ => 0) s.heap := by
    refine ⟨by show 40 ≤ 40 + 0; omega, by show s.heap.size + 40 = xB E + (40 + 0); omega, fun q _ => by rw [hH], fun c' e' h => ?_⟩
    have hk : (gT A40 []).2.1 c' = 99 := by
      show ((A40 ++ []).getD c' (99, 0, [])).1 = 99
      rw [List.append_nil, A40, List.getD_eq_getElem?_getD, List.getElem?_replicate]
      split <;> rfl
    rw [hk] at h
    cases h
  have hw := hw p e s m #[.ref b] below meth c s.heap [] ls ⟨hx, hb, hr, hml, hown, fun w hw => hts w (List.mem_filter.mp hw).1, hlocks, htab, hnm, hV, fun q _ => by rw [hH]⟩ hW (fun q hq => by cases hq) (by rw [vr_pos (by decide), hb1]; exact hl)
  have hw := W_room (R := room_1) (by decide) (by decide) (by decide) (by decide) hw
  intro T hT X
  obtain ⟨t, a1, o, b1, b2, b3⟩ := hw T hT X
  refine ⟨t, a1, o, b1, b2, ?_⟩
  rcases b3 with ⟨⟨r, g, m9, h1, h2, -⟩, Lc, hF, hfree⟩ | ⟨q, -, En, ce, Lc, ⟨g', m', hf, -⟩, -⟩
  · subst h1 h2
    obtain ⟨-, g1, g2⟩ := hF
    exact ⟨rfl, ⟨_, rfl⟩, g1, same_forget g2 (fun q hq => by have := hfree q hq; unfold xF at this; omega) (by decide) (by decide)⟩
  · exact hf.elim
end LF
