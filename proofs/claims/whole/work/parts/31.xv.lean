section XB
/-- the string constants: class, pool entry, text, cell number -/
def xwd : List String := ["mean", "wave", "bar", "lie", "ship", "out", "squat", "speed", "block", "draught", "water", "gap", "surge"]
def xstr : List (String × Nat × String × Nat) := [(RX5, 257, "no such wave, bar, ship, window or place", 6), (RX5, 264, "a number that is none such", 7), (RX5, 269, "not as things are booked, or not by this water", 8),
  (RX3, 74, "mean", 9), (RX3, 96, "wave", 10), (RX3, 101, "bar", 11), (RX3, 147, "lie", 12), (RX3, 106, "ship", 13), (RX3, 158, "out", 14), (RX3, 111, "squat", 15), (RX3, 179, "speed", 16), (RX3, 181, "block", 17), (RX3, 183, "draught", 18), (RX3, 185, "water", 19), (RX3, 116, "gap", 20), (RX3, 120, "surge", 21),
  (RX6, 200, "mean", 9), (RX6, 168, "wave", 10), (RX6, 177, "bar", 11), (RX6, 158, "lie", 12), (RX6, 182, "ship", 13), (RX6, 163, "out", 14), (RX6, 187, "squat", 15), (RX6, 144, "speed", 16), (RX6, 149, "block", 17), (RX6, 151, "draught", 18), (RX6, 153, "water", 19), (RX6, 192, "gap", 20), (RX6, 194, "surge", 21)]
/-- the static fields that hold arrays: class, name, cell number -/
def xstf : List (String × String × Nat) := [(RX0, "NO_FORMULA", 2), (RX3, "WAVE_LIMITS", 3), (RX3, "BAR_LIMITS", 4), (RX3, "SHIP_LIMITS", 5)]
def xwl : List Nat := [4, 4, 3, 3, 4, 3, 5, 5, 5, 7, 5, 3, 5]
def xwb : List (List Int32) := [[109, 101, 97, 110], [119, 97, 118, 101], [98, 97, 114], [108, 105, 101], [115, 104, 105, 112], [111, 117, 116], [115, 113, 117, 97, 116], [115, 112, 101, 101, 100], [98, 108, 111, 99, 107], [100, 114, 97, 117, 103, 104, 116], [119, 97, 116, 101, 114], [103, 97, 112], [115, 117, 114, 103, 101]]
def xnst : List (String × Nat) := [(RX5, 9), (RX1, 17), (RX3, 17)]
def xNSE : String := "java/util/NoSuchElementException"
def xIAE : String := "java/lang/IllegalArgumentException"
def xISE : String := "java/lang/IllegalStateException"
def xexc : List String := [xNSE, xIAE, xISE]
def xncl : List (String × String) := [(xIAE, xNSE), (xISE, xNSE), (xISE, xIAE), (xNSE, xIAE)]
/-- a static array of ints: at least so long, and as long for the program -/
def vy_X (b L : Nat) (xs : Nat → Int32) (U : State) (H : Heap) : Prop := ∃ scr : Cell, H[b]? = some scr ∧ U.isArrayOf scr .int ∧ scr.vm ≠ .unknown ∧ (L ≤ scr.slots.size ∧ scr.slots.size.toInt32 = Int32.ofNat L) ∧ ∀ j : Nat, j < L → scr.slots[j]? = some (.int (xs j))
theorem vy_X.moved {b L : Nat} {xs : Nat → Int32} {u U : State} {H : Heap} (hvm : u.vm.Alike U.vm) (h : vy_X b L xs u H) : vy_X b L xs U H := by
  obtain ⟨scr, h1, h2, h3⟩ := h
  exact ⟨scr, h1, State.isArrayOf_alike hvm h2, h3⟩
theorem vy_X.kept {b L : Nat} {xs : Nat → Int32} {U : State} {H H1 : Heap} (h : vy_X b L xs U H) (hq : H1[b]? = H[b]?) : vy_X b L xs U H1 := by
  obtain ⟨scr, h1, h2⟩ := h
  exact ⟨scr, hq.trans h1, h2⟩
/-- what the tables and the heap of the start say, at any state of the run -/
def xVs (E : xE) (U : State) : Prop :=
  (∀ t ∈ xstr, vk_R t.1 t.2.1 t.2.2.1 (xad E t.2.2.2) U) ∧
  vx_Zq Bundle.tN "UNASSIGNED_STACK" Bundle.steD (xF E) U (xH0 E) ∧ vx_Zq Bundle.tN "SUPPRESSED_SENTINEL" Bundle.listD (xF E) U (xH0 E) ∧
  (∀ c, 0 < c → c < 6 → vy_X (xad E c) (E.2.2.2.2.2 c).1 (fun j => Int32.ofInt ((E.2.2.2.2.2 c).2 j)) U (xH0 E)) ∧
  (∀ t ∈ xstf, va_Z t.1 t.2.1 "[I" (.ref (xad E t.2.2)) (xF E) U (xH0 E)) ∧
  vk_S 13 xwl xwb (fun i => xad E (9 + i)) (fun i => xad E (22 + i)) (xF E) U (xH0 E) ∧
  va_Z "java/lang/String" "COMPACT_STRINGS" "Z" (.int 1) (xF E) U (xH0 E) ∧
  va_AO RX0 U ∧ (∀ t ∈ xnst, va_Nw (.methodLinkNest t.1 t.2 yX0_init "TideGates") U) ∧ (∀ t ∈ xexc, va_Nw (.castable t t) U) ∧ (∀ t ∈ xncl, va_Nc t.1 t.2 U) ∧
  vx_Zq "jdk/internal/util/Preconditions" "SIOOBE_FORMATTER" "Ljava/util/function/BiFunction;" (xF E) U (xH0 E)
def xV (E : xE) (U : State) : Prop := va_K E.2.1 vwCl (xtys E) U ∧ xEok E ∧ E.1.stackTraces = false ∧ xVs E U
theorem xV.moved {E : xE} {s U : State} (hW : s.WarmedH U.vm) (h : xV E s) : xV E U := by
  obtain ⟨h1, h2, h3, a, b, c, d, f, k, w, w1, w2, w3, w4, w5⟩ := h
  exact ⟨h1.moved hW.alike, h2, h3, fun t ht => vk_R.warm hW (a t ht), b.moved hW.alike, c.moved hW.alike, fun x y z => (d x y z).moved hW.alike, fun t ht => (f t ht).moved hW.alike, k.moved hW.alike, w.moved hW.alike, w1.moved hW.alike, fun t ht => (w2 t ht).warmM hW, fun t ht => (w3 t ht).warmC hW, fun t ht => (w4 t ht).moved hW.alike, w5.moved hW.alike⟩
theorem xV.same {E : xE} {s U : State} (hv : U.vm = s.vm) (h : xV E s) : xV E U := by
  obtain ⟨h1, h2, h3, a, b, c, d, f, k, w, w1, w2, w3, w4, w5⟩ := h
  have hA : s.vm.Alike U.vm := by rw [hv]; exact Vm.Alike.refl s.vm
  exact ⟨h1.moved hA, h2, h3, fun t ht => vk_R.same hv (a t ht), b.moved hA, c.moved hA, fun x y z => (d x y z).moved hA, fun t ht => (f t ht).moved hA, k.moved hA, w.moved hA, w1.moved hA, fun t ht => (w2 t ht).same rfl hv.symm, fun t ht => (w3 t ht).same rfl hv.symm, fun t ht => (w4 t ht).moved hA, w5.moved hA⟩
/-- the words that every method has -/
def xTb : List Cond := lw_tbl.filter goodWord
theorem xTb_of {w : Cond} (i : Nat) (h : lw_tbl[i]? = some w) (hg : goodWord w = true) : w ∈ xTb := List.mem_filter.mpr ⟨List.mem_of_getElem? h, hg⟩
abbrev xY : Type := MethodName × ByteArray × Nat × Option FieldType
def xws (Y : xY) : List Cond := Cond.code Y.1 Y.2.1 Y.2.2.1 Y.2.2.2 :: xTb
def xR (d mc ms : Nat) : Room := { frames := d, cells := mc, slots := ms, locals := 64 * d }
def xWd (E : xE) (g : xG) (m : xM) (U : State) : Prop := xWH E g m U.heap ∧ xV E U
abbrev xPo : Type := Option Value → xG → xM → Prop
abbrev xPx : Type := String → xG → xM → Prop
def xQ (E : xE) (P : xPo) : Array Value → State → Outcome → State → Prop := fun _ _ o t => ∃ (r : Option Value) (g : xG) (m : xM), o = .returned r ∧ P r g m ∧ xWH E g m t.heap
def xQX (E : xE) (PX : xPx) : String → State → State → Prop := fun x _ t => ∃ (g : xG) (m : xM), PX x g m ∧ xWH E g m t.heap
/-- the contract of method Y at these arguments and this memory: what holds where it returns, where it throws -/
def xC (E : xE) (Y : xY) (d mc ms : Nat) (as : List Value) (g : xG) (m : xM) (P : xPo) (PX : xPx) : Prop :=
  vx_Met E.1 Y.1 (xws Y) (xR d mc ms) (va_Pc as (xWd E g m)) (xQ E P) (xQX E PX) mc ms (xF E)
theorem xblind {E : xE} {as : List Value} {g : xG} {m : xM} : FrameBlind (va_Pc as (xWd E g m)) := fun _ _ _ _ h => ⟨h.1, h.2.1, xV.same rfl h.2.2⟩
abbrev xJ : Type := (String × Option FieldType × List (Nat × Nat × Nat × Nat)) × (Nat × Nat × Nat) × xPo × xPx
def xCtx (E : xE) (nm : String) (ret : Option FieldType) (hh : List (Nat × Nat × Nat × Nat)) (own : String) (cc : ByteArray) (mL : Nat) (p : Program) (s : State) (mi : MethodId) (args : Array Value) (meth : Method) (c : Code) : Prop :=
  p.tables.exec = Jvm.exec ∧ c.code = cc ∧ meth.sig.returnType = ret ∧ c.maxLocals = mL ∧ s.vm.findClass own = some mi.cls ∧ (∀ w ∈ xTb, w.before args s = true) ∧ meth.locks = false ∧ c.exceptionTable.toList = tableOf hh ∧ meth.name = nm ∧ xV E s ∧ (∀ q, q < xB E → s.heap[q]? = (xH0 E)[q]?)
/-- the walk: from pc on, with these locals, this stack, this memory, k cells of n slots made -/
def xX (E : xE) (J : xJ) (own : String) (cc : ByteArray) (mL k n pc : Nat) (lv : List (Nat × Value)) (st : List Value) (g : xG) (m : xM) : Prop :=
  ∀ (p : Program) (e : Env) (s : State) (mi : MethodId) (args : Array Value) (below : List Frame) (meth : Method) (c : Code) (H : Heap) (locs : List Loc) (ls : Array Slot),
    xCtx E J.1.1 J.1.2.1 J.1.2.2 own cc mL p s mi args meth c → xWH E g m H → (∀ q ∈ locs, xF E q.base) → lv_has ls mL lv →
    W p E.1 e (xR J.2.1.1 J.2.1.2.1 J.2.1.2.2) s mi args below meth c H locs k n (vx_MQ below (xQ E J.2.2.1) (xQX E J.2.2.2) args s J.2.1.2.1 J.2.1.2.2 (xF E)) (F0 mi pc ls st)
theorem x_enter {E : xE} {y : MethodName} {cc : ByteArray} {mL : Nat} {ret : Option FieldType} {d mc ms : Nat} {as : List Value} {g : xG} {m : xM} {P : xPo} {PX : xPx} {own nm : String}
    (hy : plainName y.cls = true) (ho : y.cls = own) (hn : y.name = nm) (hle : (lg_sl as).length ≤ mL)
    (h : xX E ((nm, ret, []), (d, mc, ms), P, PX) own cc mL 0 0 0 (lv_args 0 as) [] g m) : xC E (y, cc, mL, ret) d mc ms as g m P PX := by
  refine vx_ofW (cc := cc) (maxL := mL) (ret := ret) hy rfl ?_
  intro p e s mi args below meth c s₁ B hml htb hv
  obtain ⟨rfl, hW, hV⟩ := hv
  have hl := lv_entry as (n := mL) hle
  rw [lg_entry_eq]
  have hown : s.vm.findClass own = some mi.cls := by rw [← ho]; exact findClass_of_methodNamed B.named
  have hts := atoms_spec (ws := xws (y, cc, mL, ret)) B.pre
  refine h p e s mi _ below meth c s.heap [] _ ⟨B.exec, B.bytes, B.returns, hml, hown, fun w hw => hts w (List.mem_cons_of_mem _ hw), B.notSynchronized, ?_, ?_, hV, hW.2.2.1⟩ hW (fun q hq => by cases hq) hl
  · cases hq : c.exceptionTable.toList with
    | nil => rfl
    | cons a b => exact (htb a (by rw [hq]; exact List.mem_cons_self)).elim
  · rw [← hn]; exact (name_of_methodNamed B.named B.method).1
/-- of a field's type: 0 a number, 1 a reference, 2 a long -/
def xkt (ty : FieldType) : Nat := match ty with
  | .object _ => 1
  | .array _ => 1
  | .long => 2
  | _ => 0
/-- a field that an instruction names: class K, field j, of type t -/
def xFL (own : String) (idx K j t : Nat) : Prop := K < 7 ∧ j < xN K ∧ xkt (xty K j) = t ∧ Cond.fieldLink own idx ((xTt K) j).1 ((xTt K) j).2.1 ((xTt K) j).2.2.1 ∈ xTb
/-- what a call of y at (own, idx) stands on -/
def xMB (own : String) (idx : Nat) (y : MethodName) (cy : ByteArray) (ml : Nat) (rt : Option FieldType) (na : Nat) : Prop :=
  Cond.methodLink own idx y ∈ xTb ∧ Cond.initialized y.cls ∈ xTb ∧ Cond.code y cy ml rt ∈ xTb ∧ (y.cls ≠ "java/lang/invoke/MethodHandle" ∧ y.cls ≠ "java/lang/invoke/VarHandle") ∧ (parseMethodDescriptor y.desc).map (fun d => d.parameters.length) = some na ∧ ml ≤ 40
def xMV (own : String) (idx : Nat) (y : MethodName) (cy : ByteArray) (ml : Nat) (rt : Option FieldType) (na K : Nat) : Prop :=
  xMB own idx y cy ml rt na ∧ Cond.instanceMethod y ∈ xTb ∧ Cond.selects y.cls y y ∈ xTb ∧ K < 7 ∧ xRn K = y.cls
def xMS (own : String) (idx : Nat) (y : MethodName) (cy : ByteArray) (ml : Nat) (rt : Option FieldType) (na : Nat) : Prop :=
  xMB own idx y cy ml rt na ∧ Cond.static y ∈ xTb
end XB
