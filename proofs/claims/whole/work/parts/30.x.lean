/-! ===== X: the walk of a method over an abstract memory. Cells are numbered from 1 on (0: null); those below nS were there before the law began; numbers are Int, references cell numbers ===== -/
section XA
/-- the surroundings of the whole run: the launch, the classes' numbers and slots, the arrays' classes by kind, the address of each cell, the heap at the law's entry, the static arrays (length, contents) -/
abbrev xE : Type := Launch × va_G × (Nat → ClassId) × (Nat → Nat) × Heap × (Nat → Nat × (Nat → Int))
/-- the shape of the memory: references, kinds, lengths, how many cells (numbers below it) -/
abbrev xG : Type := (Nat → Nat → Nat) × (Nat → Nat) × (Nat → Nat) × Nat
abbrev xM : Type := Nat → Nat → Int
def nS : Nat := 40
def xad (E : xE) : Nat → Nat := E.2.2.2.1
def xH0 (E : xE) : Heap := E.2.2.2.2.1
def xB (E : xE) : Nat := (xH0 E).size
def vi (z : Int) : Value := .int (Int32.ofInt z)
def vl (z : Int) : Value := .long (Int64.ofInt z)
def xo (E : xE) (r : Nat) : Option Nat := match r with
  | 0 => none
  | k + 1 => some (xad E (k + 1))
def vr (E : xE) (r : Nat) : Value := va_rf (xo E r)
def xRn : Nat → String := fun k => match k with
  | 0 => RX0 | 1 => RX1 | 2 => RX2 | 3 => RX3 | 4 => RX4 | 5 => RX5 | _ => RX6
def xTt : Nat → u_T := fun k => match k with
  | 0 => TX0 | 1 => TX1 | 2 => TX2 | 3 => TX3 | 4 => TX4 | 5 => TX5 | _ => TX6
def xty : Nat → Nat → FieldType := fun k => match k with
  | 0 => tyX0 | 1 => tyX1 | 2 => tyX2 | 3 => tyX3 | 4 => tyX4 | 5 => tyX5 | _ => tyX6
def xN : Nat → Nat := fun k => match k with
  | 0 => 12 | 1 => 3 | 2 => 10 | 3 => 10 | 4 => 3 | 5 => 12 | _ => 27
theorem xcl {k : Nat} (h : k < 7) : vwCl[k]? = some (xRn k, xTt k, xN k) := by
  match k, h with
  | 0, _ => rfl | 1, _ => rfl | 2, _ => rfl | 3, _ => rfl | 4, _ => rfl | 5, _ => rfl | 6, _ => rfl
theorem xnm {k : Nat} (h : k < 7) : ∀ a, a < xN k → ∀ b, b < xN k → a ≠ b → ((xTt k) a).2.1 ≠ ((xTt k) b).2.1 := by
  match k, h with
  | 0, _ => exact nmX0 | 1, _ => exact nmX1 | 2, _ => exact nmX2 | 3, _ => exact nmX3 | 4, _ => exact nmX4 | 5, _ => exact nmX5 | 6, _ => exact nmX6
theorem xtyok {k : Nat} (h : k < 7) : ∀ j, j < xN k → parseFieldDescriptor ((xTt k) j).2.2.1 = some (xty k j) := by
  match k, h with
  | 0, _ => exact tyX0_ok | 1, _ => exact tyX1_ok | 2, _ => exact tyX2_ok | 3, _ => exact tyX3_ok | 4, _ => exact tyX4_ok | 5, _ => exact tyX5_ok | 6, _ => exact tyX6_ok
/-- a field's value by its type -/
def xf (E : xE) (ty : FieldType) (z : Int) (r : Nat) : Value := match ty with
  | .object _ => vr E r
  | .array _ => vr E r
  | .long => vl z
  | _ => vi z
/-- a cell by its kind: 0 to 6 the objects of vwCl, 7 byte[], 8 int[], 9 long[], 10 boolean[], 11 Chart[]; of others nothing is said -/
def xc (E : xE) (k len : Nat) (f : Nat → Int) (r : Nat → Nat) : Option va_E :=
  if k < 7 then some (.inr (k, (List.range (xN k)).map (fun j => xf E (xty k j) (f j) (r j))))
  else match k with
  | 7 => some (.inl (E.2.2.1 7, len, .inl (fun j => Int32.ofInt (f j))))
  | 8 => some (.inl (E.2.2.1 8, len, .inl (fun j => Int32.ofInt (f j))))
  | 9 => some (.inl (E.2.2.1 9, len, .inr (.inl (fun j => Int64.ofInt (f j)))))
  | 10 => some (.inl (E.2.2.1 10, len, .inl (fun j => Int32.ofInt (f j))))
  | 11 => some (.inl (E.2.2.1 11, len, .inr (.inr (.inr (.inr (fun j => xo E (r j)))))))
  | _ => none
def xtys (E : xE) : List (ClassId × FieldType) := [(E.2.2.1 7, .byte), (E.2.2.1 8, .int), (E.2.2.1 9, .long), (E.2.2.1 10, .boolean), (E.2.2.1 11, .object RX0)]
/-- what the heap is -/
def xWH (E : xE) (g : xG) (m : xM) (H : Heap) : Prop :=
  nS ≤ g.2.2.2 ∧ H.size + nS = xB E + g.2.2.2 ∧ (∀ q, q < xB E → H[q]? = (xH0 E)[q]?) ∧
  ∀ (c : Nat) (e : va_E), xc E (g.2.1 c) (g.2.2.1 c) (m c) (g.1 c) = some e → 0 < c ∧ c < g.2.2.2 ∧ va_at E.2.1 vwCl (xad E c, e) H
/-- the addresses of the cells: those of the run lie behind the heap of the start, in order -/
def xEok (E : xE) : Prop := (∀ c, nS ≤ c → xad E c + nS = xB E + c) ∧ ∀ c, c < nS → xad E c < xB E
def xF (E : xE) : Addr → Prop := fun q => xB E ≤ q
end XA
