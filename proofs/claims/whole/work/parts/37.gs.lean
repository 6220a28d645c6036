section XG
/-- the kinds and lengths of the cells below 112 -/
def gkt : List Nat := [99, 99, 99, 99, 99, 99, 99, 99, 99, 99, 99, 99, 99, 99, 99, 99, 99, 99, 99, 99, 99, 99, 99, 99, 99, 99, 99, 99, 99, 99, 99, 99, 99, 99, 99, 99, 99, 99, 99, 99, 5, 0, 8, 8, 8, 1, 11, 0, 8, 8, 8, 0, 8, 8, 8, 0, 8, 8, 8, 0, 8, 8, 8, 0, 8, 8, 8, 0, 8, 8, 8, 0, 8, 8, 8, 0, 8, 8, 8, 7, 3, 8, 0, 8, 8, 8, 4, 8, 2, 9, 8, 8, 8, 7, 7, 8, 6, 8, 8, 8, 8, 7, 7, 9, 10, 10, 10, 10, 10, 8, 8, 9]
def glt : List Nat := [0, 0, 0, 0, 0, 0, 0, 0, 0, 0, 0, 0, 0, 0, 0, 0, 0, 0, 0, 0, 0, 0, 0, 0, 0, 0, 0, 0, 0, 0, 0, 0, 0, 0, 0, 0, 0, 0, 0, 0, 0, 0, 18, 36, 48, 0, 8, 0, 18, 36, 48, 0, 18, 36, 48, 0, 18, 36, 48, 0, 18, 36, 48, 0, 18, 36, 48, 0, 18, 36, 48, 0, 18, 36, 48, 0, 18, 36, 48, 600, 0, 600, 0, 18, 36, 48, 0, 15000, 0, 16, 2670, 2670, 2640, 1001, 1001, 6, 0, 3, 709, 709, 5672, 600, 600, 600, 1440, 1001, 1001, 1001, 15840, 6, 6, 1]
/-- the references: f says which formula a chart has -/
def gRf (f : Nat → Nat) (c j : Nat) : Nat :=
  if c = 40 then [41, 45, 79, 80, 86, 88].getD j 0
  else if c = 45 then (if j = 0 then 46 else 0)
  else if c = 46 then (if j < 8 then 47 + 4 * j else 0)
  else if c = 80 then [79, 81, 0, 0, 0, 0, 0, 0, 82].getD j 0
  else if c = 86 then [41, 87].getD j 0
  else if c = 88 then [41, 86, 89, 90, 91, 92, 93, 94, 0, 95].getD j 0
  else if c = 96 then [0, 97, 98, 99, 100, 0, 101, 102, 0, 0, 0, 0, 0, 0, 0, 0, 0, 103, 104, 105, 106, 107, 108, 109, 110].getD j 0
  else if gkt.getD c 99 = 0 then (if j = 6 then c + 1 else if j = 7 then c + 2 else if j = 8 then c + 3 else if j = 9 then f c else 0)
  else 0
/-- the shape of the memory of the run: f the formulas of the charts, D kind and length of the later cells, n how many there are -/
def gS (f : Nat → Nat) (D : Nat → Nat × Nat) (n : Nat) : xG := (gRf f, fun c => if c < 112 then gkt.getD c 99 else (D c).1, fun c => if c < 112 then glt.getD c 0 else (D c).2, n)
end XG
