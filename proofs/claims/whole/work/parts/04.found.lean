/-! THE STATE OF THE SYSTEM: every cell that the law makes has a number below 69; what changes is told by four functions. -/
section XT0
/-- int fields by cell and place, int arrays (char, boolean too) by cell, long arrays, double arrays -/
abbrev xt_St : Type := (Nat → Nat → Int32) × (Nat → Nat → Int32) × (Nat → Nat → Int64) × (Nat → Nat → UInt64)
/-- surroundings: the cells' addresses, the first address that is ours, classes and slots, the arrays' classes, the places of texts -/
abbrev xt_Ev : Type := (Nat → Nat) × Nat × va_G × (Nat → ClassId) × (Nat → Nat) × (Nat → Nat)
abbrev xt_NC : Nat := 69
def xt_sh (E : xt_Ev) (i : Nat) (n a : Nat → Int32) (b : Nat → Int64) (d : Nat → UInt64) : va_E := match i with
  | 0 => .inr (5, [.ref (E.1 1), .ref (E.1 4), .int (n 2), .ref (E.1 7), .ref (E.1 33), .ref (E.1 42), .ref (E.1 46), .int (n 7), .int (n 8), .int (n 9)])
  | 1 => .inr (1, [.int (n 0), .int (n 1), .int (n 2), .int (n 3), .int (n 4), .ref (E.1 2), .ref (E.1 3)])
  | 2 => .inl (E.2.2.2.1 0, 256, .inl a)
  | 3 => .inl (E.2.2.2.1 0, 256, .inl a)
  | 4 => .inr (1, [.int (n 0), .int (n 1), .int (n 2), .int (n 3), .int (n 4), .ref (E.1 5), .ref (E.1 6)])
  | 5 => .inl (E.2.2.2.1 0, 256, .inl a)
  | 6 => .inl (E.2.2.2.1 0, 256, .inl a)
  | 7 => .inr (0, [.ref (E.1 8), .int (n 1), .int (n 2)])
  | 8 => .inl (E.2.2.2.1 5, 8, .inr (.inr (.inr (.inr (fun j => some (E.1 (9 + 3 * j)))))))
  | 9 => .inr (1, [.int (n 0), .int (n 1), .int (n 2), .int (n 3), .int (n 4), .ref (E.1 10), .ref (E.1 11)])
  | 10 => .inl (E.2.2.2.1 0, 256, .inl a)
  | 11 => .inl (E.2.2.2.1 0, 256, .inl a)
  | 12 => .inr (1, [.int (n 0), .int (n 1), .int (n 2), .int (n 3), .int (n 4), .ref (E.1 13), .ref (E.1 14)])
  | 13 => .inl (E.2.2.2.1 0, 256, .inl a)
  | 14 => .inl (E.2.2.2.1 0, 256, .inl a)
  | 15 => .inr (1, [.int (n 0), .int (n 1), .int (n 2), .int (n 3), .int (n 4), .ref (E.1 16), .ref (E.1 17)])
  | 16 => .inl (E.2.2.2.1 0, 256, .inl a)
  | 17 => .inl (E.2.2.2.1 0, 256, .inl a)
  | 18 => .inr (1, [.int (n 0), .int (n 1), .int (n 2), .int (n 3), .int (n 4), .ref (E.1 19), .ref (E.1 20)])
  | 19 => .inl (E.2.2.2.1 0, 256, .inl a)
  | 20 => .inl (E.2.2.2.1 0, 256, .inl a)
  | 21 => .inr (1, [.int (n 0), .int (n 1), .int (n 2), .int (n 3), .int (n 4), .ref (E.1 22), .ref (E.1 23)])
  | 22 => .inl (E.2.2.2.1 0, 256, .inl a)
  | 23 => .inl (E.2.2.2.1 0, 256, .inl a)
  | 24 => .inr (1, [.int (n 0), .int (n 1), .int (n 2), .int (n 3), .int (n 4), .ref (E.1 25), .ref (E.1 26)])
  | 25 => .inl (E.2.2.2.1 0, 256, .inl a)
  | 26 => .inl (E.2.2.2.1 0, 256, .inl a)
  | 27 => .inr (1, [.int (n 0), .int (n 1), .int (n 2), .int (n 3), .int (n 4), .ref (E.1 28), .ref (E.1 29)])
  | 28 => .inl (E.2.2.2.1 0, 256, .inl a)
  | 29 => .inl (E.2.2.2.1 0, 256, .inl a)
  | 30 => .inr (1, [.int (n 0), .int (n 1), .int (n 2), .int (n 3), .int (n 4), .ref (E.1 31), .ref (E.1 32)])
  | 31 => .inl (E.2.2.2.1 0, 256, .inl a)
  | 32 => .inl (E.2.2.2.1 0, 256, .inl a)
  | 33 => .inr (4, [.int (n 0), .int (n 1), .int (n 2), .int (n 3), .int (n 4), .int (n 5), .ref (E.1 34), .ref (E.1 35), .ref (E.1 36), .ref (E.1 37), .ref (E.1 38), .ref (E.1 39), .ref (E.1 40), .ref (E.1 41)])
  | 34 => .inl (E.2.2.2.1 0, 64, .inl a)
  | 35 => .inl (E.2.2.2.1 0, 64, .inl a)
  | 36 => .inl (E.2.2.2.1 0, 64, .inl a)
  | 37 => .inl (E.2.2.2.1 0, 64, .inl a)
  | 38 => .inl (E.2.2.2.1 0, 64, .inl a)
  | 39 => .inl (E.2.2.2.1 0, 64, .inl a)
  | 40 => .inl (E.2.2.2.1 0, 64, .inl a)
  | 41 => .inl (E.2.2.2.1 0, 8, .inl a)
  | 42 => .inr (2, [.int (n 0), .ref (E.1 43), .ref (E.1 44), .ref (E.1 45)])
  | 43 => .inl (E.2.2.2.1 0, 64, .inl a)
  | 44 => .inl (E.2.2.2.1 0, 64, .inl a)
  | 45 => .inl (E.2.2.2.1 0, 64, .inl a)
  | 46 => .inr (3, [.ref (E.1 47), .int (n 1), .ref (E.1 48), .int (n 3)])
  | 47 => .inl (E.2.2.2.1 3, 60, .inl a)
  | 48 => .inl (E.2.2.2.1 0, 20, .inl a)
  | 49 => .inr (6, [.int (n 0), .ref (E.1 50), .ref (E.1 51), .int (n 3), .ref (E.1 52), .int (n 5), .ref (E.1 53), .ref (E.1 54), .int (n 8), .int (n 9), .int (n 10), .int (n 11), .int (n 12), .int (n 13), .ref (E.1 55), .ref (E.1 56), .int (n 16), .int (n 17), .int (n 18), .ref (E.1 57), .ref (E.1 58), .ref (E.1 59), .ref (E.1 60), .ref (E.1 61), .ref (E.1 62), .ref (E.1 63), .ref (E.1 64), .ref (E.1 65), .ref (E.1 66)])
  | 50 => .inl (E.2.2.2.1 0, 517, .inl a)
  | 51 => .inl (E.2.2.2.1 0, 4136, .inl a)
  | 52 => .inl (E.2.2.2.1 0, 517, .inl a)
  | 53 => .inl (E.2.2.2.1 0, 517, .inl a)
  | 54 => .inl (E.2.2.2.1 0, 60, .inl a)
  | 55 => .inl (E.2.2.2.1 0, 64, .inl a)
  | 56 => .inl (E.2.2.2.1 0, 64, .inl a)
  | 57 => .inl (E.2.2.2.1 0, 5, .inl a)
  | 58 => .inl (E.2.2.2.1 0, 5, .inl a)
  | 59 => .inl (E.2.2.2.1 0, 64, .inl a)
  | 60 => .inl (E.2.2.2.1 4, 64, .inl a)
  | 61 => .inl (E.2.2.2.1 0, 64, .inl a)
  | 62 => .inl (E.2.2.2.1 0, 8, .inl a)
  | 63 => .inl (E.2.2.2.1 4, 8, .inl a)
  | 64 => .inl (E.2.2.2.1 1, 64, .inr (.inl b))
  | 65 => .inl (E.2.2.2.1 1, 8, .inr (.inl b))
  | 66 => .inl (E.2.2.2.1 0, 4, .inl a)
  | 67 => .inl (E.2.2.2.1 1, 1, .inr (.inl b))
  | 68 => .inl (E.2.2.2.1 2, 1, .inr (.inr (.inr (.inl d))))
  | _ => .inr (5, [])
def xt_cell (E : xt_Ev) (S : xt_St) (i : Nat) : va_E := xt_sh E i (S.1 i) (S.2.1 i) (S.2.2.1 i) (S.2.2.2 i)
theorem xt_cl0 (E : xt_Ev) (S : xt_St) : xt_cell E S 0 = .inr (5, [.ref (E.1 1), .ref (E.1 4), .int (S.1 0 2), .ref (E.1 7), .ref (E.1 33), .ref (E.1 42), .ref (E.1 46), .int (S.1 0 7), .int (S.1 0 8), .int (S.1 0 9)]) := rfl
theorem xt_cl1 (E : xt_Ev) (S : xt_St) : xt_cell E S 1 = .inr (1, [.int (S.1 1 0), .int (S.1 1 1), .int (S.1 1 2), .int (S.1 1 3), .int (S.1 1 4), .ref (E.1 2), .ref (E.1 3)]) := rfl
theorem xt_cl2 (E : xt_Ev) (S : xt_St) : xt_cell E S 2 = .inl (E.2.2.2.1 0, 256, .inl (S.2.1 2)) := rfl
theorem xt_cl3 (E : xt_Ev) (S : xt_St) : xt_cell E S 3 = .inl (E.2.2.2.1 0, 256, .inl (S.2.1 3)) := rfl
theorem xt_cl4 (E : xt_Ev) (S : xt_St) : xt_cell E S 4 = .inr (1, [.int (S.1 4 0), .int (S.1 4 1), .int (S.1 4 2), .int (S.1 4 3), .int (S.1 4 4), .ref (E.1 5), .ref (E.1 6)]) := rfl
theorem xt_cl5 (E : xt_Ev) (S : xt_St) : xt_cell E S 5 = .inl (E.2.2.2.1 0, 256, .inl (S.2.1 5)) := rfl
theorem xt_cl6 (E : xt_Ev) (S : xt_St) : xt_cell E S 6 = .inl (E.2.2.2.1 0, 256, .inl (S.2.1 6)) := rfl
theorem xt_cl7 (E : xt_Ev) (S : xt_St) : xt_cell E S 7 = .inr (0, [.ref (E.1 8), .int (S.1 7 1), .int (S.1 7 2)]) := rfl
theorem xt_cl8 (E : xt_Ev) (S : xt_St) : xt_cell E S 8 = .inl (E.2.2.2.1 5, 8, .inr (.inr (.inr (.inr (fun j => some (E.1 (9 + 3 * j))))))) := rfl
theorem xt_cl9 (E : xt_Ev) (S : xt_St) : xt_cell E S 9 = .inr (1, [.int (S.1 9 0), .int (S.1 9 1), .int (S.1 9 2), .int (S.1 9 3), .int (S.1 9 4), .ref (E.1 10), .ref (E.1 11)]) := rfl
theorem xt_cl10 (E : xt_Ev) (S : xt_St) : xt_cell E S 10 = .inl (E.2.2.2.1 0, 256, .inl (S.2.1 10)) := rfl
theorem xt_cl11 (E : xt_Ev) (S : xt_St) : xt_cell E S 11 = .inl (E.2.2.2.1 0, 256, .inl (S.2.1 11)) := rfl
theorem xt_cl12 (E : xt_Ev) (S : xt_St) : xt_cell E S 12 = .inr (1, [.int (S.1 12 0), .int (S.1 12 1), .int (S.1 12 2), .int (S.1 12 3), .int (S.1 12 4), .ref (E.1 13), .ref (E.1 14)]) := rfl
theorem xt_cl13 (E : xt_Ev) (S : xt_St) : xt_cell E S 13 = .inl (E.2.2.2.1 0, 256, .inl (S.2.1 13)) := rfl
theorem xt_cl14 (E : xt_Ev) (S : xt_St) : xt_cell E S 14 = .inl (E.2.2.2.1 0, 256, .inl (S.2.1 14)) := rfl
theorem xt_cl15 (E : xt_Ev) (S : xt_St) : xt_cell E S 15 = .inr (1, [.int (S.1 15 0), .int (S.1 15 1), .int (S.1 15 2), .int (S.1 15 3), .int (S.1 15 4), .ref (E.1 16), .ref (E.1 17)]) := rfl
theorem xt_cl16 (E : xt_Ev) (S : xt_St) : xt_cell E S 16 = .inl (E.2.2.2.1 0, 256, .inl (S.2.1 16)) := rfl
theorem xt_cl17 (E : xt_Ev) (S : xt_St) : xt_cell E S 17 = .inl (E.2.2.2.1 0, 256, .inl (S.2.1 17)) := rfl
theorem xt_cl18 (E : xt_Ev) (S : xt_St) : xt_cell E S 18 = .inr (1, [.int (S.1 18 0), .int (S.1 18 1), .int (S.1 18 2), .int (S.1 18 3), .int (S.1 18 4), .ref (E.1 19), .ref (E.1 20)]) := rfl
theorem xt_cl19 (E : xt_Ev) (S : xt_St) : xt_cell E S 19 = .inl (E.2.2.2.1 0, 256, .inl (S.2.1 19)) := rfl
theorem xt_cl20 (E : xt_Ev) (S : xt_St) : xt_cell E S 20 = .inl (E.2.2.2.1 0, 256, .inl (S.2.1 20)) := rfl
theorem xt_cl21 (E : xt_Ev) (S : xt_St) : xt_cell E S 21 = .inr (1, [.int (S.1 21 0), .int (S.1 21 1), .int (S.1 21 2), .int (S.1 21 3), .int (S.1 21 4), .ref (E.1 22), .ref (E.1 23)]) := rfl
theorem xt_cl22 (E : xt_Ev) (S : xt_St) : xt_cell E S 22 = .inl (E.2.2.2.1 0, 256, .inl (S.2.1 22)) := rfl
theorem xt_cl23 (E : xt_Ev) (S : xt_St) : xt_cell E S 23 = .inl (E.2.2.2.1 0, 256, .inl (S.2.1 23)) := rfl
theorem xt_cl24 (E : xt_Ev) (S : xt_St) : xt_cell E S 24 = .inr (1, [.int (S.1 24 0), .int (S.1 24 1), .int (S.1 24 2), .int (S.1 24 3), .int (S.1 24 4), .ref (E.1 25), .ref (E.1 26)]) := rfl
theorem xt_cl25 (E : xt_Ev) (S : xt_St) : xt_cell E S 25 = .inl (E.2.2.2.1 0, 256, .inl (S.2.1 25)) := rfl
theorem xt_cl26 (E : xt_Ev) (S : xt_St) : xt_cell E S 26 = .inl (E.2.2.2.1 0, 256, .inl (S.2.1 26)) := rfl
theorem xt_cl27 (E : xt_Ev) (S : xt_St) : xt_cell E S 27 = .inr (1, [.int (S.1 27 0), .int (S.1 27 1), .int (S.1 27 2), .int (S.1 27 3), .int (S.1 27 4), .ref (E.1 28), .ref (E.1 29)]) := rfl
theorem xt_cl28 (E : xt_Ev) (S : xt_St) : xt_cell E S 28 = .inl (E.2.2.2.1 0, 256, .inl (S.2.1 28)) := rfl
theorem xt_cl29 (E : xt_Ev) (S : xt_St) : xt_cell E S 29 = .inl (E.2.2.2.1 0, 256, .inl (S.2.1 29)) := rfl
theorem xt_cl30 (E : xt_Ev) (S : xt_St) : xt_cell E S 30 = .inr (1, [.int (S.1 30 0), .int (S.1 30 1), .int (S.1 30 2), .int (S.1 30 3), .int (S.1 30 4), .ref (E.1 31), .ref (E.1 32)]) := rfl
theorem xt_cl31 (E : xt_Ev) (S : xt_St) : xt_cell E S 31 = .inl (E.2.2.2.1 0, 256, .inl (S.2.1 31)) := rfl
theorem xt_cl32 (E : xt_Ev) (S : xt_St) : xt_cell E S 32 = .inl (E.2.2.2.1 0, 256, .inl (S.2.1 32)) := rfl
theorem xt_cl33 (E : xt_Ev) (S : xt_St) : xt_cell E S 33 = .inr (4, [.int (S.1 33 0), .int (S.1 33 1), .int (S.1 33 2), .int (S.1 33 3), .int (S.1 33 4), .int (S.1 33 5), .ref (E.1 34), .ref (E.1 35), .ref (E.1 36), .ref (E.1 37), .ref (E.1 38), .ref (E.1 39), .ref (E.1 40), .ref (E.1 41)]) := rfl
theorem xt_cl34 (E : xt_Ev) (S : xt_St) : xt_cell E S 34 = .inl (E.2.2.2.1 0, 64, .inl (S.2.1 34)) := rfl
theorem xt_cl35 (E : xt_Ev) (S : xt_St) : xt_cell E S 35 = .inl (E.2.2.2.1 0, 64, .inl (S.2.1 35)) := rfl
theorem xt_cl36 (E : xt_Ev) (S : xt_St) : xt_cell E S 36 = .inl (E.2.2.2.1 0, 64, .inl (S.2.1 36)) := rfl
theorem xt_cl37 (E : xt_Ev) (S : xt_St) : xt_cell E S 37 = .inl (E.2.2.2.1 0, 64, .inl (S.2.1 37)) := rfl
theorem xt_cl38 (E : xt_Ev) (S : xt_St) : xt_cell E S 38 = .inl (E.2.2.2.1 0, 64, .inl (S.2.1 38)) := rfl
theorem xt_cl39 (E : xt_Ev) (S : xt_St) : xt_cell E S 39 = .inl (E.2.2.2.1 0, 64, .inl (S.2.1 39)) := rfl
theorem xt_cl40 (E : xt_Ev) (S : xt_St) : xt_cell E S 40 = .inl (E.2.2.2.1 0, 64, .inl (S.2.1 40)) := rfl
theorem xt_cl41 (E : xt_Ev) (S : xt_St) : xt_cell E S 41 = .inl (E.2.2.2.1 0, 8, .inl (S.2.1 41)) := rfl
theorem xt_cl42 (E : xt_Ev) (S : xt_St) : xt_cell E S 42 = .inr (2, [.int (S.1 42 0), .ref (E.1 43), .ref (E.1 44), .ref (E.1 45)]) := rfl
theorem xt_cl43 (E : xt_Ev) (S : xt_St) : xt_cell E S 43 = .inl (E.2.2.2.1 0, 64, .inl (S.2.1 43)) := rfl
theorem xt_cl44 (E : xt_Ev) (S : xt_St) : xt_cell E S 44 = .inl (E.2.2.2.1 0, 64, .inl (S.2.1 44)) := rfl
theorem xt_cl45 (E : xt_Ev) (S : xt_St) : xt_cell E S 45 = .inl (E.2.2.2.1 0, 64, .inl (S.2.1 45)) := rfl
theorem xt_cl46 (E : xt_Ev) (S : xt_St) : xt_cell E S 46 = .inr (3, [.ref (E.1 47), .int (S.1 46 1), .ref (E.1 48), .int (S.1 46 3)]) := rfl
theorem xt_cl47 (E : xt_Ev) (S : xt_St) : xt_cell E S 47 = .inl (E.2.2.2.1 3, 60, .inl (S.2.1 47)) := rfl
theorem xt_cl48 (E : xt_Ev) (S : xt_St) : xt_cell E S 48 = .inl (E.2.2.2.1 0, 20, .inl (S.2.1 48)) := rfl
theorem xt_cl49 (E : xt_Ev) (S : xt_St) : xt_cell E S 49 = .inr (6, [.int (S.1 49 0), .ref (E.1 50), .ref (E.1 51), .int (S.1 49 3), .ref (E.1 52), .int (S.1 49 5), .ref (E.1 53), .ref (E.1 54), .int (S.1 49 8), .int (S.1 49 9), .int (S.1 49 10), .int (S.1 49 11), .int (S.1 49 12), .int (S.1 49 13), .ref (E.1 55), .ref (E.1 56), .int (S.1 49 16), .int (S.1 49 17), .int (S.1 49 18), .ref (E.1 57), .ref (E.1 58), .ref (E.1 59), .ref (E.1 60), .ref (E.1 61), .ref (E.1 62), .ref (E.1 63), .ref (E.1 64), .ref (E.1 65), .ref (E.1 66)]) := rfl
theorem xt_cl50 (E : xt_Ev) (S : xt_St) : xt_cell E S 50 = .inl (E.2.2.2.1 0, 517, .inl (S.2.1 50)) := rfl
theorem xt_cl51 (E : xt_Ev) (S : xt_St) : xt_cell E S 51 = .inl (E.2.2.2.1 0, 4136, .inl (S.2.1 51)) := rfl
theorem xt_cl52 (E : xt_Ev) (S : xt_St) : xt_cell E S 52 = .inl (E.2.2.2.1 0, 517, .inl (S.2.1 52)) := rfl
theorem xt_cl53 (E : xt_Ev) (S : xt_St) : xt_cell E S 53 = .inl (E.2.2.2.1 0, 517, .inl (S.2.1 53)) := rfl
theorem xt_cl54 (E : xt_Ev) (S : xt_St) : xt_cell E S 54 = .inl (E.2.2.2.1 0, 60, .inl (S.2.1 54)) := rfl
theorem xt_cl55 (E : xt_Ev) (S : xt_St) : xt_cell E S 55 = .inl (E.2.2.2.1 0, 64, .inl (S.2.1 55)) := rfl
theorem xt_cl56 (E : xt_Ev) (S : xt_St) : xt_cell E S 56 = .inl (E.2.2.2.1 0, 64, .inl (S.2.1 56)) := rfl
theorem xt_cl57 (E : xt_Ev) (S : xt_St) : xt_cell E S 57 = .inl (E.2.2.2.1 0, 5, .inl (S.2.1 57)) := rfl
theorem xt_cl58 (E : xt_Ev) (S : xt_St) : xt_cell E S 58 = .inl (E.2.2.2.1 0, 5, .inl (S.2.1 58)) := rfl
theorem xt_cl59 (E : xt_Ev) (S : xt_St) : xt_cell E S 59 = .inl (E.2.2.2.1 0, 64, .inl (S.2.1 59)) := rfl
theorem xt_cl60 (E : xt_Ev) (S : xt_St) : xt_cell E S 60 = .inl (E.2.2.2.1 4, 64, .inl (S.2.1 60)) := rfl
theorem xt_cl61 (E : xt_Ev) (S : xt_St) : xt_cell E S 61 = .inl (E.2.2.2.1 0, 64, .inl (S.2.1 61)) := rfl
theorem xt_cl62 (E : xt_Ev) (S : xt_St) : xt_cell E S 62 = .inl (E.2.2.2.1 0, 8, .inl (S.2.1 62)) := rfl
theorem xt_cl63 (E : xt_Ev) (S : xt_St) : xt_cell E S 63 = .inl (E.2.2.2.1 4, 8, .inl (S.2.1 63)) := rfl
theorem xt_cl64 (E : xt_Ev) (S : xt_St) : xt_cell E S 64 = .inl (E.2.2.2.1 1, 64, .inr (.inl (S.2.2.1 64))) := rfl
theorem xt_cl65 (E : xt_Ev) (S : xt_St) : xt_cell E S 65 = .inl (E.2.2.2.1 1, 8, .inr (.inl (S.2.2.1 65))) := rfl
theorem xt_cl66 (E : xt_Ev) (S : xt_St) : xt_cell E S 66 = .inl (E.2.2.2.1 0, 4, .inl (S.2.1 66)) := rfl
theorem xt_cl67 (E : xt_Ev) (S : xt_St) : xt_cell E S 67 = .inl (E.2.2.2.1 1, 1, .inr (.inl (S.2.2.1 67))) := rfl
theorem xt_cl68 (E : xt_Ev) (S : xt_St) : xt_cell E S 68 = .inl (E.2.2.2.1 2, 1, .inr (.inr (.inr (.inl (S.2.2.2 68))))) := rfl
def xt_sN (S : xt_St) (i f : Nat) (v : Int32) : xt_St := (fun i' f' => if i' = i ∧ f' = f then v else S.1 i' f', S.2)
def xt_sA (S : xt_St) (i : Nat) (g : Nat → Int32) : xt_St := (S.1, fun i' => if i' = i then g else S.2.1 i', S.2.2)
def xt_sB (S : xt_St) (i : Nat) (g : Nat → Int64) : xt_St := (S.1, S.2.1, fun i' => if i' = i then g else S.2.2.1 i', S.2.2.2)
def xt_sD (S : xt_St) (i : Nat) (g : Nat → UInt64) : xt_St := (S.1, S.2.1, S.2.2.1, fun i' => if i' = i then g else S.2.2.2 i')
theorem xt_sN_cell (E : xt_Ev) (S : xt_St) {i f : Nat} {v : Int32} {j : Nat} (h : j ≠ i) : xt_cell E (xt_sN S i f v) j = xt_cell E S j := by
  have e : (xt_sN S i f v).1 j = S.1 j := by funext q; simp [xt_sN, h]
  unfold xt_cell
  rw [e]
  rfl
theorem xt_sA_cell (E : xt_Ev) (S : xt_St) {i : Nat} {g : Nat → Int32} {j : Nat} (h : j ≠ i) : xt_cell E (xt_sA S i g) j = xt_cell E S j := by
  have e : (xt_sA S i g).2.1 j = S.2.1 j := by simp [xt_sA, h]
  unfold xt_cell
  rw [e]
  rfl
theorem xt_sB_cell (E : xt_Ev) (S : xt_St) {i : Nat} {g : Nat → Int64} {j : Nat} (h : j ≠ i) : xt_cell E (xt_sB S i g) j = xt_cell E S j := by
  have e : (xt_sB S i g).2.2.1 j = S.2.2.1 j := by simp [xt_sB, h]
  unfold xt_cell
  rw [e]
  rfl
theorem xt_sD_cell (E : xt_Ev) (S : xt_St) {i : Nat} {g : Nat → UInt64} {j : Nat} (h : j ≠ i) : xt_cell E (xt_sD S i g) j = xt_cell E S j := by
  have e : (xt_sD S i g).2.2.2 j = S.2.2.2 j := by simp [xt_sD, h]
  unfold xt_cell
  rw [e]
  rfl
def xt_wl (E : xt_Ev) (S : xt_St) : va_W := (List.range xt_NC).map (fun j => (E.1 j, xt_cell E S j))
def xt_Lk (E : xt_Ev) (S : xt_St) (H : Heap) : Prop := va_P E.2.2.1 vwCl (xt_wl E S) H
def xt_Af (E : xt_Ev) : Nat → Prop := fun q => E.2.1 ≤ q
/-- the cells are apart, and ours -/
def xt_Eo (E : xt_Ev) : Prop := (∀ i j, i < xt_NC → j < xt_NC → E.1 i = E.1 j → i = j) ∧ ∀ i, i < xt_NC → E.2.1 ≤ E.1 i
theorem xt_wl_at {E : xt_Ev} {S : xt_St} {i : Nat} (h : i < xt_NC) : (xt_wl E S)[i]? = some (E.1 i, xt_cell E S i) := by
  simp [xt_wl, List.getElem?_map, List.getElem?_range h]
theorem xt_wl_of {E : xt_Ev} {S : xt_St} {i : Nat} {q : Nat × va_E} (h : (xt_wl E S)[i]? = some q) : i < xt_NC ∧ q = (E.1 i, xt_cell E S i) := by
  have h1 : i < (xt_wl E S).length := (List.getElem?_eq_some_iff.mp h).1
  have h2 : i < xt_NC := by simpa [xt_wl] using h1
  rw [xt_wl_at h2] at h
  exact ⟨h2, (Option.some.inj h).symm⟩
theorem xt_wl_D {E : xt_Ev} (S : xt_St) (h : xt_Eo E) : va_D (xt_Af E) (xt_wl E S) := by
  refine ⟨fun i j p q hp hq e => ?_, fun k q hk => ?_⟩
  · obtain ⟨hi, rfl⟩ := xt_wl_of hp
    obtain ⟨hj, rfl⟩ := xt_wl_of hq
    exact h.1 i j hi hj e
  · obtain ⟨hi, rfl⟩ := xt_wl_of hk
    exact h.2 k hi
/-- one cell changed -/
theorem xt_Lk_set {E : xt_Ev} {S S' : xt_St} {i : Nat} {H : Heap} {e : va_E} (hi : i < xt_NC) (h : va_P E.2.2.1 vwCl ((xt_wl E S).set i (E.1 i, e)) H) (he : xt_cell E S' i = e) (ho : ∀ j, j ≠ i → xt_cell E S' j = xt_cell E S j) : xt_Lk E S' H := by
  intro k q hk
  obtain ⟨hk1, rfl⟩ := xt_wl_of hk
  refine h k _ ?_
  by_cases hki : k = i
  · subst hki
    rw [List.getElem?_set_self (by simpa [xt_wl] using hk1), he]
  · rw [List.getElem?_set_ne (fun z => hki z.symm), xt_wl_at hk1, ho k hki]
def xt_ty (E : xt_Ev) : List (ClassId × FieldType) := [(E.2.2.2.1 0, .int), (E.2.2.2.1 1, .long), (E.2.2.2.1 2, .double), (E.2.2.2.1 3, .char), (E.2.2.2.1 4, .boolean), (E.2.2.2.1 5, .object "WaveletTiler$Picture")]
end XT0
/-! THE WORDS -/
section XT1
def xt_T : List Cond := lw_tbl.filter goodWord
theorem xt_mem {w : Cond} (i : Nat) (h : lw_tbl[i]? = some w) (g : goodWord w = true) : w ∈ xt_T := List.mem_filter.mpr ⟨List.mem_of_getElem? h, g⟩
theorem xt_T_good {w : Cond} (h : w ∈ xt_T) : goodWord w = true := (List.mem_filter.mp h).2
theorem xt_T_in {w : Cond} (h : w ∈ xt_T) : w ∈ lw_tbl := (List.mem_filter.mp h).1
/-- the words of nest mates' private members -/
def xt_isN : Cond → Bool
  | .methodLinkNest .. => true
  | .fieldLinkNest .. => true
  | .declares _ => true
  | .castable _ _ => true
  | _ => false
def xt_nw : List Cond := tables_1.filter xt_isN
theorem xt_nmem {w : Cond} (i : Nat) (h : tables_1[i]? = some w) (g : xt_isN w = true) : w ∈ xt_nw := List.mem_filter.mpr ⟨List.mem_of_getElem? h, g⟩
theorem xt_nw_warm {s U : State} (hW : s.WarmedH U.vm) {w : Cond} (hw : xt_isN w = true) (h : va_Nw w s) : va_Nw w U := by
  cases w with
  | methodLinkNest a i x h9 => exact va_Nw.warmM hW h
  | fieldLinkNest a i b n d h9 => exact va_Nw.warmF hW h
  | declares x => exact va_Nw.warmD hW h
  | castable a b => exact va_Nw.warmC hW h
  | _ => cases hw
theorem xt_nw_tab {w : Cond} (hw : xt_isN w = true) : w.onTables = true := by
  cases w with
  | methodLinkNest a i x h9 => rfl
  | fieldLinkNest a i b n d h9 => rfl
  | declares x => rfl
  | castable a b => rfl
  | _ => cases hw
theorem xt_uw {C : String} {T : u_T} {N : Nat} (h : (u_ws C T N).all (fun w => decide (w ∈ lw_tbl) && goodWord w) = true) : ∀ w ∈ u_ws C T N, w ∈ xt_T := by
  intro w hw
  have h1 := List.all_eq_true.mp h w hw
  simp only [Bool.and_eq_true, decide_eq_true_eq] at h1
  exact List.mem_filter.mpr h1
theorem xt_u0 : ∀ w ∈ u_ws RX0 TX0 3, w ∈ xt_T := xt_uw (by decide +kernel)
theorem xt_u1 : ∀ w ∈ u_ws RX1 TX1 7, w ∈ xt_T := xt_uw (by decide +kernel)
theorem xt_u2 : ∀ w ∈ u_ws RX2 TX2 4, w ∈ xt_T := xt_uw (by decide +kernel)
theorem xt_u3 : ∀ w ∈ u_ws RX3 TX3 4, w ∈ xt_T := xt_uw (by decide +kernel)
theorem xt_u4 : ∀ w ∈ u_ws RX4 TX4 14, w ∈ xt_T := xt_uw (by decide +kernel)
theorem xt_u5 : ∀ w ∈ u_ws RX5 TX5 10, w ∈ xt_T := xt_uw (by decide +kernel)
theorem xt_u6 : ∀ w ∈ u_ws RX6 TX6 29, w ∈ xt_T := xt_uw (by decide +kernel)
/-- the texts: whose, entry, text -/
def xt_tx : List (String × Nat × String) := [("WaveletTiler", 67, "columns and rows are 2 to 16"), ("WaveletTiler", 88, "there is no such setting, or the number is out of range"), ("WaveletTiler", 129, "there is no such number"), ("WaveletTiler", 136, "there is no such pixel"), ("WaveletTiler", 139, "a value is 0 to 255"), ("WaveletTiler", 153, "a corner is not in the image"), ("WaveletTiler", 155, "the first corner is behind the last one"), ("WaveletTiler", 168, "there is no such tile"), ("WaveletTiler", 199, "there is no such number about a tile"), ("WaveletTiler", 201, "the number is -255 to 255"), ("WaveletTiler", 211, "a value would be out of range"), ("WaveletTiler", 223, "the tiles have different sizes"), ("WaveletTiler", 228, "the layers are 0 to 9"), ("WaveletTiler", 241, "there is no such tile or place"), ("WaveletTiler", 249, "the plane is 0 to 8"), ("WaveletTiler", 254, "the layer is -1 to 8"), ("WaveletTiler", 262, "the plane is 0 to 9"), ("WaveletTiler", 282, "the budget is 0 to 9999"), ("WaveletTiler", 304, "there is no plan"), ("WaveletTiler", 307, "there was no such tile"), ("WaveletTiler", 311, "the input has 60 characters"), ("WaveletTiler$Script", 59, "cRcR=hh"), ("WaveletTiler$Script", 61, "cRcR"), ("WaveletTiler$Script", 63, "d"), ("WaveletTiler$Script", 65, ""), ("WaveletTiler", 321, "the input is no text"), ("WaveletTiler", 330, "an item is refused"), ("WaveletTiler", 336, "no fault position was kept"), ("WaveletTiler", 338, "nothing was refused"), ("WaveletTiler", 340, "there is nothing to undo"), ("WaveletTiler", 348, "there is no snapshot")]
def xt_tl : List Nat := [28, 55, 23, 22, 19, 28, 39, 21, 36, 25, 29, 30, 21, 30, 19, 20, 19, 23, 16, 22, 27, 7, 4, 1, 0, 20, 18, 26, 19, 24, 20]
def xt_tb : List (List Int32) := [[99, 111, 108, 117, 109, 110, 115, 32, 97, 110, 100, 32, 114, 111, 119, 115, 32, 97, 114, 101, 32, 50, 32, 116, 111, 32, 49, 54], [116, 104, 101, 114, 101, 32, 105, 115, 32, 110, 111, 32, 115, 117, 99, 104, 32, 115, 101, 116, 116, 105, 110, 103, 44, 32, 111, 114, 32, 116, 104, 101, 32, 110, 117, 109, 98, 101, 114, 32, 105, 115, 32, 111, 117, 116, 32, 111, 102, 32, 114, 97, 110, 103, 101], [116, 104, 101, 114, 101, 32, 105, 115, 32, 110, 111, 32, 115, 117, 99, 104, 32, 110, 117, 109, 98, 101, 114], [116, 104, 101, 114, 101, 32, 105, 115, 32, 110, 111, 32, 115, 117, 99, 104, 32, 112, 105, 120, 101, 108], [97, 32, 118, 97, 108, 117, 101, 32, 105, 115, 32, 48, 32, 116, 111, 32, 50, 53, 53], [97, 32, 99, 111, 114, 110, 101, 114, 32, 105, 115, 32, 110, 111, 116, 32, 105, 110, 32, 116, 104, 101, 32, 105, 109, 97, 103, 101], [116, 104, 101, 32, 102, 105, 114, 115, 116, 32, 99, 111, 114, 110, 101, 114, 32, 105, 115, 32, 98, 101, 104, 105, 110, 100, 32, 116, 104, 101, 32, 108, 97, 115, 116, 32, 111, 110, 101], [116, 104, 101, 114, 101, 32, 105, 115, 32, 110, 111, 32, 115, 117, 99, 104, 32, 116, 105, 108, 101], [116, 104, 101, 114, 101, 32, 105, 115, 32, 110, 111, 32, 115, 117, 99, 104, 32, 110, 117, 109, 98, 101, 114, 32, 97, 98, 111, 117, 116, 32, 97, 32, 116, 105, 108, 101], [116, 104, 101, 32, 110, 117, 109, 98, 101, 114, 32, 105, 115, 32, 45, 50, 53, 53, 32, 116, 111, 32, 50, 53, 53], [97, 32, 118, 97, 108, 117, 101, 32, 119, 111, 117, 108, 100, 32, 98, 101, 32, 111, 117, 116, 32, 111, 102, 32, 114, 97, 110, 103, 101], [116, 104, 101, 32, 116, 105, 108, 101, 115, 32, 104, 97, 118, 101, 32, 100, 105, 102, 102, 101, 114, 101, 110, 116, 32, 115, 105, 122, 101, 115], [116, 104, 101, 32, 108, 97, 121, 101, 114, 115, 32, 97, 114, 101, 32, 48, 32, 116, 111, 32, 57], [116, 104, 101, 114, 101, 32, 105, 115, 32, 110, 111, 32, 115, 117, 99, 104, 32, 116, 105, 108, 101, 32, 111, 114, 32, 112, 108, 97, 99, 101], [116, 104, 101, 32, 112, 108, 97, 110, 101, 32, 105, 115, 32, 48, 32, 116, 111, 32, 56], [116, 104, 101, 32, 108, 97, 121, 101, 114, 32, 105, 115, 32, 45, 49, 32, 116, 111, 32, 56], [116, 104, 101, 32, 112, 108, 97, 110, 101, 32, 105, 115, 32, 48, 32, 116, 111, 32, 57], [116, 104, 101, 32, 98, 117, 100, 103, 101, 116, 32, 105, 115, 32, 48, 32, 116, 111, 32, 57, 57, 57, 57], [116, 104, 101, 114, 101, 32, 105, 115, 32, 110, 111, 32, 112, 108, 97, 110], [116, 104, 101, 114, 101, 32, 119, 97, 115, 32, 110, 111, 32, 115, 117, 99, 104, 32, 116, 105, 108, 101], [116, 104, 101, 32, 105, 110, 112, 117, 116, 32, 104, 97, 115, 32, 54, 48, 32, 99, 104, 97, 114, 97, 99, 116, 101, 114, 115], [99, 82, 99, 82, 61, 104, 104], [99, 82, 99, 82], [100], [], [116, 104, 101, 32, 105, 110, 112, 117, 116, 32, 105, 115, 32, 110, 111, 32, 116, 101, 120, 116], [97, 110, 32, 105, 116, 101, 109, 32, 105, 115, 32, 114, 101, 102, 117, 115, 101, 100], [110, 111, 32, 102, 97, 117, 108, 116, 32, 112, 111, 115, 105, 116, 105, 111, 110, 32, 119, 97, 115, 32, 107, 101, 112, 116], [110, 111, 116, 104, 105, 110, 103, 32, 119, 97, 115, 32, 114, 101, 102, 117, 115, 101, 100], [116, 104, 101, 114, 101, 32, 105, 115, 32, 110, 111, 116, 104, 105, 110, 103, 32, 116, 111, 32, 117, 110, 100, 111], [116, 104, 101, 114, 101, 32, 105, 115, 32, 110, 111, 32, 115, 110, 97, 112, 115, 104, 111, 116]]
/-- what the words say of a method: an instance's, a static one -/
def xt_Mv (y : MethodName) (cy : ByteArray) (ny : Nat) (rt : Option FieldType) (na : Nat) : Prop := Cond.code y cy ny rt ∈ xt_T ∧ Cond.instanceMethod y ∈ xt_T ∧ Cond.selects y.cls y y ∈ xt_T ∧ Cond.initialized y.cls ∈ xt_T ∧ (y.cls ≠ "java/lang/invoke/MethodHandle" ∧ y.cls ≠ "java/lang/invoke/VarHandle") ∧ (parseMethodDescriptor y.desc).map (fun d => d.parameters.length) = some na
def xt_Ms (y : MethodName) (cy : ByteArray) (ny : Nat) (rt : Option FieldType) (na : Nat) : Prop := Cond.code y cy ny rt ∈ xt_T ∧ Cond.static y ∈ xt_T ∧ Cond.initialized y.cls ∈ xt_T ∧ (y.cls ≠ "java/lang/invoke/MethodHandle" ∧ y.cls ≠ "java/lang/invoke/VarHandle") ∧ (parseMethodDescriptor y.desc).map (fun d => d.parameters.length) = some na
end XT1
