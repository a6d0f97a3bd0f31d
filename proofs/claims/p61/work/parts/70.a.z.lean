def zT (a : Nat) : List Nat := [110, 111, 105, 115, 101, 32, 50, 32, 53, 32] ++ [48 + a / 10, 48 + a % 10] ++ [59, 110, 111, 105, 115, 101, 32, 51, 32, 57, 32, 49, 48, 59, 110, 111, 105, 115, 101, 32, 50, 32, 53, 32, 49, 59, 103, 101, 97, 114, 32, 48, 32, 53, 59, 109, 101, 115, 104, 32, 51, 32, 57]
def Z1 (a : Nat) : AM := (tcS (prS (zT a) 12 0).2.2 0 A00).2
def Z2 (m a : Nat) : AM := (oMesh (Z1 a) 2 m).2.2
def Z3 (m a : Nat) : AM := (oAdv (Z2 m a) 1).2.2
def Z4 (m a : Nat) : AM := (oRel (Z3 m a) 1).2.2
def Z5 (m a : Nat) : AM := (oGear (Z4 m a) 1 3).2.2
def Z6 (m a : Nat) : AM := (oAdv (Z5 m a) 1).2.2
def Z7 (m a : Nat) : AM := (oAdv (Z6 m a) 1).2.2
def Z8 (m a : Nat) : AM := (oClear (Z7 m a) 0).2.2
/-- what depends on the amount alone -/
def zA (a : Nat) : Bool := (prS (zT a) 12 0).1 && (decide ((prS (zT a) 12 0).2.2 = [(0, 2, 5, a), (0, 3, 9, 10), (0, 2, 5, 1), (2, 0, 5, 0), (3, 3, 9, 0)]) && ((tcS (prS (zT a) 12 0).2.2 0 A00).1.isNone && (decide ((Z1 a).1 18 = 3) && ((zT a).all fun b => decide (32 ≤ b) && decide (b ≤ 126)))))
def zB2 (m a : Nat) : Bool := decide ((oMesh (Z1 a) 2 m).1 = 0) && (decide (wN (Z2 m a) = 3) && (decide ((atR (Z2 m a) 0).1 = 1) && (decide ((atR (Z2 m a) 1).1 = 0) && (decide ((Z2 m a).2.length = 3) && (decide (((Z2 m a).2.getD 2 z4).1 = 2) && (wt (Z2 m a).1 ((Z2 m a).2.getD 2 z4) && (decide (rk (Z2 m a).1 (Z2 m a).2 ((Z2 m a).2.getD 2 z4) = 2) && (decide (lS (Z2 m a) = 19) && decide ((spN 1 (Z2 m a)).1 3 - (Z2 m a).1 3 = 13)))))))))
def zB3 (m a : Nat) : Bool := decide ((oAdv (Z2 m a) 1).1 = 0) && (decide ((Z3 m a).2 = [(0, 2, 5, a - 2)]) && (decide ((Z3 m a).1 6 = 2) && (decide ((Z3 m a).1 132 = 1) && (decide ((Z3 m a).1 140 = 0) && (decide ((Z3 m a).1 148 = 1) && (decide ((Z3 m a).1 133 = 2) && (decide ((Z3 m a).1 141 = 2) && (decide ((Z3 m a).1 14 = 1) && (decide ((Z3 m a).1 31 = 1) && (decide ((Z3 m a).1 47 = 1) && (decide ((Z3 m a).1 4 = 9 + 2 * m / 10) && (decide ((Z3 m a).1 (28 + m / 3) = 1 + (2 - 2 * m / 10)) && (decide ((Z3 m a).1 10 = 5) && (decide ((Z3 m a).1 11 = 1) && (decide ((Z3 m a).1 12 = 1) && (decide ((Z3 m a).1 8 = 1) && (jamO 0 61 0 (Z3 m a)).isNone))))))))))))))))
def zB4 (m a : Nat) : Bool := decide ((oRel (Z3 m a) 1).1 = 0) && (decide ((Z4 m a).2 = [(0, 2, 5, a - 2)]) && (wt (Z4 m a).1 (0, 2, 5, a - 2) && (decide ((oGear (Z4 m a) 1 3).1 = 0) && (decide ((Z4 m a).1 8 = 1) && (decide ((oAdv (Z5 m a) 1).1 = 0) && (decide ((spN 1 (Z5 m a)).1 3 - (Z5 m a).1 3 = 10) && (decide ((Z6 m a).1 13 = 1) && (decide ((Z6 m a).1 10 = 10) && (decide ((Z6 m a).2 = [(0, 2, 5, a - 12)]) && (decide ((oAdv (Z6 m a) 1).1 = 0) && (decide ((spN 1 (Z6 m a)).1 3 - (Z6 m a).1 3 = min 10 (a - 12)) && (decide ((Z7 m a).1 10 = 15) && (decide ((oClear (Z7 m a) 0).1 = 0) && (decide ((Z8 m a).1 10 = 0) && decide ((Z7 m a).1 3 = 23 + min 10 (a - 12))))))))))))))))
theorem z_0 : wN A00 = 0 ∧ (spN 60 A00).1 3 - A00.1 3 = 0 ∧ wrk A00 2 = 2 ∧ wrk A00 0 ≠ 2 ∧ wrk A00 1 ≠ 2 ∧ brk A00 7 = 7 ∧ (List.range 7).all (fun v => decide (brk A00 v ≠ 7)) = true ∧ (oRem A00 0).1 = 3 ∧ (oRel A00 0).1 = 3 ∧ (oShip A00 0 1).1 = 5 := by decide +kernel
theorem z_A : (List.range 32).all (fun c => zA (20 + c)) = true := by decide +kernel
theorem z_2 : (List.range 8).all (fun m => (List.range 32).all fun c => zB2 m (20 + c)) = true := by decide +kernel
theorem z_3 : (List.range 8).all (fun m => (List.range 32).all fun c => zB3 m (20 + c)) = true := by decide +kernel
theorem z_4 : (List.range 8).all (fun m => (List.range 32).all fun c => zB4 m (20 + c)) = true := by decide +kernel
