-- ===== the reference's rows copied; its changes =====
section RF
variable {s : St} {m : Nat}
def spAdd (A : AM) (b l a : Nat) : AM := (upN A.1 1 (A.1 1 + 1), A.2 ++ [(A.1 1, b, l, a)])
end RF

