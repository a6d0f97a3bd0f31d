-- ===== a script read on both sides =====
theorem argS_pos {B : List Nat} {k : Nat} {x : Bool × Nat} : x.2 ≤ (argS B k x).1.2 ∧ (argS B k x).1.2 ≤ x.2 + 9 := by
  have d1 := dgS_pos (B := B) (n := 1) (x := x)
  have d2 := dgS_pos (B := B) (n := 2) (x := x)
  have e1 := dgS_pos (B := B) (n := 1) (x := (dgS B 1 x).1)
  have e2 := dgS_pos (B := B) (n := 2) (x := (dgS B 1 (dgS B 1 x).1).1)
  unfold argS
  (repeat' split) <;> refine ⟨?_, ?_⟩ <;> dsimp only <;> omega
theorem cmdS_pos {B : List Nat} {p : Nat} : p ≤ (cmdS B p).1.2 ∧ (cmdS B p).1.2 ≤ p + 17 ∧ ((cmdS B p).1.1 = true → p + 4 ≤ (cmdS B p).1.2) := by
  have h1 := argS_pos (B := B) (k := (wdS B p).1) (x := (wdS B p).2)
  have h2 := wdS_pos (B := B) (p := p)
  unfold cmdS
  refine ⟨by omega, by omega, fun h => ?_⟩
  by_cases c : (wdS B p).2.1 = true
  · have := (wdS_ok c).2
    omega
  · have e : (wdS B p).2 = (false, (wdS B p).2.2) := Prod.ext (Bool.eq_false_iff.mpr c) rfl
    rw [e, argS_f] at h
    exact absurd h Bool.false_ne_true
theorem cmdS_out {B : List Nat} {p : Nat} (h : B.length ≤ p) : cmdS B p = ((false, p), (0, 0, 0)) := by
  have e := cb_out h
  unfold cmdS wdS
  rw [e]
  rfl
def FrC (σ τ : St) : Prop := ∀ c j, ¬ (c = 214 ∧ (j = 2 ∨ j = 4)) → c < 217 → τ c j = σ c j
theorem na_le {k : Nat} (h : k < 8) : na k ≤ 3 := by
  rcases (show k = 0 ∨ k = 1 ∨ k = 2 ∨ k = 3 ∨ k = 4 ∨ k = 5 ∨ k = 6 ∨ k = 7 by omega) with rfl | rfl | rfl | rfl | rfl | rfl | rfl | rfl <;> decide
section PL
variable {m : Nat} {B : List Nat}
theorem cl_pr_S (k : Nat) (x : Int32) (σ : St) : fX8_parse_L12 m (k + 1) x σ = fX8_parse_L12b m (fX8_parse_L12 m k) x σ := rfl
end PL

