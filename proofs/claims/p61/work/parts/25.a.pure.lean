-- ===== the abstract step, and how the reference does it =====
abbrev AM : Type := (Nat → Nat) × List E4
def grA (sc : Nat → Nat) (w : Nat) (e : E4) : Nat := if e.2.2.2 ≤ 2 * sc (7 + w) then e.2.2.2 else 2 * sc (7 + w)
def saL (sc : Nat → Nat) (b gr : Nat) : Nat := gr * sc (16 + b) / 10
def saG (sc : Nat → Nat) (b : Nat) : Nat := sc (16 + b) / 3
def saS (sc : Nat → Nat) (b gr : Nat) : Nat := if 139 - sc (28 + saG sc b) ≤ gr - saL sc b gr then 139 - sc (28 + saG sc b) else gr - saL sc b gr
def saSc (sc : Nat → Nat) (b gr : Nat) : Nat → Nat :=
  upN (upN (upN (upN sc 4 (sc 4 + saL sc b gr)) 5 (sc 5 + (gr - saL sc b gr - saS sc b gr))) (28 + saG sc b) (sc (28 + saG sc b) + saS sc b gr)) (32 + 4 * b + saG sc b) (sc (32 + 4 * b + saG sc b) + saS sc b gr)
def gdSc (sc : Nat → Nat) (w : Nat) (e : E4) : Nat → Nat := upN (upN (upN sc (10 + w) (sc (10 + w) + sc (7 + w))) 3 (sc 3 + grA sc w e)) (64 + e.2.1) 1
def fiSc (sc : Nat → Nat) (w n : Nat) : Nat → Nat :=
  upN (upN (upN (upN (upN sc (132 + sc 6 % 8) n) (140 + sc 6 % 8) w) (148 + sc 6 % 8) (sc 0)) 6 (sc 6 + 1)) (13 + w) 0
def spGrind (A : AM) (w i : Nat) : AM :=
  if (A.2.getD i z4).2.2.2 ≤ 2 * A.1 (7 + w) then (fiSc (saSc (gdSc A.1 w (A.2.getD i z4)) (A.2.getD i z4).2.1 (grA A.1 w (A.2.getD i z4))) w (A.2.getD i z4).1, A.2.eraseIdx i)
  else (saSc (gdSc A.1 w (A.2.getD i z4)) (A.2.getD i z4).2.1 (grA A.1 w (A.2.getD i z4)), A.2.set i ((A.2.getD i z4).1, (A.2.getD i z4).2.1, (A.2.getD i z4).2.2.1, (A.2.getD i z4).2.2.2 - 2 * A.1 (7 + w)))
def spAct (A : AM) (w : Nat) : AM :=
  if 12 ≤ A.1 (10 + w) then A
  else if A.1 (13 + w) = 0 then
    match (List.range A.2.length).find? (fun p => wt A.1 (A.2.getD p z4) && rk A.1 A.2 (A.2.getD p z4) == 0) with
    | none => A
    | some p => spGrind (upN A.1 (13 + w) ((A.2.getD p z4).1 + 1), A.2) w p
  else
    match (List.range A.2.length).find? (fun p => A.1 (13 + w) == (A.2.getD p z4).1 + 1) with
    | none => A
    | some p => spGrind A w p
def spStep (A : AM) : AM := spAct (spAct (spAct (upN A.1 0 (A.1 0 + 1), A.2) 0) 1) 2
def spN : Nat → AM → AM
  | 0, A => A
  | n + 1, A => spN n (spStep A)
/-- the least of the waiting noises has rank 0 -/
theorem rk_first {sc : Nat → Nat} {L : List E4} (hn : (L.map (·.1)).Nodup) (h : L.countP (wt sc) ≠ 0) : ∃ e ∈ L, wt sc e = true ∧ rk sc L e = 0 := by
  have key : ∀ d, ∀ e ∈ L, wt sc e = true → rk sc L e ≤ d → ∃ f ∈ L, wt sc f = true ∧ rk sc L f = 0 := by
    intro d
    induction d with
    | zero => exact fun e he hw hr => ⟨e, he, hw, by omega⟩
    | succ d ih =>
      intro e he hw hr
      by_cases c : rk sc L e = 0
      · exact ⟨e, he, hw, c⟩
      · obtain ⟨f, hf, hq⟩ := List.countP_pos_iff.mp (Nat.pos_of_ne_zero c)
        rw [Bool.and_eq_true] at hq
        have := rk_lt hf hq.1 hq.2
        exact ih f hf hq.1 (by omega)
  obtain ⟨e, he, hw⟩ := List.countP_pos_iff.mp (Nat.pos_of_ne_zero h)
  exact key _ e he hw (Nat.le_refl _)
/-- what a wheel does -/
theorem spAct_cases {A : AM} (hI : IN A.1 A.2) {w : Nat} (hw : w < 3) :
    (12 ≤ A.1 (10 + w) ∧ spAct A w = A) ∨ (A.1 (10 + w) < 12 ∧ A.1 (13 + w) = 0 ∧ A.2.countP (wt A.1) = 0 ∧ spAct A w = A) ∨
    (A.1 (10 + w) < 12 ∧ A.1 (13 + w) = 0 ∧ ∃ p, p < A.2.length ∧ wt A.1 (A.2.getD p z4) = true ∧ rk A.1 A.2 (A.2.getD p z4) = 0 ∧ spAct A w = spGrind (upN A.1 (13 + w) ((A.2.getD p z4).1 + 1), A.2) w p) ∨
    (A.1 (10 + w) < 12 ∧ ∃ p, p < A.2.length ∧ A.1 (13 + w) = (A.2.getD p z4).1 + 1 ∧ spAct A w = spGrind A w p) := by
  by_cases c1 : 12 ≤ A.1 (10 + w)
  · exact Or.inl ⟨c1, if_pos c1⟩
  · refine Or.inr ?_
    by_cases c2 : A.1 (13 + w) = 0
    · unfold spAct
      rw [if_neg c1, if_pos c2]
      cases hf : (List.range A.2.length).find? (fun p => wt A.1 (A.2.getD p z4) && rk A.1 A.2 (A.2.getD p z4) == 0) with
      | none =>
        refine Or.inl ⟨by omega, c2, ?_, rfl⟩
        by_cases c3 : A.2.countP (wt A.1) = 0
        · exact c3
        · obtain ⟨e, he, hwe, hr⟩ := rk_first hI.1 c3
          obtain ⟨p, hp, rfl⟩ := mem_getD he
          have := List.find?_eq_none.mp hf p (List.mem_range.mpr hp)
          rw [hwe, hr] at this
          exact absurd rfl this
      | some p =>
        have h1 := List.find?_some hf
        have h2 := List.mem_range.mp (List.mem_of_find?_eq_some hf)
        rw [Bool.and_eq_true, beq_iff_eq] at h1
        exact Or.inr (Or.inl ⟨by omega, c2, p, h2, h1.1, h1.2, rfl⟩)
    · unfold spAct
      rw [if_neg c1, if_neg c2]
      cases hf : (List.range A.2.length).find? (fun p => A.1 (13 + w) == (A.2.getD p z4).1 + 1) with
      | none =>
        rcases hI.2.2.2.1 w hw with q | ⟨e, he, q⟩
        · exact absurd q c2
        · obtain ⟨p, hp, rfl⟩ := mem_getD he
          have := List.find?_eq_none.mp hf p (List.mem_range.mpr hp)
          rw [q, beq_self_eq_true] at this
          exact absurd rfl this
      | some p =>
        have h1 := List.find?_some hf
        have h2 := List.mem_range.mp (List.mem_of_find?_eq_some hf)
        rw [beq_iff_eq] at h1
        exact Or.inr (Or.inr ⟨by omega, p, h2, h1, rfl⟩)
-- the reference's rows moved and copied
section RF
variable {s : St} {sc : Nat → Nat} {L : List E4} {m : Nat}
/-- what sacking leaves of the bounds -/
theorem sa_bd {b gr : Nat} (h1 : sc (16 + b) ≤ 9) (h2 : sc (28 + saG sc b) ≤ 139) (h3 : gr ≤ 60) : saG sc b < 4 ∧ gr * sc (16 + b) ≤ 540 ∧ saL sc b gr ≤ gr ∧ saS sc b gr ≤ gr - saL sc b gr ∧ sc (28 + saG sc b) + saS sc b gr ≤ 139 := by
  have q1 : gr * sc (16 + b) ≤ gr * 9 := Nat.mul_le_mul_left gr h1
  refine ⟨?_, by omega, ?_, ?_, ?_⟩
  · unfold saG
    omega
  · unfold saL
    omega
  · unfold saS
    split <;> omega
  · unfold saS
    split <;> omega
end RF

