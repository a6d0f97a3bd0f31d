-- ===== the start: both sides newly made agree =====
def S0 : Nat → Nat := fun j => if 7 ≤ j ∧ j ≤ 9 then 1 else if 16 ≤ j ∧ j ≤ 23 then 3 else 0
def A00 : AM := (S0, [])
/-- the object newly made -/
def σN0 : St := fun k j => if k < 209 then σM0 (k % 19) j else if k = 209 ∧ (j = 8 ∨ j = 9) then mI else if 217 ≤ k ∧ k % 2 = 1 ∧ j = 0 then 7 else 0
theorem s0_c : (List.range 156).all (fun j => !scOk j || (decide (σN0 (0 + lc j) (li j) = nI (S0 j)) && decide (lc j < 19))) = true := by decide +kernel
theorem vg_start : VG A00 0 := by
  refine ⟨⟨List.nodup_nil, fun e he => absurd he List.not_mem_nil, Nat.zero_le _, fun w hw => Or.inl ?_, fun w v hw hv _ => Or.inl ?_, Nat.zero_le _⟩, ⟨⟨by decide, by decide, by decide, by decide⟩, fun w hw => ?_, fun b hb => ?_, fun g hg => ?_, by decide⟩⟩
  · rcases (show w = 0 ∨ w = 1 ∨ w = 2 by omega) with rfl | rfl | rfl <;> rfl
  · rcases (show w = 0 ∨ w = 1 ∨ w = 2 by omega) with rfl | rfl | rfl <;> rfl
  · rcases (show w = 0 ∨ w = 1 ∨ w = 2 by omega) with rfl | rfl | rfl <;> decide
  · rcases (show b = 0 ∨ b = 1 ∨ b = 2 ∨ b = 3 ∨ b = 4 ∨ b = 5 ∨ b = 6 ∨ b = 7 by omega) with rfl | rfl | rfl | rfl | rfl | rfl | rfl | rfl <;> decide
  · rcases (show g = 0 ∨ g = 1 ∨ g = 2 ∨ g = 3 by omega) with rfl | rfl | rfl | rfl <;> decide
