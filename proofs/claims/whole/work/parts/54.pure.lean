-- ===== the start: both sides newly made agree =====
def S0 : Nat → Nat := fun j => if 7 ≤ j ∧ j ≤ 9 then 1 else if 16 ≤ j ∧ j ≤ 23 then 3 else 0
def A00 : AM := (S0, [])
/-- the object newly made -/
def σN0 : St := fun k j => if k < 209 then σM0 (k % 19) j else if k = 209 ∧ (j = 8 ∨ j = 9) then mI else if 217 ≤ k ∧ k % 2 = 1 ∧ j = 0 then 7 else 0
theorem s0_c : (List.range 156).all (fun j => !scOk j || (decide (σN0 (0 + lc j) (li j) = nI (S0 j)) && decide (lc j < 19))) = true := by decide +kernel
theorem s0_r : (List.range 156).all (fun j => decide (σR0 1 j = nI (S0 j))) = true := by decide +kernel
theorem vg_start : VG A00 0 := by
  refine ⟨⟨List.nodup_nil, fun e he => absurd he List.not_mem_nil, Nat.zero_le _, fun w hw => Or.inl ?_, fun w v hw hv _ => Or.inl ?_, Nat.zero_le _⟩, ⟨⟨by decide, by decide, by decide, by decide⟩, fun w hw => ?_, fun b hb => ?_, fun g hg => ?_, by decide⟩⟩
  · rcases (show w = 0 ∨ w = 1 ∨ w = 2 by omega) with rfl | rfl | rfl <;> rfl
  · rcases (show w = 0 ∨ w = 1 ∨ w = 2 by omega) with rfl | rfl | rfl <;> rfl
  · rcases (show w = 0 ∨ w = 1 ∨ w = 2 by omega) with rfl | rfl | rfl <;> decide
  · rcases (show b = 0 ∨ b = 1 ∨ b = 2 ∨ b = 3 ∨ b = 4 ∨ b = 5 ∨ b = 6 ∨ b = 7 by omega) with rfl | rfl | rfl | rfl | rfl | rfl | rfl | rfl <;> decide
  · rcases (show g = 0 ∨ g = 1 ∨ g = 2 ∨ g = 3 by omega) with rfl | rfl | rfl | rfl <;> decide
theorem gg_start {σ s : St} (hσ : ∀ k j, k < 217 → σ k j = σN0 k j) (hs : ∀ k j, k < 8 → s k j = σR0 k j) : GG σ s 0 [] := by
  have n0 : ∀ {P : Nat → Prop} {i : Nat}, i < ([] : List Nat).length → P i := fun h => absurd h (Nat.not_lt_zero _)
  refine ⟨A00, [], none, [], none, none, ⟨fun j hj => ?_, [], List.Perm.nil, ?_, fun q hq => absurd hq (Nat.not_lt_zero q), fun w hw => ⟨?_, fun e he => absurd he List.not_mem_nil⟩⟩, ⟨⟨?_, fun X hX => (by cases hX)⟩, ⟨0, by omega, ?_, ?_, by decide, fun i hi => absurd hi (Nat.not_lt_zero i)⟩, ⟨?_, by decide, fun j hj => absurd hj (Nat.not_lt_zero j)⟩, ?_, ?_⟩, ⟨fun j h1 h2 h3 => ?_, ?_, fun p hp => absurd hp (Nat.not_lt_zero p)⟩, ⟨⟨?_, fun X hX => (by cases hX)⟩, ⟨?_, by decide, fun i hi => absurd hi (Nat.not_lt_zero i)⟩, ⟨?_, by decide, fun j hj => absurd hj (Nat.not_lt_zero j)⟩, ?_, ?_, ?_, by decide, fun j hj => absurd hj (Nat.not_lt_zero j)⟩, vg_start, fun i hi => absurd hi (Nat.not_lt_zero i), fun X hX => (by cases hX), fun b hb => absurd hb List.not_mem_nil, fun b hb => absurd hb List.not_mem_nil⟩
  · have h9 := List.all_eq_true.mp s0_c j (List.mem_range.mpr (scOk_t.mp hj).1)
    rw [hj] at h9
    simp only [Bool.not_true, Bool.false_or, Bool.and_eq_true, decide_eq_true_eq] at h9
    rw [hσ _ _ (by omega)]
    exact h9.1
  · rw [hσ _ _ (by omega)]; rfl
  · rw [hσ _ _ (by omega)]
    rcases (show w = 0 ∨ w = 1 ∨ w = 2 by omega) with rfl | rfl | rfl <;> rfl
  · rw [hσ _ _ (by omega)]; rfl
  · rw [hσ _ _ (by omega)]; rfl
  · rw [hσ _ _ (by omega)]; rfl
  · rw [hσ _ _ (by omega)]; rfl
  · rw [hσ _ _ (by omega)]; rfl
  · rw [hσ _ _ (by omega)]; rfl
  · rw [hs _ _ (by omega)]
    have h9 := List.all_eq_true.mp s0_r j (List.mem_range.mpr h1)
    exact of_decide_eq_true h9
  · rw [hs _ _ (by omega)]; rfl
  · rw [hs _ _ (by omega)]; rfl
  · rw [hs _ _ (by omega)]; rfl
  · rw [hs _ _ (by omega)]; rfl
  · rw [hs _ _ (by omega)]; rfl
  · rw [hs _ _ (by omega)]; rfl
  · rw [hs _ _ (by omega)]; rfl
