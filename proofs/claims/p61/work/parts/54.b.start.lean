-- ===== p61: the object newly made =====
theorem kg_start {σ : St} (hσ : ∀ k j, k < 217 → σ k j = σN0 k j) : KG σ A00 [] none [] none none 0 := by
  refine ⟨⟨fun j hj => ?_, [], List.Perm.nil, ?_, fun q hq => absurd hq (Nat.not_lt_zero q), fun w hw => ⟨?_, fun e he => absurd he List.not_mem_nil⟩⟩, ⟨⟨?_, fun X hX => (by cases hX)⟩, ⟨0, by omega, ?_, ?_, by decide, fun i hi => absurd hi (Nat.not_lt_zero i)⟩, ⟨?_, by decide, fun j hj => absurd hj (Nat.not_lt_zero j)⟩, ?_, ?_⟩, vg_start, fun i hi => absurd hi (Nat.not_lt_zero i), fun X hX => (by cases hX), fun b hb => absurd hb List.not_mem_nil⟩
  · have h9 := List.all_eq_true.mp s0_c j (List.mem_range.mpr (scOk_t.mp hj).1)
    rw [hj] at h9
    simp only [Bool.not_true, Bool.false_or, Bool.and_eq_true, decide_eq_true_eq] at h9
    rw [hσ _ _ (by omega)]
    exact h9.1
  · rw [hσ _ _ (by omega)]; rfl
  · rw [hσ _ _ (by omega)]
    rcases (show w = 0 ∨ w = 1 ∨ w = 2 by omega) with rfl | rfl | rfl <;> rfl
  · rw [hσ _ _ (by omega)]; rfl
  · rw [hσ _ _ (by omega)]; rfl
  · rw [hσ _ _ (by omega)]; rfl
  · rw [hσ _ _ (by omega)]; rfl
  · rw [hσ _ _ (by omega)]; rfl
  · rw [hσ _ _ (by omega)]; rfl

