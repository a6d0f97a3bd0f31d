-- ===== what one call keeps: the relation of object and reference =====
def bOk (B : List Nat) : Prop := ∀ b ∈ B, 32 ≤ b ∧ b ≤ 126
def tOk (T : List Nat) : Prop := ∀ t ∈ T, t < 256
def rcode (f : Nat) : Nat := [0, 2, 1, 3, 4, 5].getD f 0
theorem cl_refuse {f : Nat} {σ : St} (hf : f < 6) : fX11_refuse (nI f) σ = some ((rcode f, 0), σ) := by
  rcases (show f = 0 ∨ f = 1 ∨ f = 2 ∨ f = 3 ∨ f = 4 ∨ f = 5 by omega) with rfl | rfl | rfl | rfl | rfl | rfl <;> rfl
theorem vg_push {H : List AM} {A : AM} {C : Nat} (hA : VG A C) (hH : ∀ i, i < H.length → VG (H.getD i A0) C) : ∀ i, i < (pushH H A).length → VG ((pushH H A).getD i A0) (C + 1) := by
  intro i hi
  rw [push_get]
  rw [push_len] at hi
  by_cases c : H.length = 8
  · rw [if_pos c] at hi ⊢
    by_cases c7 : i < 7
    · rw [if_pos c7]
      exact (hH _ (by omega)).mono (by omega)
    · rw [if_neg c7, if_pos (by omega)]
      exact hA.mono (by omega)
  · rw [if_neg c] at hi ⊢
    by_cases c7 : i < H.length
    · rw [if_pos c7]
      exact (hH _ c7).mono (by omega)
    · rw [if_neg c7, if_pos (by omega)]
      exact hA.mono (by omega)
section CH
variable {σ s : St} {m C : Nat} {A X : AM} {H : List AM} {S : Option AM} {B : List Nat} {er fl : Option Nat} {T : List Nat} {codes : List Nat}
end CH
section CA
variable {σ s : St} {m C : Nat} {T : List Nat}
theorem VG.up {A X : AM} {C T' N' : Nat} (h : IN X.1 X.2 ∧ IS X.1 0 T' N') (hT : T' ≤ 480 * (C + 1)) (hN : N' ≤ 12 * (C + 1)) : VG X (C + 1) := ⟨h.1, by have := h.2.1; omega, h.2.2⟩
end CA

