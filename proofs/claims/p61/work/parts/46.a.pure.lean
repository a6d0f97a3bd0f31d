-- ===== a script's command carried out on both sides =====
theorem IS.more {sc : Nat → Nat} {T N T' N' : Nat} (h : IS sc 0 T N) (hT : T ≤ T') (hN : N ≤ N') : IS sc 0 T' N' := ⟨by have := h.1; omega, h.2⟩
section EXS
variable {σ s : St} {m k : Nat} {X : AM} {T N : Nat}
end EXS

