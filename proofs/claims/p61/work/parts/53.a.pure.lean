-- ===== a script carried out =====
theorem OB_eta {f : Option (Int32 × St)} : (OB f fun r s => some (r, s)) = f := by
  cases f <;> rfl
section TC
variable {m : Nat}
theorem cl_tc_S (k : Nat) (x : Int32) (σ : St) : fX11_tryCommands_L13 m (k + 1) x σ = fX11_tryCommands_L13b m (fX11_tryCommands_L13 m k) x σ := rfl
end TC
section CA
variable {σ s : St} {m C : Nat} {T : List Nat}
theorem CX.of2 {σ τ : St} {H : List AM} {S : Option AM} {B B' : List Nat} {er fl er' fl' : Option Nat} (h : CX σ H S B er fl) (hc : ∀ c, 38 ≤ c → c < 211 → c ≠ 209 → τ c = σ c) (h3 : τ 209 3 = σ 209 3) (h1 : τ 214 1 = nI B'.length ∧ B'.length ≤ 60 ∧ ∀ j, j < B'.length → τ 215 j = nI (B'.getD j 0)) (h8 : τ 209 8 = oI er') (h9 : τ 209 9 = oI fl') : CX τ H S B' er' fl' := by
  obtain ⟨⟨a1, a2⟩, ⟨nx, b1, b2, b3, b4, b5⟩, -, d1, d2⟩ := h
  exact ⟨⟨by rw [h3]; exact a1, fun X hX => (a2 X hX).of fun c hc9 => hc _ (by omega) (by omega) (by omega)⟩, ⟨nx, b1, by rw [hc _ (by omega) (by omega) (by omega)]; exact b2, by rw [hc _ (by omega) (by omega) (by omega)]; exact b3, b4, fun i hi => (b5 i hi).of fun c hc9 => hc _ (by omega) (by omega) (by omega)⟩, h1, h8, h9⟩
end CA

