-- ===== a script read: one command on both sides =====
def aN (x : Nat × Nat × Nat) (i : Nat) : Nat := if i = 0 then x.1 else if i = 1 then x.2.1 else x.2.2
def na (k : Nat) : Nat := [3, 1, 2, 2, 1, 1, 2, 1].getD k 0
def lt (k : Nat) : Nat := [110, 100, 103, 109, 99, 114, 104, 115].getD k 0
theorem dgS_pos {B : List Nat} {n : Nat} {x : Bool × Nat} : x.2 ≤ (dgS B n x).1.2 ∧ (dgS B n x).1.2 ≤ x.2 + 3 ∧ (dgS B n x).2 < 1000 + 1000 * cb B (x.2 + 1) + cb B (x.2 + 2) := by
  unfold dgS
  split
  · split
    · split
      · exact ⟨by show x.2 ≤ x.2 + 3; omega, by show x.2 + 3 ≤ _; omega, by show 10 * _ + _ < _; omega⟩
      · exact ⟨by show x.2 ≤ x.2 + 2; omega, by show x.2 + 2 ≤ _; omega, by show _ - 48 < _; omega⟩
    · exact ⟨by show x.2 ≤ x.2 + 1; omega, by show x.2 + 1 ≤ _; omega, by show 0 < _; omega⟩
  · exact ⟨by show x.2 ≤ x.2; omega, by show x.2 ≤ _; omega, by show 0 < _; omega⟩
theorem nds_pos {B : List Nat} {w : List Nat} {q : Nat} : q ≤ (nds B w (true, q)).2 ∧ (nds B w (true, q)).2 ≤ q + w.length := by
  rw [nds_ml]
  have := ml_le (B := B) (w := w) (p := q)
  split
  · exact ⟨by show q ≤ q + _; omega, Nat.le_refl _⟩
  · exact ⟨by show q ≤ q + _; omega, by show q + _ ≤ _; omega⟩
theorem wdS_pos {B : List Nat} {p : Nat} : p ≤ (wdS B p).2.2 ∧ (wdS B p).2.2 ≤ p + 8 := by
  unfold wdS
  (repeat' split)
  all_goals first | exact ⟨Nat.le_trans (Nat.le_succ p) nds_pos.1, Nat.le_trans nds_pos.2 (by simp only [List.length_cons, List.length_nil]; omega)⟩ | exact ⟨Nat.le_refl p, by show p ≤ _; omega⟩
theorem wdS_ok {B : List Nat} {p : Nat} (h : (wdS B p).2.1 = true) : (wdS B p).1 < 8 ∧ p + 4 ≤ (wdS B p).2.2 := by
  have key : ∀ (w : List Nat) (q : Nat), (nds B w (true, q)).1 = true → (nds B w (true, q)).2 = q + w.length := fun w q h => by
    rw [nds_ml] at h ⊢
    split
    · rfl
    · rename_i c
      rw [if_neg c] at h
      cases h
  unfold wdS at h ⊢
  by_cases c0 : cb B p = 110
  · rw [if_pos c0] at h ⊢
    have e := key _ _ h
    refine ⟨by show 0 < 8; omega, ?_⟩
    show p + 4 ≤ (nds B _ (true, p + 1)).2
    rw [e]
    show p + 4 ≤ p + 1 + 4
    omega
  rw [if_neg c0] at h ⊢
  by_cases c1 : cb B p = 100
  · rw [if_pos c1] at h ⊢
    have e := key _ _ h
    refine ⟨by show 1 < 8; omega, ?_⟩
    show p + 4 ≤ (nds B _ (true, p + 1)).2
    rw [e]
    show p + 4 ≤ p + 1 + 3
    omega
  rw [if_neg c1] at h ⊢
  by_cases c2 : cb B p = 103
  · rw [if_pos c2] at h ⊢
    have e := key _ _ h
    refine ⟨by show 2 < 8; omega, ?_⟩
    show p + 4 ≤ (nds B _ (true, p + 1)).2
    rw [e]
    show p + 4 ≤ p + 1 + 3
    omega
  rw [if_neg c2] at h ⊢
  by_cases c3 : cb B p = 109
  · rw [if_pos c3] at h ⊢
    have e := key _ _ h
    refine ⟨by show 3 < 8; omega, ?_⟩
    show p + 4 ≤ (nds B _ (true, p + 1)).2
    rw [e]
    show p + 4 ≤ p + 1 + 3
    omega
  rw [if_neg c3] at h ⊢
  by_cases c4 : cb B p = 99
  · rw [if_pos c4] at h ⊢
    have e := key _ _ h
    refine ⟨by show 4 < 8; omega, ?_⟩
    show p + 4 ≤ (nds B _ (true, p + 1)).2
    rw [e]
    show p + 4 ≤ p + 1 + 4
    omega
  rw [if_neg c4] at h ⊢
  by_cases c5 : cb B p = 114
  · rw [if_pos c5] at h ⊢
    have e := key _ _ h
    refine ⟨by show 5 < 8; omega, ?_⟩
    show p + 4 ≤ (nds B _ (true, p + 1)).2
    rw [e]
    show p + 4 ≤ p + 1 + 6
    omega
  rw [if_neg c5] at h ⊢
  by_cases cs : cb B p = 115
  · rw [if_pos cs] at h ⊢
    by_cases ch : cb B (p + 1) = 104
    · rw [if_pos ch] at h ⊢
      have e := key _ _ h
      refine ⟨by show 6 < 8; omega, ?_⟩
      show p + 4 ≤ (nds B _ (true, p + 1)).2
      rw [e]
      show p + 4 ≤ p + 1 + 3
      omega
    · rw [if_neg ch] at h ⊢
      have e := key _ _ h
      refine ⟨by show 7 < 8; omega, ?_⟩
      show p + 4 ≤ (nds B _ (true, p + 1)).2
      rw [e]
      show p + 4 ≤ p + 1 + 3
      omega
  rw [if_neg cs] at h
  cases h
section SP
variable {σ : St} {m : Nat} {B : List Nat} {p : Nat}
theorem dgS_1 {n q : Nat} (h1 : cb B q = 32) (h2 : dig B (q + 1) = true) (h3 : ¬ (n = 2 ∧ dig B (q + 2) = true)) : dgS B n (true, q) = ((true, q + 2), cb B (q + 1) - 48) := by
  unfold dgS
  rw [if_pos ⟨rfl, h1⟩, if_pos h2, if_neg h3]
theorem dgS_2 {n q : Nat} (h1 : cb B q = 32) (h2 : dig B (q + 1) = true) (h3 : n = 2 ∧ dig B (q + 2) = true) : dgS B n (true, q) = ((true, q + 3), 10 * (cb B (q + 1) - 48) + (cb B (q + 2) - 48)) := by
  unfold dgS
  rw [if_pos ⟨rfl, h1⟩, if_pos h2, if_pos h3]
theorem dgS_b {n q : Nat} (h1 : cb B q = 32) (h2 : ¬ dig B (q + 1) = true) : dgS B n (true, q) = ((false, q + 1), 0) := by
  unfold dgS
  rw [if_pos ⟨rfl, h1⟩, if_neg h2]
theorem dgS_n {n : Nat} {x : Bool × Nat} (h1 : ¬ (x.1 = true ∧ cb B x.2 = 32)) : dgS B n x = ((false, x.2), 0) := if_neg h1
theorem cl_rc_S (k1 r : Nat) (x1 x2 : Int32) (σ : St) : fX8_readCommand_L18 m k1 (r + 1) x1 x2 σ = fX8_readCommand_L18b m k1 (fX8_readCommand_L18 m k1 r) x1 x2 σ := rfl
/-- one digit argument -/
theorem cl_d1 {k1 k i r D : Nat} (hS : SB σ B) (hB : bOk B) (hp : σ 214 2 = nI p) (hp9 : p < 900) (hk1 : 217 ≤ k1) (hk : k < 8) (hD : kDig.getD k (nI 0) = nI D) (hi : i < D) (hD3 : D ≤ 2) : ∃ τ, (((dgS B 1 (true, p)).1.1 = true → fX8_readCommand_L18 m k1 (r + 1) (nI k) (nI i) σ = fX8_readCommand_L18 m k1 r (nI k) (nI (i + 1)) τ ∧ τ (k1 + 1) i = nI (dgS B 1 (true, p)).2) ∧ (¬ (dgS B 1 (true, p)).1.1 = true → fX8_readCommand_L18 m k1 (r + 1) (nI k) (nI i) σ = some (nI 0, τ))) ∧ τ 214 2 = nI (dgS B 1 (true, p)).1.2 ∧ ∀ c j, ¬ (c = 214 ∧ j = 2) → ¬ (c = k1 + 1 ∧ j = i) → τ c j = σ c j := by
  have e1 := cl_skip (c := 32) hS hB hp (by omega) (by omega)
  by_cases c1 : cb B p = 32
  · rw [if_pos c1] at e1
    have hS1 : SB (u2 σ 214 2 (nI (p + 1))) B := hS.of (pu_u2n (by omega)) (pu_u2r (by omega))
    have hp1 : (u2 σ 214 2 (nI (p + 1))) 214 2 = nI (p + 1) := pu_u2e ⟨rfl, rfl⟩
    have e2 := cl_isDig hS1 hB hp1 (by omega)
    by_cases c2 : dig B (p + 1) = true
    · rw [if_pos c2] at e2
      have e3 := cl_readDigit hS1 hB hp1 c2
      rw [dgS_1 c1 c2 (fun h => by omega)]
      refine ⟨u2 (u2 (u2 σ 214 2 (nI (p + 1))) 214 2 (nI (p + 1 + 1))) (k1 + 1) i (nI (cb B (p + 1) - 48)), ⟨fun _ => ⟨?_, pu_u2e ⟨rfl, rfl⟩⟩, fun h => absurd rfl h⟩, by rw [pu_u2n (by omega), pu_u2e ⟨rfl, rfl⟩], fun c j a b => by rw [pu_u2n (by omega), pu_u2n (by omega), pu_u2n (by omega)]⟩
      simp (disch := omega) only [pu_OB, pu_LET, pu_OX0, pu_BND, pu_NZ, pu_BL, pu_m1, nI_add, pk_sub, pk_mul, pk_div, nI_clamp, pu_eq, pu_ne, pu_le_t, pu_le_f, pu_lt_t, pu_lt_f, pu_nm, pu_mm, pu_u2e, pu_u2n, ↓reduceIte, li0, li1, li2, li3, li4, li5, li6, li7, li8, li9, li10, li11, li12, li13, li14, li15, li16, li17, li18, li19, li20, li21, li22, li23, li24, li25, li26, li27, li28, li29, li30, li31, li32, li33, li34, li35, li36, li37, li38, li39, li40, li41, li42, li43, li44, li45, li46, li47, li48, li49, li50, li51, li52, li53, li54, li55, li56, li57, li58, li59, li60, li64, li72, li87, li97, li98, li99, li100, li101, li102, li103, li104, li105, li108, li109, li110, li111, li112, li114, li115, li116, li117, li119, li120, li124, li126, li132, li139, li140, li148, li156, li1000, li1092, li1248, cl_rc_S, fX8_readCommand_L18b, hD, e1, e2, e3]
    · rw [if_neg c2] at e2
      rw [dgS_b c1 c2]
      refine ⟨u2 σ 214 2 (nI (p + 1)), ⟨fun h => absurd h Bool.false_ne_true, fun _ => ?_⟩, pu_u2e ⟨rfl, rfl⟩, fun c j a b => pu_u2n (by omega)⟩
      simp (disch := omega) only [pu_OB, pu_LET, pu_OX0, pu_BND, pu_NZ, pu_BL, pu_m1, nI_add, pk_sub, pk_mul, pk_div, nI_clamp, pu_eq, pu_ne, pu_le_t, pu_le_f, pu_lt_t, pu_lt_f, pu_nm, pu_mm, pu_u2e, pu_u2n, ↓reduceIte, li0, li1, li2, li3, li4, li5, li6, li7, li8, li9, li10, li11, li12, li13, li14, li15, li16, li17, li18, li19, li20, li21, li22, li23, li24, li25, li26, li27, li28, li29, li30, li31, li32, li33, li34, li35, li36, li37, li38, li39, li40, li41, li42, li43, li44, li45, li46, li47, li48, li49, li50, li51, li52, li53, li54, li55, li56, li57, li58, li59, li60, li64, li72, li87, li97, li98, li99, li100, li101, li102, li103, li104, li105, li108, li109, li110, li111, li112, li114, li115, li116, li117, li119, li120, li124, li126, li132, li139, li140, li148, li156, li1000, li1092, li1248, cl_rc_S, fX8_readCommand_L18b, hD, e1, e2]
  · rw [if_neg c1] at e1
    rw [dgS_n (x := (true, p)) (fun h => c1 h.2)]
    refine ⟨σ, ⟨fun h => absurd h Bool.false_ne_true, fun _ => ?_⟩, hp, fun c j a b => rfl⟩
    simp (disch := omega) only [pu_OB, pu_LET, pu_OX0, pu_BND, pu_NZ, pu_BL, pu_m1, nI_add, pk_sub, pk_mul, pk_div, nI_clamp, pu_eq, pu_ne, pu_le_t, pu_le_f, pu_lt_t, pu_lt_f, pu_nm, pu_mm, pu_u2e, pu_u2n, ↓reduceIte, li0, li1, li2, li3, li4, li5, li6, li7, li8, li9, li10, li11, li12, li13, li14, li15, li16, li17, li18, li19, li20, li21, li22, li23, li24, li25, li26, li27, li28, li29, li30, li31, li32, li33, li34, li35, li36, li37, li38, li39, li40, li41, li42, li43, li44, li45, li46, li47, li48, li49, li50, li51, li52, li53, li54, li55, li56, li57, li58, li59, li60, li64, li72, li87, li97, li98, li99, li100, li101, li102, li103, li104, li105, li108, li109, li110, li111, li112, li114, li115, li116, li117, li119, li120, li124, li126, li132, li139, li140, li148, li156, li1000, li1092, li1248, cl_rc_S, fX8_readCommand_L18b, hD, e1]
/-- the number at a command's end -/
def rl (B : List Nat) (k q : Nat) : (Bool × Nat) × Nat := if k = 7 ∧ ¬ cb B q = 32 then ((true, q), 1) else dgS B 2 (true, q)
theorem cl_last {k1 k D nn : Nat} (hS : SB σ B) (hB : bOk B) (hp : σ 214 2 = nI p) (hp9 : p < 900) (hk1 : 217 ≤ k1) (hk : k < 8) (hD : kDig.getD k (nI 0) = nI D) (hD3 : D ≤ 2) (hN : kNee.getD k (nI 0) = nI nn) (hnn : (k = 7 → nn = 0) ∧ (k ≠ 7 → nn = 1)) : ∃ τ, fX8_readLastNumber k1 (nI k) σ = some (nI (if (rl B k p).1.1 = true then 1 else 0), τ) ∧ τ 214 2 = nI (rl B k p).1.2 ∧ ((rl B k p).1.1 = true → τ (k1 + 1) D = nI (rl B k p).2) ∧ ∀ c j, ¬ (c = 214 ∧ j = 2) → ¬ (c = k1 + 1 ∧ j = D) → τ c j = σ c j := by
  have e1 := cl_skip (c := 32) hS hB hp (by omega) (by omega)
  by_cases c1 : cb B p = 32
  · rw [if_pos c1] at e1
    rw [show rl B k p = dgS B 2 (true, p) from if_neg (fun h => h.2 c1)]
    have hS1 : SB (u2 σ 214 2 (nI (p + 1))) B := hS.of (pu_u2n (by omega)) (pu_u2r (by omega))
    have hp1 : (u2 σ 214 2 (nI (p + 1))) 214 2 = nI (p + 1) := pu_u2e ⟨rfl, rfl⟩
    have e2 := cl_isDig hS1 hB hp1 (by omega)
    by_cases c2 : dig B (p + 1) = true
    · rw [if_pos c2] at e2
      have e3 := cl_readDigit hS1 hB hp1 c2
      have hS2 : SB (u2 (u2 σ 214 2 (nI (p + 1))) 214 2 (nI (p + 1 + 1))) B := hS1.of (pu_u2n (by omega)) (pu_u2r (by omega))
      have hp2 : (u2 (u2 σ 214 2 (nI (p + 1))) 214 2 (nI (p + 1 + 1))) 214 2 = nI (p + 2) := pu_u2e ⟨rfl, rfl⟩
      have e4 := cl_isDig hS2 hB hp2 (by omega)
      have b1 := cb_le hB (i := p + 1)
      have b2 := cb_le hB (i := p + 2)
      by_cases c3 : dig B (p + 2) = true
      · rw [if_pos c3] at e4
        have e5 := cl_readDigit hS2 hB hp2 c3
        rw [dgS_2 c1 c2 ⟨rfl, c3⟩]
        have em : (cb B (p + 1) - 48) * 10 + (cb B (p + 2) - 48) = 10 * (cb B (p + 1) - 48) + (cb B (p + 2) - 48) := by rw [Nat.mul_comm]
        refine ⟨u2 (u2 (u2 (u2 σ 214 2 (nI (p + 1))) 214 2 (nI (p + 1 + 1))) 214 2 (nI (p + 2 + 1))) (k1 + 1) D (nI (10 * (cb B (p + 1) - 48) + (cb B (p + 2) - 48))), ?_, by rw [pu_u2n (by omega), pu_u2e ⟨rfl, rfl⟩], fun _ => pu_u2e ⟨rfl, rfl⟩, fun c j a b => by rw [pu_u2n (by omega), pu_u2n (by omega), pu_u2n (by omega), pu_u2n (by omega)]⟩
        show _ = some (nI 1, _)
        unfold fX8_readLastNumber fX8_readLastNumber_B75
        simp (disch := omega) only [pu_OB, pu_LET, pu_OX0, pu_BND, pu_NZ, pu_BL, pu_m1, nI_add, pk_sub, pk_mul, pk_div, nI_clamp, pu_eq, pu_ne, pu_le_t, pu_le_f, pu_lt_t, pu_lt_f, pu_nm, pu_mm, pu_u2e, pu_u2n, ↓reduceIte, li0, li1, li2, li3, li4, li5, li6, li7, li8, li9, li10, li11, li12, li13, li14, li15, li16, li17, li18, li19, li20, li21, li22, li23, li24, li25, li26, li27, li28, li29, li30, li31, li32, li33, li34, li35, li36, li37, li38, li39, li40, li41, li42, li43, li44, li45, li46, li47, li48, li49, li50, li51, li52, li53, li54, li55, li56, li57, li58, li59, li60, li64, li72, li87, li97, li98, li99, li100, li101, li102, li103, li104, li105, li108, li109, li110, li111, li112, li114, li115, li116, li117, li119, li120, li124, li126, li132, li139, li140, li148, li156, li1000, li1092, li1248, hD, hN, e1, e2, e3, e4, e5, em]
      · rw [if_neg c3] at e4
        rw [dgS_1 c1 c2 (fun h => c3 h.2)]
        refine ⟨u2 (u2 (u2 σ 214 2 (nI (p + 1))) 214 2 (nI (p + 1 + 1))) (k1 + 1) D (nI (cb B (p + 1) - 48)), ?_, by rw [pu_u2n (by omega), pu_u2e ⟨rfl, rfl⟩], fun _ => pu_u2e ⟨rfl, rfl⟩, fun c j a b => by rw [pu_u2n (by omega), pu_u2n (by omega), pu_u2n (by omega)]⟩
        show _ = some (nI 1, _)
        unfold fX8_readLastNumber fX8_readLastNumber_B75
        simp (disch := omega) only [pu_OB, pu_LET, pu_OX0, pu_BND, pu_NZ, pu_BL, pu_m1, nI_add, pk_sub, pk_mul, pk_div, nI_clamp, pu_eq, pu_ne, pu_le_t, pu_le_f, pu_lt_t, pu_lt_f, pu_nm, pu_mm, pu_u2e, pu_u2n, ↓reduceIte, li0, li1, li2, li3, li4, li5, li6, li7, li8, li9, li10, li11, li12, li13, li14, li15, li16, li17, li18, li19, li20, li21, li22, li23, li24, li25, li26, li27, li28, li29, li30, li31, li32, li33, li34, li35, li36, li37, li38, li39, li40, li41, li42, li43, li44, li45, li46, li47, li48, li49, li50, li51, li52, li53, li54, li55, li56, li57, li58, li59, li60, li64, li72, li87, li97, li98, li99, li100, li101, li102, li103, li104, li105, li108, li109, li110, li111, li112, li114, li115, li116, li117, li119, li120, li124, li126, li132, li139, li140, li148, li156, li1000, li1092, li1248, hD, hN, e1, e2, e3, e4]
    · rw [if_neg c2] at e2
      rw [dgS_b c1 c2]
      refine ⟨u2 σ 214 2 (nI (p + 1)), ?_, pu_u2e ⟨rfl, rfl⟩, fun h => absurd h Bool.false_ne_true, fun c j a b => pu_u2n (by omega)⟩
      show _ = some (nI 0, _)
      unfold fX8_readLastNumber
      simp (disch := omega) only [pu_OB, pu_LET, pu_OX0, pu_BND, pu_NZ, pu_BL, pu_m1, nI_add, pk_sub, pk_mul, pk_div, nI_clamp, pu_eq, pu_ne, pu_le_t, pu_le_f, pu_lt_t, pu_lt_f, pu_nm, pu_mm, pu_u2e, pu_u2n, ↓reduceIte, li0, li1, li2, li3, li4, li5, li6, li7, li8, li9, li10, li11, li12, li13, li14, li15, li16, li17, li18, li19, li20, li21, li22, li23, li24, li25, li26, li27, li28, li29, li30, li31, li32, li33, li34, li35, li36, li37, li38, li39, li40, li41, li42, li43, li44, li45, li46, li47, li48, li49, li50, li51, li52, li53, li54, li55, li56, li57, li58, li59, li60, li64, li72, li87, li97, li98, li99, li100, li101, li102, li103, li104, li105, li108, li109, li110, li111, li112, li114, li115, li116, li117, li119, li120, li124, li126, li132, li139, li140, li148, li156, li1000, li1092, li1248, hD, hN, e1, e2]
  · rw [if_neg c1] at e1
    by_cases c7 : k = 7
    · rw [show rl B k p = ((true, p), 1) from if_pos ⟨c7, c1⟩]
      have h0 := hnn.1 c7
      refine ⟨u2 σ (k1 + 1) D (nI 1), ?_, by rw [pu_u2n (by omega)]; exact hp, fun _ => pu_u2e ⟨rfl, rfl⟩, fun c j a b => pu_u2n (by omega)⟩
      show _ = some (nI 1, _)
      unfold fX8_readLastNumber
      simp (disch := omega) only [pu_OB, pu_LET, pu_OX0, pu_BND, pu_NZ, pu_BL, pu_m1, nI_add, pk_sub, pk_mul, pk_div, nI_clamp, pu_eq, pu_ne, pu_le_t, pu_le_f, pu_lt_t, pu_lt_f, pu_nm, pu_mm, pu_u2e, pu_u2n, ↓reduceIte, li0, li1, li2, li3, li4, li5, li6, li7, li8, li9, li10, li11, li12, li13, li14, li15, li16, li17, li18, li19, li20, li21, li22, li23, li24, li25, li26, li27, li28, li29, li30, li31, li32, li33, li34, li35, li36, li37, li38, li39, li40, li41, li42, li43, li44, li45, li46, li47, li48, li49, li50, li51, li52, li53, li54, li55, li56, li57, li58, li59, li60, li64, li72, li87, li97, li98, li99, li100, li101, li102, li103, li104, li105, li108, li109, li110, li111, li112, li114, li115, li116, li117, li119, li120, li124, li126, li132, li139, li140, li148, li156, li1000, li1092, li1248, hD, hN, e1]
    · rw [show rl B k p = dgS B 2 (true, p) from if_neg (fun h => c7 h.1), dgS_n (x := (true, p)) (fun h => c1 h.2)]
      have h0 := hnn.2 c7
      refine ⟨u2 σ (k1 + 1) D (nI 1), ?_, by rw [pu_u2n (by omega)]; exact hp, fun h => absurd h Bool.false_ne_true, fun c j a b => pu_u2n (by omega)⟩
      show _ = some (nI 0, _)
      unfold fX8_readLastNumber
      simp (disch := omega) only [pu_OB, pu_LET, pu_OX0, pu_BND, pu_NZ, pu_BL, pu_m1, nI_add, pk_sub, pk_mul, pk_div, nI_clamp, pu_eq, pu_ne, pu_le_t, pu_le_f, pu_lt_t, pu_lt_f, pu_nm, pu_mm, pu_u2e, pu_u2n, ↓reduceIte, li0, li1, li2, li3, li4, li5, li6, li7, li8, li9, li10, li11, li12, li13, li14, li15, li16, li17, li18, li19, li20, li21, li22, li23, li24, li25, li26, li27, li28, li29, li30, li31, li32, li33, li34, li35, li36, li37, li38, li39, li40, li41, li42, li43, li44, li45, li46, li47, li48, li49, li50, li51, li52, li53, li54, li55, li56, li57, li58, li59, li60, li64, li72, li87, li97, li98, li99, li100, li101, li102, li103, li104, li105, li108, li109, li110, li111, li112, li114, li115, li116, li117, li119, li120, li124, li126, li132, li139, li140, li148, li156, li1000, li1092, li1248, hD, hN, e1]
end SP


