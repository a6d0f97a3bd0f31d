-- ===== p61: a script: read, tried, run =====
/-- what the reading of a text gives: whether it is well formed, where it ends, its commands -/
def prS (B : List Nat) : Nat → Nat → Bool × Nat × List (Nat × (Nat × Nat × Nat))
  | 0, p => (false, p, [])
  | d + 1, p => if (cmdS B p).1.1 = true then (if cb B (cmdS B p).1.2 = 59 then ((prS B d ((cmdS B p).1.2 + 1)).1, (prS B d ((cmdS B p).1.2 + 1)).2.1, ((wdS B p).1, (cmdS B p).2) :: (prS B d ((cmdS B p).1.2 + 1)).2.2) else if B.length ≤ (cmdS B p).1.2 then (true, (cmdS B p).1.2, [((wdS B p).1, (cmdS B p).2)]) else (false, (cmdS B p).1.2, [])) else (false, (cmdS B p).1.2, [])
theorem prS_S (B : List Nat) (d p : Nat) : prS B (d + 1) p = if (cmdS B p).1.1 = true then (if cb B (cmdS B p).1.2 = 59 then ((prS B d ((cmdS B p).1.2 + 1)).1, (prS B d ((cmdS B p).1.2 + 1)).2.1, ((wdS B p).1, (cmdS B p).2) :: (prS B d ((cmdS B p).1.2 + 1)).2.2) else if B.length ≤ (cmdS B p).1.2 then (true, (cmdS B p).1.2, [((wdS B p).1, (cmdS B p).2)]) else (false, (cmdS B p).1.2, [])) else (false, (cmdS B p).1.2, []) := rfl
abbrev CW : Type := Nat × (Nat × Nat × Nat)
def z5 : CW := (0, (0, 0, 0))
/-- the commands read so far -/
def CMc (σ : St) (Q : Nat → CW) (j : Nat) : Prop := ∀ i, i < j → (Q i).1 < 8 ∧ σ (217 + 2 * i) 0 = nI (Q i).1 ∧ ∀ a, a < na (Q i).1 → σ (217 + 2 * i + 1) a = nI (aN (Q i).2 a)
theorem CMc.of {σ τ : St} {Q : Nat → CW} {J : Nat} (h : CMc σ Q J) (h1 : ∀ c, 217 ≤ c → τ c = σ c) : CMc τ Q J := fun i hi => by
  rw [h1 _ (by omega), h1 _ (by omega)]
  exact h i hi
section PK
variable {m : Nat} {B : List Nat}
theorem pks_loop (hF : 2000 ≤ m) (hB : bOk B) : ∀ d j f1 p (σ : St) (Q : Nat → CW), d + j = 12 → 5 * j ≤ p → p ≤ 20 * j → d < f1 → SB σ B → σ 214 2 = nI p → CMc σ Q j → ∃ τ : St, fX8_parse_L12 m f1 (nI j) σ = some (nI (if (prS B d p).1 = true then 1 else 0), τ) ∧ FrC σ τ ∧ ((prS B d p).1 = false → (prS B d p).2.1 < 1000 ∧ τ 214 2 = nI (prS B d p).2.1) ∧ ((prS B d p).1 = true → ∃ Q' : Nat → CW, 0 < (prS B d p).2.2.length ∧ j + (prS B d p).2.2.length ≤ 12 ∧ CMc τ Q' (j + (prS B d p).2.2.length) ∧ τ 214 4 = nI (j + (prS B d p).2.2.length) ∧ (∀ i, i < j → Q' i = Q i) ∧ ∀ t, t < (prS B d p).2.2.length → Q' (j + t) = (prS B d p).2.2.getD t z5) := by
  intro d
  induction d with
  | zero =>
    intro j f1 p σ Q h1 h2 h3 h4 hS hp hQ
    obtain ⟨f1, rfl⟩ : ∃ q, f1 = q + 1 := ⟨f1 - 1, by omega⟩
    obtain rfl : j = 12 := by omega
    refine ⟨σ, ?_, fun _ _ _ _ => rfl, fun _ => ⟨by show p < 1000; omega, hp⟩, fun h => absurd h Bool.false_ne_true⟩
    rw [cl_pr_S]
    unfold fX8_parse_L12b
    simp (disch := omega) only [pu_OB, pu_LET, pu_OX0, pu_BND, pu_NZ, pu_BL, pu_m1, nI_add, pk_sub, pk_mul, pk_div, nI_clamp, pu_eq, pu_ne, pu_le_t, pu_le_f, pu_lt_t, pu_lt_f, pu_nm, pu_mm, pu_u2e, pu_u2n, ↓reduceIte, li0, li1, li2, li3, li4, li5, li6, li7, li8, li9, li10, li11, li12, li13, li14, li15, li16, li17, li18, li19, li20, li21, li22, li23, li24, li25, li26, li27, li28, li29, li30, li31, li32, li33, li34, li35, li36, li37, li38, li39, li40, li41, li42, li43, li44, li45, li46, li47, li48, li49, li50, li51, li52, li53, li54, li55, li56, li57, li58, li59, li60, li64, li72, li87, li97, li98, li99, li100, li101, li102, li103, li104, li105, li108, li109, li110, li111, li112, li114, li115, li116, li117, li119, li120, li124, li126, li132, li139, li140, li148, li156, li1000, li1092, li1248]
    rfl
  | succ d ih =>
    intro j f1 p σ Q h1 h2 h3 h4 hS hp hQ
    obtain ⟨f1, rfl⟩ : ∃ q, f1 = q + 1 := ⟨f1 - 1, by omega⟩
    have hl := hS.2.1
    have hcp := cmdS_pos (B := B) (p := p)
    obtain ⟨υ, u1, u2x, u3, u4⟩ := cl_readCmd (m := m) (k1 := 217 + 2 * j) hF hS hB hp (by omega) (by omega)
    rw [prS_S]
    generalize hc : cmdS B p = c at *
    by_cases ok : c.1.1 = true
    · rw [if_pos ok]
      obtain ⟨v1, v2, v3⟩ := u4 ok
      rw [if_pos ok] at u1
      have hp4 := hcp.2.2 ok
      generalize c.1.2 = q at *
      have hSυ : SB (u2 υ 214 4 (nI (j + 1))) B := (hS.pf u3 (by omega)).of (by rw [pu_u2n (by omega)]) (by rw [pu_u2r (by omega)])
      have hna := na_le v1
      have hQ' : ∀ {τ : St}, (∀ r, τ (217 + r) = υ (217 + r)) → CMc τ (va_up Q j ((wdS B p).1, c.2)) (j + 1) := fun {τ} hτ i hi => by
        have r1 : τ (217 + 2 * i) = υ (217 + 2 * i) := hτ _
        have r2 : τ (217 + 2 * i + 1) = υ (217 + 2 * i + 1) := hτ (2 * i + 1)
        rw [r1, r2]
        by_cases g : i = j
        · subst g
          rw [pu_upe rfl]
          exact ⟨v1, v2, v3⟩
        · rw [pu_upn g]
          obtain ⟨g1, g2, g4⟩ := hQ i (by omega)
          refine ⟨g1, by rw [u3 _ _ (by omega) (by omega) (by omega)]; exact g2, fun a ha => ?_⟩
          have := na_le g1
          rw [u3 _ _ (by omega) (by omega) (by omega)]
          exact g4 a ha
      have hsk := cl_skip (σ := u2 υ 214 4 (nI (j + 1))) (p := q) (c := 59) hSυ hB (by rw [pu_u2n (by omega)]; exact u2x) (by omega) (by omega)
      have hlen : υ 214 1 = nI B.length := (hS.pf u3 (by omega)).1
      by_cases h59 : cb B q = 59
      · have hlt := cb_lt (B := B) (i := q) (by omega)
        rw [if_pos h59] at hsk
        rw [if_pos h59]
        obtain ⟨τ, a1, a2, a4, a5⟩ := ih (j + 1) f1 (q + 1) (u2 (u2 υ 214 4 (nI (j + 1))) 214 2 (nI (q + 1))) (va_up Q j ((wdS B p).1, c.2)) (by omega) (by omega) (by omega) (by omega) (hSυ.of (by rw [pu_u2n (by omega)]) (by rw [pu_u2r (by omega)])) (pu_u2e ⟨rfl, rfl⟩) (hQ' (fun r => by rw [pu_u2r (by omega), pu_u2r (by omega)]))
        generalize prS B d (q + 1) = P at *
        refine ⟨τ, ?_, fun i a x y => by rw [a2 i a x y, pu_u2n (by omega), pu_u2n (by omega)]; exact u3 i a (by omega) (by omega) (by omega), a4, fun h => ?_⟩
        · rw [cl_pr_S]
          unfold fX8_parse_L12b
          simp (disch := omega) only [pu_OB, pu_LET, pu_OX0, pu_BND, pu_NZ, pu_BL, pu_m1, nI_add, pk_sub, pk_mul, pk_div, nI_clamp, pu_eq, pu_ne, pu_le_t, pu_le_f, pu_lt_t, pu_lt_f, pu_nm, pu_mm, pu_u2e, pu_u2n, ↓reduceIte, li0, li1, li2, li3, li4, li5, li6, li7, li8, li9, li10, li11, li12, li13, li14, li15, li16, li17, li18, li19, li20, li21, li22, li23, li24, li25, li26, li27, li28, li29, li30, li31, li32, li33, li34, li35, li36, li37, li38, li39, li40, li41, li42, li43, li44, li45, li46, li47, li48, li49, li50, li51, li52, li53, li54, li55, li56, li57, li58, li59, li60, li64, li72, li87, li97, li98, li99, li100, li101, li102, li103, li104, li105, li108, li109, li110, li111, li112, li114, li115, li116, li117, li119, li120, li124, li126, li132, li139, li140, li148, li156, li1000, li1092, li1248, u1, u2x, hlen, hsk]
          exact a1
        · obtain ⟨Q', b1, b2, b3, b4, b5, b6⟩ := a5 h
          have e : j + (P.2.2.length + 1) = j + 1 + P.2.2.length := by omega
          refine ⟨Q', Nat.succ_pos _, by rw [List.length_cons]; omega, by rw [List.length_cons, e]; exact b3, by rw [List.length_cons, e]; exact b4, fun i hi => by rw [b5 i (by omega), pu_upn (by omega)], fun t ht => ?_⟩
          rw [List.length_cons] at ht
          cases t with
          | zero =>
            rw [Nat.add_zero, b5 j (by omega), pu_upe rfl]
            rfl
          | succ t =>
            rw [show j + (t + 1) = j + 1 + t by omega, b6 t (by omega)]
            rfl
      · rw [if_neg h59] at hsk
        rw [if_neg h59]
        by_cases hlt : q < B.length
        · rw [if_neg (show ¬ B.length ≤ q by omega)]
          refine ⟨u2 υ 214 4 (nI (j + 1)), ?_, fun i a x y => by rw [pu_u2n (by omega)]; exact u3 i a (by omega) (by omega) (by omega), fun _ => ⟨by show q < 1000; omega, by rw [pu_u2n (by omega)]; exact u2x⟩, fun h => absurd h Bool.false_ne_true⟩
          rw [cl_pr_S]
          unfold fX8_parse_L12b
          simp (disch := omega) only [pu_OB, pu_LET, pu_OX0, pu_BND, pu_NZ, pu_BL, pu_m1, nI_add, pk_sub, pk_mul, pk_div, nI_clamp, pu_eq, pu_ne, pu_le_t, pu_le_f, pu_lt_t, pu_lt_f, pu_nm, pu_mm, pu_u2e, pu_u2n, ↓reduceIte, li0, li1, li2, li3, li4, li5, li6, li7, li8, li9, li10, li11, li12, li13, li14, li15, li16, li17, li18, li19, li20, li21, li22, li23, li24, li25, li26, li27, li28, li29, li30, li31, li32, li33, li34, li35, li36, li37, li38, li39, li40, li41, li42, li43, li44, li45, li46, li47, li48, li49, li50, li51, li52, li53, li54, li55, li56, li57, li58, li59, li60, li64, li72, li87, li97, li98, li99, li100, li101, li102, li103, li104, li105, li108, li109, li110, li111, li112, li114, li115, li116, li117, li119, li120, li124, li126, li132, li139, li140, li148, li156, li1000, li1092, li1248, u1, u2x, hlen, hsk]
          rfl
        · rw [if_pos (show B.length ≤ q by omega)]
          refine ⟨u2 υ 214 4 (nI (j + 1)), ?_, fun i a x y => by rw [pu_u2n (by omega)]; exact u3 i a (by omega) (by omega) (by omega), fun h => absurd h.symm Bool.false_ne_true, fun _ => ⟨va_up Q j ((wdS B p).1, c.2), Nat.one_pos, by show j + 1 ≤ 12; omega, hQ' (fun r => by rw [pu_u2r (by omega)]), pu_u2e ⟨rfl, rfl⟩, fun i hi => pu_upn (by omega), fun t ht => ?_⟩⟩
          · rw [cl_pr_S]
            unfold fX8_parse_L12b
            simp (disch := omega) only [pu_OB, pu_LET, pu_OX0, pu_BND, pu_NZ, pu_BL, pu_m1, nI_add, pk_sub, pk_mul, pk_div, nI_clamp, pu_eq, pu_ne, pu_le_t, pu_le_f, pu_lt_t, pu_lt_f, pu_nm, pu_mm, pu_u2e, pu_u2n, ↓reduceIte, li0, li1, li2, li3, li4, li5, li6, li7, li8, li9, li10, li11, li12, li13, li14, li15, li16, li17, li18, li19, li20, li21, li22, li23, li24, li25, li26, li27, li28, li29, li30, li31, li32, li33, li34, li35, li36, li37, li38, li39, li40, li41, li42, li43, li44, li45, li46, li47, li48, li49, li50, li51, li52, li53, li54, li55, li56, li57, li58, li59, li60, li64, li72, li87, li97, li98, li99, li100, li101, li102, li103, li104, li105, li108, li109, li110, li111, li112, li114, li115, li116, li117, li119, li120, li124, li126, li132, li139, li140, li148, li156, li1000, li1092, li1248, u1, u2x, hlen]
          · have ht : t < 1 := ht
            obtain rfl : t = 0 := by omega
            rw [Nat.add_zero, pu_upe rfl]
            rfl
    · rw [if_neg ok] at u1
      rw [if_neg ok]
      generalize c.1.2 = q at *
      refine ⟨υ, ?_, fun i a x y => u3 i a (by omega) (by omega) (by omega), fun _ => ⟨by show q < 1000; omega, u2x⟩, fun h => absurd h Bool.false_ne_true⟩
      rw [cl_pr_S]
      unfold fX8_parse_L12b
      simp (disch := omega) only [pu_OB, pu_LET, pu_OX0, pu_BND, pu_NZ, pu_BL, pu_m1, nI_add, pk_sub, pk_mul, pk_div, nI_clamp, pu_eq, pu_ne, pu_le_t, pu_le_f, pu_lt_t, pu_lt_f, pu_nm, pu_mm, pu_u2e, pu_u2n, ↓reduceIte, li0, li1, li2, li3, li4, li5, li6, li7, li8, li9, li10, li11, li12, li13, li14, li15, li16, li17, li18, li19, li20, li21, li22, li23, li24, li25, li26, li27, li28, li29, li30, li31, li32, li33, li34, li35, li36, li37, li38, li39, li40, li41, li42, li43, li44, li45, li46, li47, li48, li49, li50, li51, li52, li53, li54, li55, li56, li57, li58, li59, li60, li64, li72, li87, li97, li98, li99, li100, li101, li102, li103, li104, li105, li108, li109, li110, li111, li112, li114, li115, li116, li117, li119, li120, li124, li126, li132, li139, li140, li148, li156, li1000, li1092, li1248, u1]
      rfl
end PK
/-- a command on a mill -/
def oCmd (k : Nat) (v : Nat × Nat × Nat) (X : AM) : OU := if k = 0 then oAdd X (aN v 0) (aN v 1) (aN v 2) else if k = 1 then oRem X (aN v 0) else if k = 2 then oGear X (aN v 0) (aN v 1) else if k = 3 then oMesh X (aN v 0) (aN v 1) else if k = 4 then oClear X (aN v 0) else if k = 5 then oRel X (aN v 0) else if k = 6 then oShip X (aN v 0) (aN v 1) else oAdv X (aN v 0)
theorem XO.map {k : Nat} {fo opc fo' opc' : St → Option (Int32 × St)} {σ : St} {X : AM} {T N : Nat} {o : OU} (h : XO k fo opc σ X T N o) (h1 : ∀ f, f < 6 → fo σ = some (nI f, σ) → fo' σ = some (nI f, σ)) (h2 : ∀ r τ, opc σ = some (r, τ) → opc' σ = some (r, τ)) : XO k fo' opc' σ X T N o := by
  rcases h with ⟨a, b, ⟨τ, c, d⟩, e⟩ | ⟨a, b, c, d⟩
  · exact Or.inl ⟨a, h1 0 (by omega) b, ⟨τ, h2 _ _ c, d⟩, e⟩
  · exact Or.inr ⟨a, b, c, h1 _ b d⟩
section TK
variable {m : Nat}
theorem xo_cmd {σ : St} {X : AM} {T N i k : Nat} {v : Nat × Nat × Nat} (hF : 2000 ≤ m) (hi : i < 12) (hk : k < 8) (hC : CR σ 19 X) (hI : IN X.1 X.2) (hs : IS X.1 0 T N) (hT : T + 40 < 10 ^ 7) (hN : N < 10 ^ 7) (h1 : σ (217 + 2 * i) 0 = nI k) (h3 : ∀ a, a < na k → σ (217 + 2 * i + 1) a = nI (aN v a)) (hb9 : ∀ a, a < 3 → aN v a < 2 ^ 31) : XO 19 (fX11_faultOfCommand m 19 (217 + 2 * i)) (fX11_perform m 19 (217 + 2 * i)) σ X T N (oCmd k v X) := by
  have b0 := hb9 0 (by omega)
  have b1 := hb9 1 (by omega)
  have b2 := hb9 2 (by omega)
  rcases (show k = 0 ∨ k = 1 ∨ k = 2 ∨ k = 3 ∨ k = 4 ∨ k = 5 ∨ k = 6 ∨ k = 7 by omega) with rfl | rfl | rfl | rfl | rfl | rfl | rfl | rfl
  · have hO : kOrd.getD 0 (nI 0) = nI 0 := rfl
    have hW : swK.getD 0 (nI 0) = nI 1 := rfl
    have c0 : σ (217 + 2 * i + 1) 0 = nI (aN v 0) := h3 0 (show 0 < 3 by omega)
    have c1 : σ (217 + 2 * i + 1) 1 = nI (aN v 1) := h3 1 (show 1 < 3 by omega)
    have c2 : σ (217 + 2 * i + 1) 2 = nI (aN v 2) := h3 2 (show 2 < 3 by omega)
    refine XO.map (o := oCmd 0 v X) (xo_add hC hI hs b0 b1 b2) (fun f hf e => ?_) (fun r τ e => ?_)
    · unfold fX11_faultOfCommand
      simp (disch := omega) only [pu_OB, pu_LET, pu_OX0, pu_BND, pu_NZ, pu_BL, pu_m1, nI_add, pk_sub, pk_mul, pk_div, nI_clamp, pu_eq, pu_ne, pu_le_t, pu_le_f, pu_lt_t, pu_lt_f, pu_nm, pu_mm, pu_u2e, pu_u2n, ↓reduceIte, li0, li1, li2, li3, li4, li5, li6, li7, li8, li9, li10, li11, li12, li13, li14, li15, li16, li17, li18, li19, li20, li21, li22, li23, li24, li25, li26, li27, li28, li29, li30, li31, li32, li33, li34, li35, li36, li37, li38, li39, li40, li41, li42, li43, li44, li45, li46, li47, li48, li49, li50, li51, li52, li53, li54, li55, li56, li57, li58, li59, li60, li64, li72, li87, li97, li98, li99, li100, li101, li102, li103, li104, li105, li108, li109, li110, li111, li112, li114, li115, li116, li117, li119, li120, li124, li126, li132, li139, li140, li148, li156, li1000, li1092, li1248, h1, hO, hW, c0, c1, c2, e]
    · unfold fX11_perform
      simp (disch := omega) only [pu_OB, pu_LET, pu_OX0, pu_BND, pu_NZ, pu_BL, pu_m1, nI_add, pk_sub, pk_mul, pk_div, nI_clamp, pu_eq, pu_ne, pu_le_t, pu_le_f, pu_lt_t, pu_lt_f, pu_nm, pu_mm, pu_u2e, pu_u2n, ↓reduceIte, li0, li1, li2, li3, li4, li5, li6, li7, li8, li9, li10, li11, li12, li13, li14, li15, li16, li17, li18, li19, li20, li21, li22, li23, li24, li25, li26, li27, li28, li29, li30, li31, li32, li33, li34, li35, li36, li37, li38, li39, li40, li41, li42, li43, li44, li45, li46, li47, li48, li49, li50, li51, li52, li53, li54, li55, li56, li57, li58, li59, li60, li64, li72, li87, li97, li98, li99, li100, li101, li102, li103, li104, li105, li108, li109, li110, li111, li112, li114, li115, li116, li117, li119, li120, li124, li126, li132, li139, li140, li148, li156, li1000, li1092, li1248, h1, hO, hW, c0, c1, c2, e]
  · have hO : kOrd.getD 1 (nI 0) = nI 1 := rfl
    have hW : swK.getD 1 (nI 0) = nI 2 := rfl
    have c0 : σ (217 + 2 * i + 1) 0 = nI (aN v 0) := h3 0 (show 0 < 1 by omega)
    refine XO.map (o := oCmd 1 v X) (xo_remove hF hC hI hs hN b0) (fun f hf e => ?_) (fun r τ e => ?_)
    · unfold fX11_faultOfCommand
      simp (disch := omega) only [pu_OB, pu_LET, pu_OX0, pu_BND, pu_NZ, pu_BL, pu_m1, nI_add, pk_sub, pk_mul, pk_div, nI_clamp, pu_eq, pu_ne, pu_le_t, pu_le_f, pu_lt_t, pu_lt_f, pu_nm, pu_mm, pu_u2e, pu_u2n, ↓reduceIte, li0, li1, li2, li3, li4, li5, li6, li7, li8, li9, li10, li11, li12, li13, li14, li15, li16, li17, li18, li19, li20, li21, li22, li23, li24, li25, li26, li27, li28, li29, li30, li31, li32, li33, li34, li35, li36, li37, li38, li39, li40, li41, li42, li43, li44, li45, li46, li47, li48, li49, li50, li51, li52, li53, li54, li55, li56, li57, li58, li59, li60, li64, li72, li87, li97, li98, li99, li100, li101, li102, li103, li104, li105, li108, li109, li110, li111, li112, li114, li115, li116, li117, li119, li120, li124, li126, li132, li139, li140, li148, li156, li1000, li1092, li1248, h1, hO, hW, c0, e]
    · unfold fX11_perform
      simp (disch := omega) only [pu_OB, pu_LET, pu_OX0, pu_BND, pu_NZ, pu_BL, pu_m1, nI_add, pk_sub, pk_mul, pk_div, nI_clamp, pu_eq, pu_ne, pu_le_t, pu_le_f, pu_lt_t, pu_lt_f, pu_nm, pu_mm, pu_u2e, pu_u2n, ↓reduceIte, li0, li1, li2, li3, li4, li5, li6, li7, li8, li9, li10, li11, li12, li13, li14, li15, li16, li17, li18, li19, li20, li21, li22, li23, li24, li25, li26, li27, li28, li29, li30, li31, li32, li33, li34, li35, li36, li37, li38, li39, li40, li41, li42, li43, li44, li45, li46, li47, li48, li49, li50, li51, li52, li53, li54, li55, li56, li57, li58, li59, li60, li64, li72, li87, li97, li98, li99, li100, li101, li102, li103, li104, li105, li108, li109, li110, li111, li112, li114, li115, li116, li117, li119, li120, li124, li126, li132, li139, li140, li148, li156, li1000, li1092, li1248, h1, hO, hW, c0, e]
  · have hO : kOrd.getD 2 (nI 0) = nI 2 := rfl
    have hW : swK.getD 2 (nI 0) = nI 3 := rfl
    have c0 : σ (217 + 2 * i + 1) 0 = nI (aN v 0) := h3 0 (show 0 < 2 by omega)
    have c1 : σ (217 + 2 * i + 1) 1 = nI (aN v 1) := h3 1 (show 1 < 2 by omega)
    refine XO.map (o := oCmd 2 v X) (xo_gear hC hI hs b0 b1) (fun f hf e => ?_) (fun r τ e => ?_)
    · unfold fX11_faultOfCommand
      simp (disch := omega) only [pu_OB, pu_LET, pu_OX0, pu_BND, pu_NZ, pu_BL, pu_m1, nI_add, pk_sub, pk_mul, pk_div, nI_clamp, pu_eq, pu_ne, pu_le_t, pu_le_f, pu_lt_t, pu_lt_f, pu_nm, pu_mm, pu_u2e, pu_u2n, ↓reduceIte, li0, li1, li2, li3, li4, li5, li6, li7, li8, li9, li10, li11, li12, li13, li14, li15, li16, li17, li18, li19, li20, li21, li22, li23, li24, li25, li26, li27, li28, li29, li30, li31, li32, li33, li34, li35, li36, li37, li38, li39, li40, li41, li42, li43, li44, li45, li46, li47, li48, li49, li50, li51, li52, li53, li54, li55, li56, li57, li58, li59, li60, li64, li72, li87, li97, li98, li99, li100, li101, li102, li103, li104, li105, li108, li109, li110, li111, li112, li114, li115, li116, li117, li119, li120, li124, li126, li132, li139, li140, li148, li156, li1000, li1092, li1248, h1, hO, hW, c0, c1, e]
    · unfold fX11_perform
      simp (disch := omega) only [pu_OB, pu_LET, pu_OX0, pu_BND, pu_NZ, pu_BL, pu_m1, nI_add, pk_sub, pk_mul, pk_div, nI_clamp, pu_eq, pu_ne, pu_le_t, pu_le_f, pu_lt_t, pu_lt_f, pu_nm, pu_mm, pu_u2e, pu_u2n, ↓reduceIte, li0, li1, li2, li3, li4, li5, li6, li7, li8, li9, li10, li11, li12, li13, li14, li15, li16, li17, li18, li19, li20, li21, li22, li23, li24, li25, li26, li27, li28, li29, li30, li31, li32, li33, li34, li35, li36, li37, li38, li39, li40, li41, li42, li43, li44, li45, li46, li47, li48, li49, li50, li51, li52, li53, li54, li55, li56, li57, li58, li59, li60, li64, li72, li87, li97, li98, li99, li100, li101, li102, li103, li104, li105, li108, li109, li110, li111, li112, li114, li115, li116, li117, li119, li120, li124, li126, li132, li139, li140, li148, li156, li1000, li1092, li1248, h1, hO, hW, c0, c1, e]
  · have hO : kOrd.getD 3 (nI 0) = nI 3 := rfl
    have hW : swK.getD 3 (nI 0) = nI 4 := rfl
    have c0 : σ (217 + 2 * i + 1) 0 = nI (aN v 0) := h3 0 (show 0 < 2 by omega)
    have c1 : σ (217 + 2 * i + 1) 1 = nI (aN v 1) := h3 1 (show 1 < 2 by omega)
    refine XO.map (o := oCmd 3 v X) (xo_mesh hC hI hs b0 b1) (fun f hf e => ?_) (fun r τ e => ?_)
    · unfold fX11_faultOfCommand
      simp (disch := omega) only [pu_OB, pu_LET, pu_OX0, pu_BND, pu_NZ, pu_BL, pu_m1, nI_add, pk_sub, pk_mul, pk_div, nI_clamp, pu_eq, pu_ne, pu_le_t, pu_le_f, pu_lt_t, pu_lt_f, pu_nm, pu_mm, pu_u2e, pu_u2n, ↓reduceIte, li0, li1, li2, li3, li4, li5, li6, li7, li8, li9, li10, li11, li12, li13, li14, li15, li16, li17, li18, li19, li20, li21, li22, li23, li24, li25, li26, li27, li28, li29, li30, li31, li32, li33, li34, li35, li36, li37, li38, li39, li40, li41, li42, li43, li44, li45, li46, li47, li48, li49, li50, li51, li52, li53, li54, li55, li56, li57, li58, li59, li60, li64, li72, li87, li97, li98, li99, li100, li101, li102, li103, li104, li105, li108, li109, li110, li111, li112, li114, li115, li116, li117, li119, li120, li124, li126, li132, li139, li140, li148, li156, li1000, li1092, li1248, h1, hO, hW, c0, c1, e]
    · unfold fX11_perform
      simp (disch := omega) only [pu_OB, pu_LET, pu_OX0, pu_BND, pu_NZ, pu_BL, pu_m1, nI_add, pk_sub, pk_mul, pk_div, nI_clamp, pu_eq, pu_ne, pu_le_t, pu_le_f, pu_lt_t, pu_lt_f, pu_nm, pu_mm, pu_u2e, pu_u2n, ↓reduceIte, li0, li1, li2, li3, li4, li5, li6, li7, li8, li9, li10, li11, li12, li13, li14, li15, li16, li17, li18, li19, li20, li21, li22, li23, li24, li25, li26, li27, li28, li29, li30, li31, li32, li33, li34, li35, li36, li37, li38, li39, li40, li41, li42, li43, li44, li45, li46, li47, li48, li49, li50, li51, li52, li53, li54, li55, li56, li57, li58, li59, li60, li64, li72, li87, li97, li98, li99, li100, li101, li102, li103, li104, li105, li108, li109, li110, li111, li112, li114, li115, li116, li117, li119, li120, li124, li126, li132, li139, li140, li148, li156, li1000, li1092, li1248, h1, hO, hW, c0, c1, e]
  · have hO : kOrd.getD 4 (nI 0) = nI 4 := rfl
    have hW : swK.getD 4 (nI 0) = nI 5 := rfl
    have c0 : σ (217 + 2 * i + 1) 0 = nI (aN v 0) := h3 0 (show 0 < 1 by omega)
    refine XO.map (o := oCmd 4 v X) (xo_clear hC hI hs b0) (fun f hf e => ?_) (fun r τ e => ?_)
    · unfold fX11_faultOfCommand
      simp (disch := omega) only [pu_OB, pu_LET, pu_OX0, pu_BND, pu_NZ, pu_BL, pu_m1, nI_add, pk_sub, pk_mul, pk_div, nI_clamp, pu_eq, pu_ne, pu_le_t, pu_le_f, pu_lt_t, pu_lt_f, pu_nm, pu_mm, pu_u2e, pu_u2n, ↓reduceIte, li0, li1, li2, li3, li4, li5, li6, li7, li8, li9, li10, li11, li12, li13, li14, li15, li16, li17, li18, li19, li20, li21, li22, li23, li24, li25, li26, li27, li28, li29, li30, li31, li32, li33, li34, li35, li36, li37, li38, li39, li40, li41, li42, li43, li44, li45, li46, li47, li48, li49, li50, li51, li52, li53, li54, li55, li56, li57, li58, li59, li60, li64, li72, li87, li97, li98, li99, li100, li101, li102, li103, li104, li105, li108, li109, li110, li111, li112, li114, li115, li116, li117, li119, li120, li124, li126, li132, li139, li140, li148, li156, li1000, li1092, li1248, h1, hO, hW, c0, e]
    · unfold fX11_perform
      simp (disch := omega) only [pu_OB, pu_LET, pu_OX0, pu_BND, pu_NZ, pu_BL, pu_m1, nI_add, pk_sub, pk_mul, pk_div, nI_clamp, pu_eq, pu_ne, pu_le_t, pu_le_f, pu_lt_t, pu_lt_f, pu_nm, pu_mm, pu_u2e, pu_u2n, ↓reduceIte, li0, li1, li2, li3, li4, li5, li6, li7, li8, li9, li10, li11, li12, li13, li14, li15, li16, li17, li18, li19, li20, li21, li22, li23, li24, li25, li26, li27, li28, li29, li30, li31, li32, li33, li34, li35, li36, li37, li38, li39, li40, li41, li42, li43, li44, li45, li46, li47, li48, li49, li50, li51, li52, li53, li54, li55, li56, li57, li58, li59, li60, li64, li72, li87, li97, li98, li99, li100, li101, li102, li103, li104, li105, li108, li109, li110, li111, li112, li114, li115, li116, li117, li119, li120, li124, li126, li132, li139, li140, li148, li156, li1000, li1092, li1248, h1, hO, hW, c0, e]
  · have hO : kOrd.getD 5 (nI 0) = nI 5 := rfl
    have hW : swK.getD 5 (nI 0) = nI 6 := rfl
    have c0 : σ (217 + 2 * i + 1) 0 = nI (aN v 0) := h3 0 (show 0 < 1 by omega)
    refine XO.map (o := oCmd 5 v X) (xo_release hC hI hs b0) (fun f hf e => ?_) (fun r τ e => ?_)
    · unfold fX11_faultOfCommand
      simp (disch := omega) only [pu_OB, pu_LET, pu_OX0, pu_BND, pu_NZ, pu_BL, pu_m1, nI_add, pk_sub, pk_mul, pk_div, nI_clamp, pu_eq, pu_ne, pu_le_t, pu_le_f, pu_lt_t, pu_lt_f, pu_nm, pu_mm, pu_u2e, pu_u2n, ↓reduceIte, li0, li1, li2, li3, li4, li5, li6, li7, li8, li9, li10, li11, li12, li13, li14, li15, li16, li17, li18, li19, li20, li21, li22, li23, li24, li25, li26, li27, li28, li29, li30, li31, li32, li33, li34, li35, li36, li37, li38, li39, li40, li41, li42, li43, li44, li45, li46, li47, li48, li49, li50, li51, li52, li53, li54, li55, li56, li57, li58, li59, li60, li64, li72, li87, li97, li98, li99, li100, li101, li102, li103, li104, li105, li108, li109, li110, li111, li112, li114, li115, li116, li117, li119, li120, li124, li126, li132, li139, li140, li148, li156, li1000, li1092, li1248, h1, hO, hW, c0, e]
    · unfold fX11_perform
      simp (disch := omega) only [pu_OB, pu_LET, pu_OX0, pu_BND, pu_NZ, pu_BL, pu_m1, nI_add, pk_sub, pk_mul, pk_div, nI_clamp, pu_eq, pu_ne, pu_le_t, pu_le_f, pu_lt_t, pu_lt_f, pu_nm, pu_mm, pu_u2e, pu_u2n, ↓reduceIte, li0, li1, li2, li3, li4, li5, li6, li7, li8, li9, li10, li11, li12, li13, li14, li15, li16, li17, li18, li19, li20, li21, li22, li23, li24, li25, li26, li27, li28, li29, li30, li31, li32, li33, li34, li35, li36, li37, li38, li39, li40, li41, li42, li43, li44, li45, li46, li47, li48, li49, li50, li51, li52, li53, li54, li55, li56, li57, li58, li59, li60, li64, li72, li87, li97, li98, li99, li100, li101, li102, li103, li104, li105, li108, li109, li110, li111, li112, li114, li115, li116, li117, li119, li120, li124, li126, li132, li139, li140, li148, li156, li1000, li1092, li1248, h1, hO, hW, c0, e]
  · have hO : kOrd.getD 6 (nI 0) = nI 6 := rfl
    have hW : swK.getD 6 (nI 0) = nI 7 := rfl
    have c0 : σ (217 + 2 * i + 1) 0 = nI (aN v 0) := h3 0 (show 0 < 2 by omega)
    have c1 : σ (217 + 2 * i + 1) 1 = nI (aN v 1) := h3 1 (show 1 < 2 by omega)
    refine XO.map (o := oCmd 6 v X) (xo_ship hC hI hs b0 b1) (fun f hf e => ?_) (fun r τ e => ?_)
    · unfold fX11_faultOfCommand
      simp (disch := omega) only [pu_OB, pu_LET, pu_OX0, pu_BND, pu_NZ, pu_BL, pu_m1, nI_add, pk_sub, pk_mul, pk_div, nI_clamp, pu_eq, pu_ne, pu_le_t, pu_le_f, pu_lt_t, pu_lt_f, pu_nm, pu_mm, pu_u2e, pu_u2n, ↓reduceIte, li0, li1, li2, li3, li4, li5, li6, li7, li8, li9, li10, li11, li12, li13, li14, li15, li16, li17, li18, li19, li20, li21, li22, li23, li24, li25, li26, li27, li28, li29, li30, li31, li32, li33, li34, li35, li36, li37, li38, li39, li40, li41, li42, li43, li44, li45, li46, li47, li48, li49, li50, li51, li52, li53, li54, li55, li56, li57, li58, li59, li60, li64, li72, li87, li97, li98, li99, li100, li101, li102, li103, li104, li105, li108, li109, li110, li111, li112, li114, li115, li116, li117, li119, li120, li124, li126, li132, li139, li140, li148, li156, li1000, li1092, li1248, h1, hO, hW, c0, c1, e]
    · unfold fX11_perform
      simp (disch := omega) only [pu_OB, pu_LET, pu_OX0, pu_BND, pu_NZ, pu_BL, pu_m1, nI_add, pk_sub, pk_mul, pk_div, nI_clamp, pu_eq, pu_ne, pu_le_t, pu_le_f, pu_lt_t, pu_lt_f, pu_nm, pu_mm, pu_u2e, pu_u2n, ↓reduceIte, li0, li1, li2, li3, li4, li5, li6, li7, li8, li9, li10, li11, li12, li13, li14, li15, li16, li17, li18, li19, li20, li21, li22, li23, li24, li25, li26, li27, li28, li29, li30, li31, li32, li33, li34, li35, li36, li37, li38, li39, li40, li41, li42, li43, li44, li45, li46, li47, li48, li49, li50, li51, li52, li53, li54, li55, li56, li57, li58, li59, li60, li64, li72, li87, li97, li98, li99, li100, li101, li102, li103, li104, li105, li108, li109, li110, li111, li112, li114, li115, li116, li117, li119, li120, li124, li126, li132, li139, li140, li148, li156, li1000, li1092, li1248, h1, hO, hW, c0, c1, e]
  · have hO : kOrd.getD 7 (nI 0) = nI 7 := rfl
    have hW : swK.getD 7 (nI 0) = nI 0 := rfl
    have c0 : σ (217 + 2 * i + 1) 0 = nI (aN v 0) := h3 0 (show 0 < 1 by omega)
    refine XO.map (o := oCmd 7 v X) (xo_advance hF hC hI hs hT hN b0) (fun f hf e => ?_) (fun r τ e => ?_)
    · unfold fX11_faultOfCommand
      simp (disch := omega) only [pu_OB, pu_LET, pu_OX0, pu_BND, pu_NZ, pu_BL, pu_m1, nI_add, pk_sub, pk_mul, pk_div, nI_clamp, pu_eq, pu_ne, pu_le_t, pu_le_f, pu_lt_t, pu_lt_f, pu_nm, pu_mm, pu_u2e, pu_u2n, ↓reduceIte, li0, li1, li2, li3, li4, li5, li6, li7, li8, li9, li10, li11, li12, li13, li14, li15, li16, li17, li18, li19, li20, li21, li22, li23, li24, li25, li26, li27, li28, li29, li30, li31, li32, li33, li34, li35, li36, li37, li38, li39, li40, li41, li42, li43, li44, li45, li46, li47, li48, li49, li50, li51, li52, li53, li54, li55, li56, li57, li58, li59, li60, li64, li72, li87, li97, li98, li99, li100, li101, li102, li103, li104, li105, li108, li109, li110, li111, li112, li114, li115, li116, li117, li119, li120, li124, li126, li132, li139, li140, li148, li156, li1000, li1092, li1248, h1, hO, hW, c0, e]
    · unfold fX11_perform
      simp (disch := omega) only [pu_OB, pu_LET, pu_OX0, pu_BND, pu_NZ, pu_BL, pu_m1, nI_add, pk_sub, pk_mul, pk_div, nI_clamp, pu_eq, pu_ne, pu_le_t, pu_le_f, pu_lt_t, pu_lt_f, pu_nm, pu_mm, pu_u2e, pu_u2n, ↓reduceIte, li0, li1, li2, li3, li4, li5, li6, li7, li8, li9, li10, li11, li12, li13, li14, li15, li16, li17, li18, li19, li20, li21, li22, li23, li24, li25, li26, li27, li28, li29, li30, li31, li32, li33, li34, li35, li36, li37, li38, li39, li40, li41, li42, li43, li44, li45, li46, li47, li48, li49, li50, li51, li52, li53, li54, li55, li56, li57, li58, li59, li60, li64, li72, li87, li97, li98, li99, li100, li101, li102, li103, li104, li105, li108, li109, li110, li111, li112, li114, li115, li116, li117, li119, li120, li124, li126, li132, li139, li140, li148, li156, li1000, li1092, li1248, h1, hO, hW, c0, e]
/-- commands tried one after the other: the first that is refused, the mill behind the others -/
def tcS : List CW → Nat → AM → Option Nat × AM
  | [], _, X => (none, X)
  | q :: l, i, X => if (oCmd q.1 q.2 X).1 = 0 then tcS l (i + 1) (oCmd q.1 q.2 X).2.2 else (some i, X)
theorem tcS_c (q : CW) (l : List CW) (i : Nat) (X : AM) : tcS (q :: l) i X = if (oCmd q.1 q.2 X).1 = 0 then tcS l (i + 1) (oCmd q.1 q.2 X).2.2 else (some i, X) := rfl
theorem tks_loop {J : Nat} {Q : Nat → CW} (hF : 2000 ≤ m) (hJ : J ≤ 12) (hb9 : ∀ i, i < J → ∀ a, a < 3 → aN (Q i).2 a < 2 ^ 31) : ∀ (l : List CW) i f1 T N (σ : St) X, l.length + i = J → l.length < f1 → T + 40 * l.length < 10 ^ 6 → N + l.length < 10 ^ 6 → CR σ 19 X → IN X.1 X.2 → IS X.1 0 T N → CMc σ Q J → σ 214 4 = nI J → (∀ t, t < l.length → Q (i + t) = l.getD t z5) →
    ∃ τ : St, (∀ c, c < 19 ∨ 38 ≤ c → τ c = σ c) ∧ ((tcS l i X).1 = none → fX11_tryCommands_L13 m f1 (nI i) σ = some (mI, τ) ∧ CR τ 19 (tcS l i X).2 ∧ IN (tcS l i X).2.1 (tcS l i X).2.2 ∧ IS (tcS l i X).2.1 0 (T + 40 * l.length) (N + l.length)) ∧ ∀ i', (tcS l i X).1 = some i' → i' < 12 ∧ fX11_tryCommands_L13 m f1 (nI i) σ = some (nI i', τ) := by
  intro l
  induction l with
  | nil =>
    intro i f1 T N σ X h1 h2 h4 h5 hC hI hs hQ hJ4 hq
    obtain ⟨f1, rfl⟩ : ∃ q, f1 = q + 1 := ⟨f1 - 1, by omega⟩
    have h1 : 0 + i = J := h1
    obtain rfl : i = J := by omega
    refine ⟨σ, fun _ _ => rfl, fun _ => ⟨?_, hC, hI, isMo hs (by omega) (by omega)⟩, fun i' h => by cases h⟩
    rw [cl_tc_S]
    unfold fX11_tryCommands_L13b
    simp (disch := omega) only [pu_OB, pu_LET, pu_OX0, pu_BND, pu_NZ, pu_BL, pu_m1, nI_add, pk_sub, pk_mul, pk_div, nI_clamp, pu_eq, pu_ne, pu_le_t, pu_le_f, pu_lt_t, pu_lt_f, pu_nm, pu_mm, pu_u2e, pu_u2n, ↓reduceIte, li0, li1, li2, li3, li4, li5, li6, li7, li8, li9, li10, li11, li12, li13, li14, li15, li16, li17, li18, li19, li20, li21, li22, li23, li24, li25, li26, li27, li28, li29, li30, li31, li32, li33, li34, li35, li36, li37, li38, li39, li40, li41, li42, li43, li44, li45, li46, li47, li48, li49, li50, li51, li52, li53, li54, li55, li56, li57, li58, li59, li60, li64, li72, li87, li97, li98, li99, li100, li101, li102, li103, li104, li105, li108, li109, li110, li111, li112, li114, li115, li116, li117, li119, li120, li124, li126, li132, li139, li140, li148, li156, li1000, li1092, li1248, hJ4]
  | cons q l ih =>
    intro i f1 T N σ X h1 h2 h4 h5 hC hI hs hQ hJ4 hq
    rw [List.length_cons] at h1 h2 h4 h5
    obtain ⟨f1, rfl⟩ : ∃ q, f1 = q + 1 := ⟨f1 - 1, by omega⟩
    obtain ⟨q1, q2, q4⟩ := hQ i (by omega)
    have hqi : Q i = q := hq 0 (Nat.succ_pos _)
    have hbi := hb9 i (by omega)
    rw [hqi] at q1 q2 q4 hbi
    rw [tcS_c, List.length_cons]
    rcases xo_cmd (m := m) (i := i) hF (by omega) q1 hC hI hs (by omega) (by omega) q2 q4 hbi with ⟨a0, a, ⟨τ, b, c, e⟩, g7, g8⟩ | ⟨a0, a6, a1, a5⟩
    · rw [if_pos a0]
      generalize (oCmd q.1 q.2 X).2.2 = Y at *
      obtain ⟨υ, k1, k2, k3⟩ := ih (i + 1) f1 (T + 40) (N + 1) τ Y (by omega) (by omega) (by omega) (by omega) c g7 g8 (hQ.of fun c hc => e c (by omega)) (by rw [e _ (by omega)]; exact hJ4) (fun t ht => by
        have := hq (t + 1) (by rw [List.length_cons]; omega)
        rw [show i + 1 + t = i + (t + 1) by omega, this]
        rfl)
      have eC : fX11_tryCommands_L13 m (f1 + 1) (nI i) σ = fX11_tryCommands_L13 m f1 (nI (i + 1)) τ := by
        rw [cl_tc_S]
        unfold fX11_tryCommands_L13b
        simp (disch := omega) only [pu_OB, pu_LET, pu_OX0, pu_BND, pu_NZ, pu_BL, pu_m1, nI_add, pk_sub, pk_mul, pk_div, nI_clamp, pu_eq, pu_ne, pu_le_t, pu_le_f, pu_lt_t, pu_lt_f, pu_nm, pu_mm, pu_u2e, pu_u2n, ↓reduceIte, li0, li1, li2, li3, li4, li5, li6, li7, li8, li9, li10, li11, li12, li13, li14, li15, li16, li17, li18, li19, li20, li21, li22, li23, li24, li25, li26, li27, li28, li29, li30, li31, li32, li33, li34, li35, li36, li37, li38, li39, li40, li41, li42, li43, li44, li45, li46, li47, li48, li49, li50, li51, li52, li53, li54, li55, li56, li57, li58, li59, li60, li64, li72, li87, li97, li98, li99, li100, li101, li102, li103, li104, li105, li108, li109, li110, li111, li112, li114, li115, li116, li117, li119, li120, li124, li126, li132, li139, li140, li148, li156, li1000, li1092, li1248, hJ4, a, b]
      rw [eC]
      refine ⟨υ, fun c hc => by rw [k1 c hc, e c hc], fun h => ?_, k3⟩
      obtain ⟨l1, l2, l3, l4⟩ := k2 h
      exact ⟨l1, l2, l3, isMo l4 (by omega) (by omega)⟩
    · rw [if_neg (by omega)]
      refine ⟨σ, fun _ _ => rfl, (fun h => by cases h), fun i' h => ?_⟩
      cases h
      refine ⟨by omega, ?_⟩
      rw [cl_tc_S]
      unfold fX11_tryCommands_L13b
      simp (disch := omega) only [pu_OB, pu_LET, pu_OX0, pu_BND, pu_NZ, pu_BL, pu_m1, nI_add, pk_sub, pk_mul, pk_div, nI_clamp, pu_eq, pu_ne, pu_le_t, pu_le_f, pu_lt_t, pu_lt_f, pu_nm, pu_mm, pu_u2e, pu_u2n, ↓reduceIte, li0, li1, li2, li3, li4, li5, li6, li7, li8, li9, li10, li11, li12, li13, li14, li15, li16, li17, li18, li19, li20, li21, li22, li23, li24, li25, li26, li27, li28, li29, li30, li31, li32, li33, li34, li35, li36, li37, li38, li39, li40, li41, li42, li43, li44, li45, li46, li47, li48, li49, li50, li51, li52, li53, li54, li55, li56, li57, li58, li59, li60, li64, li72, li87, li97, li98, li99, li100, li101, li102, li103, li104, li105, li108, li109, li110, li111, li112, li114, li115, li116, li117, li119, li120, li124, li126, li132, li139, li140, li148, li156, li1000, li1092, li1248, hJ4, a5]
      exact if_neg (by omega)
end TK
section RK
variable {σ : St} {m C : Nat} {A : AM} {H : List AM} {S : Option AM} {B : List Nat} {er fl : Option Nat}
/-- a script run: malformed; carried out; or refused at a command -/
theorem k_run (hF : 2000 ≤ m) (hC : C < 512) (h : KG σ A H S B er fl C) (hb9 : ∀ q ∈ (prS B 12 0).2.2, ∀ a, a < 3 → aN q.2 a < 2 ^ 31) :
    ((prS B 12 0).1 = false → ∃ τ, fX11_runScript m σ = some ((1, 0), τ) ∧ KG τ A H S [] (some (prS B 12 0).2.1) fl C) ∧
    ((prS B 12 0).1 = true → (tcS (prS B 12 0).2.2 0 A).1 = none → ∃ τ, fX11_runScript m σ = some ((0, nI (prS B 12 0).2.2.length), τ) ∧ KG τ (tcS (prS B 12 0).2.2 0 A).2 (pushH H A) S [] er fl (C + 1)) ∧
    ((prS B 12 0).1 = true → ∀ i, (tcS (prS B 12 0).2.2 0 A).1 = some i → ∃ τ, fX11_runScript m σ = some ((4, 0), τ) ∧ KG τ A H S [] er (some i) C) := by
  obtain ⟨g1, g2, g5, g6, g7, g8⟩ := h
  have hSB : SB σ B := g2.2.2.1
  obtain ⟨τ, p1, p2, p4, p5⟩ := pks_loop (m := m) hF g8 12 0 m 0 (u2 (u2 σ 214 2 (nI 0)) 214 4 (nI 0)) (fun _ => z5) (by omega) (by omega) (by omega) (by omega) (hSB.of (by rw [pu_u2n (by omega), pu_u2n (by omega)]) (by rw [pu_u2r (by omega), pu_u2r (by omega)])) (by rw [pu_u2n (by omega), pu_u2e ⟨rfl, rfl⟩]) (fun i hi => absurd hi (by omega))
  generalize prS B 12 0 = P at *
  have hτ : ∀ c, c < 214 → τ c = σ c := fun c hc => by
    funext j
    rw [p2 c j (by omega) (by omega), pu_u2n (by omega), pu_u2n (by omega)]
  have hc0 : fX8_parse m σ = some (nI (if P.1 = true then 1 else 0), τ) := p1
  have he : fX8_empty τ = some (nI 0, u2 τ 214 1 (nI 0)) := rfl
  have hCt : CR (u2 τ 214 1 (nI 0)) 0 A := g1.of fun c hc => by rw [pu_u2r (by omega), hτ _ (by omega)]
  have hXt : CX (u2 τ 214 1 (nI 0)) H S [] er fl := by
    obtain ⟨⟨a1, a2⟩, ⟨nx, b1, b2, b3, b4, b5⟩, -, d1, d2⟩ := g2
    have hc : ∀ c, c < 214 → (u2 τ 214 1 (nI 0)) c = σ c := fun c h => by rw [pu_u2r (by omega), hτ _ (by omega)]
    exact ⟨⟨by rw [hc _ (by omega)]; exact a1, fun X hX => (a2 X hX).of fun c hc9 => hc _ (by omega)⟩, ⟨nx, b1, by rw [hc _ (by omega)]; exact b2, by rw [hc _ (by omega)]; exact b3, b4, fun i hi => (b5 i hi).of fun c hc9 => hc _ (by omega)⟩, ⟨pu_u2e ⟨rfl, rfl⟩, by show 0 ≤ 60; omega, fun j hj => absurd hj (Nat.not_lt_zero j)⟩, by rw [hc _ (by omega)]; exact d1, by rw [hc _ (by omega)]; exact d2⟩
  have hB0 : bOk [] := fun b hb => absurd hb List.not_mem_nil
  refine ⟨fun hok => ?_, ?_⟩
  · obtain ⟨e1, e2⟩ := p4 hok
    rw [hok] at hc0
    refine ⟨u2 (u2 τ 214 1 (nI 0)) 209 8 (nI P.2.1), ?_, hCt.of fun c hc => pu_u2r (by omega), hXt.of2 (fun c h1 h2 h3 => pu_u2r (by omega)) (pu_u2n (by omega)) ⟨pu_u2n (by omega), by show 0 ≤ 60; omega, fun j hj => absurd hj (Nat.not_lt_zero j)⟩ (pu_u2e ⟨rfl, rfl⟩) (by rw [pu_u2n (by omega)]; exact hXt.2.2.2.2), g5, g6, g7, hB0⟩
    unfold fX11_runScript
    rw [hc0, pu_OB, he, pu_OB]
    simp (disch := omega) only [pu_OB, pu_LET, pu_OX0, pu_BND, pu_NZ, pu_BL, pu_m1, nI_add, pk_sub, pk_mul, pk_div, nI_clamp, pu_eq, pu_ne, pu_le_t, pu_le_f, pu_lt_t, pu_lt_f, pu_nm, pu_mm, pu_u2e, pu_u2n, ↓reduceIte, li0, li1, li2, li3, li4, li5, li6, li7, li8, li9, li10, li11, li12, li13, li14, li15, li16, li17, li18, li19, li20, li21, li22, li23, li24, li25, li26, li27, li28, li29, li30, li31, li32, li33, li34, li35, li36, li37, li38, li39, li40, li41, li42, li43, li44, li45, li46, li47, li48, li49, li50, li51, li52, li53, li54, li55, li56, li57, li58, li59, li60, li64, li72, li87, li97, li98, li99, li100, li101, li102, li103, li104, li105, li108, li109, li110, li111, li112, li114, li115, li116, li117, li119, li120, li124, li126, li132, li139, li140, li148, li156, li1000, li1092, li1248, e2]
    rfl
  · suffices hz : P.1 = true → ((tcS P.2.2 0 A).1 = none → ∃ τ, fX11_runScript m σ = some ((0, nI P.2.2.length), τ) ∧ KG τ (tcS P.2.2 0 A).2 (pushH H A) S [] er fl (C + 1)) ∧ (∀ i, (tcS P.2.2 0 A).1 = some i → ∃ τ, fX11_runScript m σ = some ((4, 0), τ) ∧ KG τ A H S [] er (some i) C) from ⟨fun h => (hz h).1, fun h => (hz h).2⟩
    intro hok
    obtain ⟨Q, e1, e2, e3, e4, -, e6⟩ := p5 hok
    rw [hok] at hc0
    rw [Nat.zero_add] at e2 e3 e4
    generalize hσ2 : u2 τ 214 1 (nI 0) = σ2 at *
    have h2r : ∀ c, c ≠ 214 → σ2 c = τ c := fun c hc => by rw [← hσ2]; exact pu_u2r hc
    have h24 : σ2 214 4 = nI P.2.2.length := by rw [← hσ2, pu_u2n (by omega)]; exact e4
    obtain ⟨σ3, a1, a2, a3⟩ := cl_copy (k := 19) hF hCt g5.1 g5.2 (by omega)
    have hQ3 : CMc σ3 Q P.2.2.length := e3.of fun c hc => by rw [a3 _ (by omega), h2r _ (by omega)]
    have hbq : ∀ i, i < P.2.2.length → ∀ a, a < 3 → aN (Q i).2 a < 2 ^ 31 := fun i hi a ha => by
      have h9 := e6 i hi
      rw [Nat.zero_add] at h9
      rw [h9, List.getD_eq_getElem?_getD, List.getElem?_eq_getElem hi]
      exact hb9 _ (List.getElem_mem hi) a ha
    obtain ⟨σ4, b1, b5, b6⟩ := tks_loop (m := m) hF e2 hbq P.2.2 0 m (480 * C) (12 * C) σ3 A (by omega) (by omega) (by omega) (by omega) a2 g5.1 g5.2 hQ3 (by rw [a3 _ (by omega)]; exact h24) e6
    have hC4 : CR σ4 0 A := hCt.of fun c hc => by rw [b1 _ (by omega), a3 _ (by omega)]
    have hX4 : CX σ4 H S [] er fl := hXt.of (fun c h1 h2 => by rw [b1 _ (by omega), a3 _ (by omega)]) (by rw [b1 _ (by omega), a3 _ (by omega)]) (by rw [b1 _ (by omega), a3 _ (by omega)])
    have h44 : σ4 214 4 = nI P.2.2.length := by rw [b1 _ (by omega), a3 _ (by omega)]; exact h24
    refine ⟨fun hn => ?_, fun i' hi' => ?_⟩
    · obtain ⟨c1, c2, c3, c4⟩ := b5 hn
      obtain ⟨σ5, f1, f2, f3, f4⟩ := cl_push hF hC4 hX4 g5
      obtain ⟨σ6, k1, k2, k3⟩ := cl_copy (k := 0) hF (c2.of (τ := σ5) fun c hc => f4 _ (by omega)) c3 c4 (by omega)
      refine ⟨σ6, ?_, k2, f3.of (fun c h1 h2 => k3 _ (by omega)) (by rw [k3 _ (by omega)]) (k3 _ (by omega)), VG.up (A := (tcS P.2.2 0 A).2) ⟨c3, c4⟩ (by omega) (by omega), vg_push g5 g6, fun X hX => (g7 X hX).mono (by omega), hB0⟩
      have h64 : σ6 214 4 = nI P.2.2.length := by rw [k3 _ (by omega), f4 _ (by omega)]; exact h44
      have eT : fX11_tryCommands m σ2 = some (mI, σ4) := by
        unfold fX11_tryCommands
        rw [a1, pu_OB]
        exact c1
      unfold fX11_runScript
      rw [hc0, pu_OB, he, pu_OB]
      rw [if_neg (show ¬ nI (if true = true then 1 else 0) = 0 by decide +kernel), eT, pu_OB, if_pos (show mI = -1 from rfl), f1, pu_OB, k1, pu_OB, h64]
    · obtain ⟨c0, c1⟩ := b6 i' hi'
      refine ⟨u2 σ4 209 9 (nI i'), ?_, hC4.of fun c hc => pu_u2r (by omega), hX4.of2 (fun c h1 h2 h3 => pu_u2r (by omega)) (pu_u2n (by omega)) ⟨by rw [pu_u2n (by omega)]; exact hX4.2.2.1.1, by show 0 ≤ 60; omega, fun j hj => absurd hj (Nat.not_lt_zero j)⟩ (by rw [pu_u2n (by omega)]; exact hX4.2.2.2.1) (pu_u2e ⟨rfl, rfl⟩), g5, g6, g7, hB0⟩
      have eT : fX11_tryCommands m σ2 = some (nI i', σ4) := by
        unfold fX11_tryCommands
        rw [a1, pu_OB]
        exact c1
      unfold fX11_runScript
      rw [hc0, pu_OB, he, pu_OB]
      rw [if_neg (show ¬ nI (if true = true then 1 else 0) = 0 by decide +kernel), eT, pu_OB, if_neg (show ¬ nI i' = -1 from of_eq_false (pu_nm (by omega)))]
      rfl
end RK

