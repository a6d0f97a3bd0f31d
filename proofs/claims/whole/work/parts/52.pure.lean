-- ===== a script read on both sides =====
theorem argS_pos {B : List Nat} {k : Nat} {x : Bool × Nat} : x.2 ≤ (argS B k x).1.2 ∧ (argS B k x).1.2 ≤ x.2 + 9 := by
  have d1 := dgS_pos (B := B) (n := 1) (x := x)
  have d2 := dgS_pos (B := B) (n := 2) (x := x)
  have e1 := dgS_pos (B := B) (n := 1) (x := (dgS B 1 x).1)
  have e2 := dgS_pos (B := B) (n := 2) (x := (dgS B 1 (dgS B 1 x).1).1)
  unfold argS
  (repeat' split) <;> refine ⟨?_, ?_⟩ <;> dsimp only <;> omega
theorem cmdS_pos {B : List Nat} {p : Nat} : p ≤ (cmdS B p).1.2 ∧ (cmdS B p).1.2 ≤ p + 17 ∧ ((cmdS B p).1.1 = true → p + 4 ≤ (cmdS B p).1.2) := by
  have h1 := argS_pos (B := B) (k := (wdS B p).1) (x := (wdS B p).2)
  have h2 := wdS_pos (B := B) (p := p)
  unfold cmdS
  refine ⟨by omega, by omega, fun h => ?_⟩
  by_cases c : (wdS B p).2.1 = true
  · have := (wdS_ok c).2
    omega
  · have e : (wdS B p).2 = (false, (wdS B p).2.2) := Prod.ext (Bool.eq_false_iff.mpr c) rfl
    rw [e, argS_f] at h
    exact absurd h Bool.false_ne_true
theorem cmdS_out {B : List Nat} {p : Nat} (h : B.length ≤ p) : cmdS B p = ((false, p), (0, 0, 0)) := by
  have e := cb_out h
  unfold cmdS wdS
  rw [e]
  rfl
/-- the commands read so far, as both sides keep them -/
def CM (σ s : St) (Q : Nat → Nat × (Nat × Nat × Nat)) (j : Nat) : Prop := ∀ i, i < j → (Q i).1 < 8 ∧ σ (217 + 2 * i) 0 = nI (Q i).1 ∧ s 8 (4 * i) = nI (lt (Q i).1) ∧ ∀ a, a < na (Q i).1 → σ (217 + 2 * i + 1) a = nI (aN (Q i).2 a) ∧ s 8 (4 * i + 1 + a) = nI (aN (Q i).2 a)
def FrC (σ τ : St) : Prop := ∀ c j, ¬ (c = 214 ∧ (j = 2 ∨ j = 4)) → c < 217 → τ c j = σ c j
def Fr8 (s t : St) : Prop := ∀ i j, ¬ (i = 0 ∧ j = 14) → ¬ (i = 0 ∧ j = 15) → i ≠ 8 → t i j = s i j
theorem na_le {k : Nat} (h : k < 8) : na k ≤ 3 := by
  rcases (show k = 0 ∨ k = 1 ∨ k = 2 ∨ k = 3 ∨ k = 4 ∨ k = 5 ∨ k = 6 ∨ k = 7 by omega) with rfl | rfl | rfl | rfl | rfl | rfl | rfl | rfl <;> decide
section PL
variable {m : Nat} {B : List Nat}
theorem cl_pr_S (k : Nat) (x : Int32) (σ : St) : fX8_parse_L12 m (k + 1) x σ = fX8_parse_L12b m (fX8_parse_L12 m k) x σ := rfl
theorem rf_rn_S (k : Nat) (x y : Int32) (s : St) : fX12_runScript_L14 m (k + 1) x y s = fX12_runScript_L14b m (fX12_runScript_L14 m k) x y s := rfl
/-- the reference's loop once the reading is over -/
theorem rf_rs_end {k : Nat} {x : Int32} {s : St} {ok : Bool} {p : Nat} (hR : RP s B (ok, p)) (hp : p < 1000) : fX12_runScript_L14 m (k + 1) x (nI 0) s = if ok = true ∧ B.length ≤ p then fX12_runScript_B95 m x (nI 0) s else fX12_runScript_B95 m x (nI 1) s := by
  obtain ⟨⟨h1, h2, h3⟩, h4, h5⟩ := hR
  change s 0 14 = nI p at h5
  rw [rf_rn_S]
  unfold fX12_runScript_L14b fX12_runScript_B90
  cases ok
  · rw [if_neg (c := false = true ∧ B.length ≤ p) (fun h => Bool.false_ne_true h.1)]
    change s 0 15 = nI 1 at h4
    simp (disch := omega) only [pu_OB, pu_LET, pu_OX0, pu_BND, pu_NZ, pu_BL, pu_m1, nI_add, pk_sub, pk_mul, pk_div, nI_clamp, pu_eq, pu_ne, pu_le_t, pu_le_f, pu_lt_t, pu_lt_f, pu_nm, pu_mm, pu_u2e, pu_u2n, ↓reduceIte, li0, li1, li2, li3, li4, li5, li6, li7, li8, li9, li10, li11, li12, li13, li14, li15, li16, li17, li18, li19, li20, li21, li22, li23, li24, li25, li26, li27, li28, li29, li30, li31, li32, li33, li34, li35, li36, li37, li38, li39, li40, li41, li42, li43, li44, li45, li46, li47, li48, li49, li50, li51, li52, li53, li54, li55, li56, li57, li58, li59, li60, li64, li72, li87, li97, li98, li99, li100, li101, li102, li103, li104, li105, li108, li109, li110, li111, li112, li114, li115, li116, li117, li119, li120, li124, li126, li132, li139, li140, li148, li156, li1000, li1092, li1248, h4]
  · change s 0 15 = nI 0 at h4
    by_cases c : B.length ≤ p
    · rw [if_pos (c := true = true ∧ B.length ≤ p) ⟨rfl, c⟩]
      simp (disch := omega) only [pu_OB, pu_LET, pu_OX0, pu_BND, pu_NZ, pu_BL, pu_m1, nI_add, pk_sub, pk_mul, pk_div, nI_clamp, pu_eq, pu_ne, pu_le_t, pu_le_f, pu_lt_t, pu_lt_f, pu_nm, pu_mm, pu_u2e, pu_u2n, ↓reduceIte, li0, li1, li2, li3, li4, li5, li6, li7, li8, li9, li10, li11, li12, li13, li14, li15, li16, li17, li18, li19, li20, li21, li22, li23, li24, li25, li26, li27, li28, li29, li30, li31, li32, li33, li34, li35, li36, li37, li38, li39, li40, li41, li42, li43, li44, li45, li46, li47, li48, li49, li50, li51, li52, li53, li54, li55, li56, li57, li58, li59, li60, li64, li72, li87, li97, li98, li99, li100, li101, li102, li103, li104, li105, li108, li109, li110, li111, li112, li114, li115, li116, li117, li119, li120, li124, li126, li132, li139, li140, li148, li156, li1000, li1092, li1248, h1, h4, h5]
    · rw [if_neg (c := true = true ∧ B.length ≤ p) (fun h => c h.2)]
      simp (disch := omega) only [pu_OB, pu_LET, pu_OX0, pu_BND, pu_NZ, pu_BL, pu_m1, nI_add, pk_sub, pk_mul, pk_div, nI_clamp, pu_eq, pu_ne, pu_le_t, pu_le_f, pu_lt_t, pu_lt_f, pu_nm, pu_mm, pu_u2e, pu_u2n, ↓reduceIte, li0, li1, li2, li3, li4, li5, li6, li7, li8, li9, li10, li11, li12, li13, li14, li15, li16, li17, li18, li19, li20, li21, li22, li23, li24, li25, li26, li27, li28, li29, li30, li31, li32, li33, li34, li35, li36, li37, li38, li39, li40, li41, li42, li43, li44, li45, li46, li47, li48, li49, li50, li51, li52, li53, li54, li55, li56, li57, li58, li59, li60, li64, li72, li87, li97, li98, li99, li100, li101, li102, li103, li104, li105, li108, li109, li110, li111, li112, li114, li115, li116, li117, li119, li120, li124, li126, li132, li139, li140, li148, li156, li1000, li1092, li1248, h1, h4, h5]
theorem pr_loop (hF : 2000 ≤ m) (hB : bOk B) : ∀ d j f1 f2 p (σ s : St) Q, d + j = 12 → 5 * j ≤ p → p ≤ 20 * j → d < f1 → d + 1 < f2 → SB σ B → RP s B (true, p) → σ 214 2 = nI p → CM σ s Q j → ∃ (τ : St) (ok : Bool) (s' : St), fX8_parse_L12 m f1 (nI j) σ = some (nI (if ok = true then 1 else 0), τ) ∧ FrC σ τ ∧ Fr8 s s' ∧ (ok = false → ∃ (x1 : Int32) (e : Nat), e < 1000 ∧ τ 214 2 = nI e ∧ s' 0 14 = nI e ∧ fX12_runScript_L14 m f2 (nI j) (nI 1) s = fX12_runScript_B95 m x1 (nI 1) s') ∧ (ok = true → ∃ Q' J, 0 < J ∧ J ≤ 12 ∧ CM τ s' Q' J ∧ τ 214 4 = nI J ∧ fX12_runScript_L14 m f2 (nI j) (nI 1) s = fX12_runScript_B95 m (nI J) (nI 0) s') := by
  intro d
  induction d with
  | zero =>
    intro j f1 f2 p σ s Q h1 h2 h3 h4 h5 hS hR hp hQ
    obtain ⟨f1, rfl⟩ : ∃ q, f1 = q + 1 := ⟨f1 - 1, by omega⟩
    obtain ⟨f2, rfl⟩ : ∃ q, f2 = q + 2 := ⟨f2 - 2, by omega⟩
    obtain rfl : j = 12 := by omega
    have hl := hS.2.1
    obtain ⟨t, t1, t2, t3, -⟩ := rf_parse (k := 12) hF (by omega) hR hB (by omega)
    rw [cmdS_out (by omega)] at t2
    have t15 : t 0 15 = nI 1 := t2.2.1
    have t14 : t 0 14 = nI p := t2.2.2
    refine ⟨σ, false, u2 t 0 14 (nI p), ?_, fun _ _ _ _ => rfl, fun i q a b c => by rw [pu_u2n (by omega)]; exact t3 i q a b (by omega), fun _ => ⟨nI 13, p, by omega, hp, pu_u2e ⟨rfl, rfl⟩, ?_⟩, fun h => absurd h Bool.false_ne_true⟩
    · rw [cl_pr_S]
      unfold fX8_parse_L12b
      simp (disch := omega) only [pu_OB, pu_LET, pu_OX0, pu_BND, pu_NZ, pu_BL, pu_m1, nI_add, pk_sub, pk_mul, pk_div, nI_clamp, pu_eq, pu_ne, pu_le_t, pu_le_f, pu_lt_t, pu_lt_f, pu_nm, pu_mm, pu_u2e, pu_u2n, ↓reduceIte, li0, li1, li2, li3, li4, li5, li6, li7, li8, li9, li10, li11, li12, li13, li14, li15, li16, li17, li18, li19, li20, li21, li22, li23, li24, li25, li26, li27, li28, li29, li30, li31, li32, li33, li34, li35, li36, li37, li38, li39, li40, li41, li42, li43, li44, li45, li46, li47, li48, li49, li50, li51, li52, li53, li54, li55, li56, li57, li58, li59, li60, li64, li72, li87, li97, li98, li99, li100, li101, li102, li103, li104, li105, li108, li109, li110, li111, li112, li114, li115, li116, li117, li119, li120, li124, li126, li132, li139, li140, li148, li156, li1000, li1092, li1248]
      rfl
    · have e9 := rf_rs_end (m := m) (k := f2) (x := nI 13) (B := B) (ok := false) (p := p) t2.go (by omega)
      rw [if_neg (fun h => Bool.false_ne_true h.1)] at e9
      rw [rf_rn_S]
      unfold fX12_runScript_L14b fX12_runScript_B48 fX12_runScript_B49 fX12_runScript_B64
      simp (disch := omega) only [pu_OB, pu_LET, pu_OX0, pu_BND, pu_NZ, pu_BL, pu_m1, nI_add, pk_sub, pk_mul, pk_div, nI_clamp, pu_eq, pu_ne, pu_le_t, pu_le_f, pu_lt_t, pu_lt_f, pu_nm, pu_mm, pu_u2e, pu_u2n, ↓reduceIte, li0, li1, li2, li3, li4, li5, li6, li7, li8, li9, li10, li11, li12, li13, li14, li15, li16, li17, li18, li19, li20, li21, li22, li23, li24, li25, li26, li27, li28, li29, li30, li31, li32, li33, li34, li35, li36, li37, li38, li39, li40, li41, li42, li43, li44, li45, li46, li47, li48, li49, li50, li51, li52, li53, li54, li55, li56, li57, li58, li59, li60, li64, li72, li87, li97, li98, li99, li100, li101, li102, li103, li104, li105, li108, li109, li110, li111, li112, li114, li115, li116, li117, li119, li120, li124, li126, li132, li139, li140, li148, li156, li1000, li1092, li1248, t1, t15, t14]
      exact e9
  | succ d ih =>
    intro j f1 f2 p σ s Q h1 h2 h3 h4 h5 hS hR hp hQ
    obtain ⟨f1, rfl⟩ : ∃ q, f1 = q + 1 := ⟨f1 - 1, by omega⟩
    obtain ⟨f2, rfl⟩ : ∃ q, f2 = q + 2 := ⟨f2 - 2, by omega⟩
    have hl := hS.2.1
    have hcp := cmdS_pos (B := B) (p := p)
    obtain ⟨t, t1, t2, t3, t4⟩ := rf_parse (k := j) hF (by omega) hR hB (by omega)
    obtain ⟨υ, u1, u2x, u3, u4⟩ := cl_readCmd (m := m) (k1 := 217 + 2 * j) hF hS hB hp (by omega) (by omega)
    generalize hc : cmdS B p = c at *
    have hfr : ∀ {q : Nat}, Fr8 s (u2 t 0 14 (nI q)) := fun {q} i a x y z => by rw [pu_u2n (by omega)]; exact t3 i a x y (by omega)
    by_cases ok : c.1.1 = true
    · have e1 : c.1 = (true, c.1.2) := Prod.ext ok rfl
      obtain ⟨v1, v2, v3⟩ := u4 ok
      obtain ⟨w1, w2⟩ := t4 ok
      rw [if_pos ok] at u1
      have t15 := t2.2.1
      rw [if_pos ok] at t15
      have t14 := t2.2.2
      have hh := rf_here t2 hB (by omega)
      have hp4 := hcp.2.2 ok
      generalize c.1.2 = q at *
      have hSυ : SB (u2 υ 214 4 (nI (j + 1))) B := (hS.pf u3 (by omega)).of (by rw [pu_u2n (by omega)]) (by rw [pu_u2r (by omega)])
      have hna := na_le v1
      have hQ' : ∀ {τ : St} {t' : St}, (∀ r, τ (217 + r) = υ (217 + r)) → t' 8 = t 8 → CM τ t' (va_up Q j ((wdS B p).1, c.2)) (j + 1) := fun {τ t'} hτ ht i hi => by
        have r1 : τ (217 + 2 * i) = υ (217 + 2 * i) := hτ _
        have r2 : τ (217 + 2 * i + 1) = υ (217 + 2 * i + 1) := hτ (2 * i + 1)
        rw [r1, r2, ht]
        by_cases g : i = j
        · subst g
          rw [pu_upe rfl]
          exact ⟨v1, v2, w1, fun a ha => ⟨v3 a ha, w2 a ha⟩⟩
        · rw [pu_upn g]
          obtain ⟨g1, g2, g3, g4⟩ := hQ i (by omega)
          refine ⟨g1, by rw [u3 _ _ (by omega) (by omega) (by omega)]; exact g2, by rw [t3 _ _ (by omega) (by omega) (by omega)]; exact g3, fun a ha => ?_⟩
          have := na_le g1
          exact ⟨by rw [u3 _ _ (by omega) (by omega) (by omega)]; exact (g4 a ha).1, by rw [t3 _ _ (by omega) (by omega) (by omega)]; exact (g4 a ha).2⟩
      have hsk := cl_skip (σ := u2 υ 214 4 (nI (j + 1))) (p := q) (c := 59) hSυ hB (by rw [pu_u2n (by omega)]; exact u2x) (by omega) (by omega)
      have hlen : υ 214 1 = nI B.length := (hS.pf u3 (by omega)).1
      by_cases h59 : cb B q = 59
      · have hlt := cb_lt (B := B) (i := q) (by omega)
        rw [if_pos h59] at hsk
        rw [hI_e h59 (by omega)] at hh
        obtain ⟨τ, okk, s', a1, a2, a3, a4, a5⟩ := ih (j + 1) f1 (f2 + 1) (q + 1) (u2 (u2 υ 214 4 (nI (j + 1))) 214 2 (nI (q + 1))) (u2 t 0 14 (nI (q + 1))) (va_up Q j ((wdS B p).1, c.2)) (by omega) (by omega) (by omega) (by omega) (by omega) (hSυ.of (by rw [pu_u2n (by omega)]) (by rw [pu_u2r (by omega)])) (by have := t2.go (q := q + 1); rw [ok] at this; exact this) (pu_u2e ⟨rfl, rfl⟩) (hQ' (fun r => by rw [pu_u2r (by omega), pu_u2r (by omega)]) (pu_u2r (by omega)))
        have eL : fX12_runScript_L14 m (f2 + 2) (nI j) (nI 1) s = fX12_runScript_L14 m (f2 + 1) (nI (j + 1)) (nI 1) (u2 t 0 14 (nI (q + 1))) := by
          rw [rf_rn_S]
          unfold fX12_runScript_L14b fX12_runScript_B49 fX12_runScript_B64
          simp (disch := omega) only [pu_OB, pu_LET, pu_OX0, pu_BND, pu_NZ, pu_BL, pu_m1, nI_add, pk_sub, pk_mul, pk_div, nI_clamp, pu_eq, pu_ne, pu_le_t, pu_le_f, pu_lt_t, pu_lt_f, pu_nm, pu_mm, pu_u2e, pu_u2n, ↓reduceIte, li0, li1, li2, li3, li4, li5, li6, li7, li8, li9, li10, li11, li12, li13, li14, li15, li16, li17, li18, li19, li20, li21, li22, li23, li24, li25, li26, li27, li28, li29, li30, li31, li32, li33, li34, li35, li36, li37, li38, li39, li40, li41, li42, li43, li44, li45, li46, li47, li48, li49, li50, li51, li52, li53, li54, li55, li56, li57, li58, li59, li60, li64, li72, li87, li97, li98, li99, li100, li101, li102, li103, li104, li105, li108, li109, li110, li111, li112, li114, li115, li116, li117, li119, li120, li124, li126, li132, li139, li140, li148, li156, li1000, li1092, li1248, t1, t15, t14, hh]
        rw [eL]
        refine ⟨τ, okk, s', ?_, fun i a x y => by rw [a2 i a x y, pu_u2n (by omega), pu_u2n (by omega)]; exact u3 i a (by omega) (by omega) (by omega), fun i a x y z => by rw [a3 i a x y z]; exact hfr i a x y z, a4, a5⟩
        rw [cl_pr_S]
        unfold fX8_parse_L12b
        simp (disch := omega) only [pu_OB, pu_LET, pu_OX0, pu_BND, pu_NZ, pu_BL, pu_m1, nI_add, pk_sub, pk_mul, pk_div, nI_clamp, pu_eq, pu_ne, pu_le_t, pu_le_f, pu_lt_t, pu_lt_f, pu_nm, pu_mm, pu_u2e, pu_u2n, ↓reduceIte, li0, li1, li2, li3, li4, li5, li6, li7, li8, li9, li10, li11, li12, li13, li14, li15, li16, li17, li18, li19, li20, li21, li22, li23, li24, li25, li26, li27, li28, li29, li30, li31, li32, li33, li34, li35, li36, li37, li38, li39, li40, li41, li42, li43, li44, li45, li46, li47, li48, li49, li50, li51, li52, li53, li54, li55, li56, li57, li58, li59, li60, li64, li72, li87, li97, li98, li99, li100, li101, li102, li103, li104, li105, li108, li109, li110, li111, li112, li114, li115, li116, li117, li119, li120, li124, li126, li132, li139, li140, li148, li156, li1000, li1092, li1248, u1, u2x, hlen, hsk]
        exact a1
      · rw [if_neg h59] at hsk
        have hh9 := hI_n hB h59 (by omega)
        have e9 := rf_rs_end (m := m) (k := f2) (x := nI (j + 1)) (B := B) (p := q) t2.go (by omega)
        have eL : fX12_runScript_L14 m (f2 + 2) (nI j) (nI 1) s = fX12_runScript_L14 m (f2 + 1) (nI (j + 1)) (nI 0) (u2 t 0 14 (nI q)) := by
          rw [rf_rn_S]
          unfold fX12_runScript_L14b fX12_runScript_B48 fX12_runScript_B49 fX12_runScript_B64
          simp (disch := omega) only [pu_OB, pu_LET, pu_OX0, pu_BND, pu_NZ, pu_BL, pu_m1, nI_add, pk_sub, pk_mul, pk_div, nI_clamp, pu_eq, pu_ne, pu_le_t, pu_le_f, pu_lt_t, pu_lt_f, pu_nm, pu_mm, pu_u2e, pu_u2n, ↓reduceIte, li0, li1, li2, li3, li4, li5, li6, li7, li8, li9, li10, li11, li12, li13, li14, li15, li16, li17, li18, li19, li20, li21, li22, li23, li24, li25, li26, li27, li28, li29, li30, li31, li32, li33, li34, li35, li36, li37, li38, li39, li40, li41, li42, li43, li44, li45, li46, li47, li48, li49, li50, li51, li52, li53, li54, li55, li56, li57, li58, li59, li60, li64, li72, li87, li97, li98, li99, li100, li101, li102, li103, li104, li105, li108, li109, li110, li111, li112, li114, li115, li116, li117, li119, li120, li124, li126, li132, li139, li140, li148, li156, li1000, li1092, li1248, t1, t15, t14, hh, hh9]
          rfl
        rw [eL, e9]
        by_cases hlt : q < B.length
        · rw [if_neg (fun h => by omega)]
          refine ⟨u2 υ 214 4 (nI (j + 1)), false, u2 t 0 14 (nI q), ?_, fun i a x y => by rw [pu_u2n (by omega)]; exact u3 i a (by omega) (by omega) (by omega), hfr, fun _ => ⟨nI (j + 1), q, by omega, by rw [pu_u2n (by omega)]; exact u2x, pu_u2e ⟨rfl, rfl⟩, rfl⟩, fun h => absurd h Bool.false_ne_true⟩
          rw [cl_pr_S]
          unfold fX8_parse_L12b
          simp (disch := omega) only [pu_OB, pu_LET, pu_OX0, pu_BND, pu_NZ, pu_BL, pu_m1, nI_add, pk_sub, pk_mul, pk_div, nI_clamp, pu_eq, pu_ne, pu_le_t, pu_le_f, pu_lt_t, pu_lt_f, pu_nm, pu_mm, pu_u2e, pu_u2n, ↓reduceIte, li0, li1, li2, li3, li4, li5, li6, li7, li8, li9, li10, li11, li12, li13, li14, li15, li16, li17, li18, li19, li20, li21, li22, li23, li24, li25, li26, li27, li28, li29, li30, li31, li32, li33, li34, li35, li36, li37, li38, li39, li40, li41, li42, li43, li44, li45, li46, li47, li48, li49, li50, li51, li52, li53, li54, li55, li56, li57, li58, li59, li60, li64, li72, li87, li97, li98, li99, li100, li101, li102, li103, li104, li105, li108, li109, li110, li111, li112, li114, li115, li116, li117, li119, li120, li124, li126, li132, li139, li140, li148, li156, li1000, li1092, li1248, u1, u2x, hlen, hsk]
          rfl
        · rw [if_pos ⟨ok, by omega⟩]
          refine ⟨u2 υ 214 4 (nI (j + 1)), true, u2 t 0 14 (nI q), ?_, fun i a x y => by rw [pu_u2n (by omega)]; exact u3 i a (by omega) (by omega) (by omega), hfr, fun h => absurd h.symm Bool.false_ne_true, fun _ => ⟨va_up Q j ((wdS B p).1, c.2), j + 1, by omega, by omega, hQ' (fun r => by rw [pu_u2r (by omega)]) (pu_u2r (by omega)), pu_u2e ⟨rfl, rfl⟩, rfl⟩⟩
          rw [cl_pr_S]
          unfold fX8_parse_L12b
          simp (disch := omega) only [pu_OB, pu_LET, pu_OX0, pu_BND, pu_NZ, pu_BL, pu_m1, nI_add, pk_sub, pk_mul, pk_div, nI_clamp, pu_eq, pu_ne, pu_le_t, pu_le_f, pu_lt_t, pu_lt_f, pu_nm, pu_mm, pu_u2e, pu_u2n, ↓reduceIte, li0, li1, li2, li3, li4, li5, li6, li7, li8, li9, li10, li11, li12, li13, li14, li15, li16, li17, li18, li19, li20, li21, li22, li23, li24, li25, li26, li27, li28, li29, li30, li31, li32, li33, li34, li35, li36, li37, li38, li39, li40, li41, li42, li43, li44, li45, li46, li47, li48, li49, li50, li51, li52, li53, li54, li55, li56, li57, li58, li59, li60, li64, li72, li87, li97, li98, li99, li100, li101, li102, li103, li104, li105, li108, li109, li110, li111, li112, li114, li115, li116, li117, li119, li120, li124, li126, li132, li139, li140, li148, li156, li1000, li1092, li1248, u1, u2x, hlen]
    · rw [if_neg ok] at u1
      have t15 := t2.2.1
      rw [if_neg ok] at t15
      have t14 := t2.2.2
      generalize c.1.2 = q at *
      have e9 := rf_rs_end (m := m) (k := f2) (x := nI (j + 1)) (B := B) (p := q) t2.go (by omega)
      rw [if_neg (fun h => ok h.1)] at e9
      refine ⟨υ, false, u2 t 0 14 (nI q), ?_, fun i a x y => u3 i a (by omega) (by omega) (by omega), hfr, fun _ => ⟨nI (j + 1), q, by omega, u2x, pu_u2e ⟨rfl, rfl⟩, ?_⟩, fun h => absurd h Bool.false_ne_true⟩
      · rw [cl_pr_S]
        unfold fX8_parse_L12b
        simp (disch := omega) only [pu_OB, pu_LET, pu_OX0, pu_BND, pu_NZ, pu_BL, pu_m1, nI_add, pk_sub, pk_mul, pk_div, nI_clamp, pu_eq, pu_ne, pu_le_t, pu_le_f, pu_lt_t, pu_lt_f, pu_nm, pu_mm, pu_u2e, pu_u2n, ↓reduceIte, li0, li1, li2, li3, li4, li5, li6, li7, li8, li9, li10, li11, li12, li13, li14, li15, li16, li17, li18, li19, li20, li21, li22, li23, li24, li25, li26, li27, li28, li29, li30, li31, li32, li33, li34, li35, li36, li37, li38, li39, li40, li41, li42, li43, li44, li45, li46, li47, li48, li49, li50, li51, li52, li53, li54, li55, li56, li57, li58, li59, li60, li64, li72, li87, li97, li98, li99, li100, li101, li102, li103, li104, li105, li108, li109, li110, li111, li112, li114, li115, li116, li117, li119, li120, li124, li126, li132, li139, li140, li148, li156, li1000, li1092, li1248, u1]
        rfl
      · rw [rf_rn_S]
        unfold fX12_runScript_L14b fX12_runScript_B48 fX12_runScript_B49 fX12_runScript_B64
        simp (disch := omega) only [pu_OB, pu_LET, pu_OX0, pu_BND, pu_NZ, pu_BL, pu_m1, nI_add, pk_sub, pk_mul, pk_div, nI_clamp, pu_eq, pu_ne, pu_le_t, pu_le_f, pu_lt_t, pu_lt_f, pu_nm, pu_mm, pu_u2e, pu_u2n, ↓reduceIte, li0, li1, li2, li3, li4, li5, li6, li7, li8, li9, li10, li11, li12, li13, li14, li15, li16, li17, li18, li19, li20, li21, li22, li23, li24, li25, li26, li27, li28, li29, li30, li31, li32, li33, li34, li35, li36, li37, li38, li39, li40, li41, li42, li43, li44, li45, li46, li47, li48, li49, li50, li51, li52, li53, li54, li55, li56, li57, li58, li59, li60, li64, li72, li87, li97, li98, li99, li100, li101, li102, li103, li104, li105, li108, li109, li110, li111, li112, li114, li115, li116, li117, li119, li120, li124, li126, li132, li139, li140, li148, li156, li1000, li1092, li1248, t1, t15, t14]
        exact e9
end PL
