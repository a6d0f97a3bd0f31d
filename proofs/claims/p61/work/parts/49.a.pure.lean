-- ===== a script read: commands =====
theorem argS_4 {B : List Nat} {k : Nat} {x : Bool × Nat} (h : k = 4 ∨ k = 5) : argS B k x = ((dgS B 1 x).1, (dgS B 1 x).2, 0, 0) := by
  unfold argS
  rw [if_neg (by omega), if_neg (by omega), if_neg (by omega), if_pos h]
theorem argS_2 {B : List Nat} {k : Nat} {x : Bool × Nat} (h : k = 2 ∨ k = 3 ∨ k = 6) : argS B k x = ((dgS B 1 (dgS B 1 x).1).1, (dgS B 1 x).2, (dgS B 1 (dgS B 1 x).1).2, 0) := by
  unfold argS
  rw [if_neg (by omega), if_neg (by omega), if_pos h]
theorem dgS_f {B : List Nat} {n q : Nat} : dgS B n (false, q) = ((false, q), 0) := if_neg fun h => Bool.false_ne_true h.1
theorem argS_f {B : List Nat} {k q : Nat} : (argS B k (false, q)).1 = (false, q) := by
  unfold argS
  (repeat' split) <;> simp only [dgS_f]
section SP
variable {σ : St} {m : Nat} {B : List Nat} {p : Nat}
/-- a reading that touched the place in the buffer and a command's arguments alone -/
def PF (σ τ : St) (k1 : Nat) : Prop := ∀ c j, ¬ (c = 214 ∧ j = 2) → c ≠ k1 → c ≠ k1 + 1 → τ c j = σ c j
theorem SB.pf {τ : St} {k1 : Nat} (h : SB σ B) (hf : ∀ c j, ¬ (c = 214 ∧ j = 2) → c ≠ k1 → c ≠ k1 + 1 → τ c j = σ c j) (hk1 : 217 ≤ k1) : SB τ B := h.of (hf _ _ (by omega) (by omega) (by omega)) (by funext j; exact hf _ _ (by omega) (by omega) (by omega))
theorem cl_b65_0 {k k1 : Nat} (hk : k < 8) (hT : kTak.getD k (nI 0) = nI 0) : fX8_readCommand_B65 m k1 (nI k) σ = some (nI 1, σ) := by
  unfold fX8_readCommand_B65 fX8_readCommand_B81
  simp (disch := omega) only [pu_OB, pu_LET, pu_OX0, pu_BND, pu_NZ, pu_BL, pu_m1, nI_add, pk_sub, pk_mul, pk_div, nI_clamp, pu_eq, pu_ne, pu_le_t, pu_le_f, pu_lt_t, pu_lt_f, pu_nm, pu_mm, pu_u2e, pu_u2n, ↓reduceIte, li0, li1, li2, li3, li4, li5, li6, li7, li8, li9, li10, li11, li12, li13, li14, li15, li16, li17, li18, li19, li20, li21, li22, li23, li24, li25, li26, li27, li28, li29, li30, li31, li32, li33, li34, li35, li36, li37, li38, li39, li40, li41, li42, li43, li44, li45, li46, li47, li48, li49, li50, li51, li52, li53, li54, li55, li56, li57, li58, li59, li60, li64, li72, li87, li97, li98, li99, li100, li101, li102, li103, li104, li105, li108, li109, li110, li111, li112, li114, li115, li116, li117, li119, li120, li124, li126, li132, li139, li140, li148, li156, li1000, li1092, li1248, hT]
theorem cl_b65_1 {k k1 : Nat} {τ : St} {ok : Bool} (hk : k < 8) (hT : kTak.getD k (nI 0) = nI 1) (h : fX8_readLastNumber k1 (nI k) σ = some (nI (if ok = true then 1 else 0), τ)) : fX8_readCommand_B65 m k1 (nI k) σ = some (nI (if ok = true then 1 else 0), τ) := by
  unfold fX8_readCommand_B65 fX8_readCommand_B81
  cases ok
  · rw [if_neg Bool.false_ne_true] at h ⊢
    simp (disch := omega) only [pu_OB, pu_LET, pu_OX0, pu_BND, pu_NZ, pu_BL, pu_m1, nI_add, pk_sub, pk_mul, pk_div, nI_clamp, pu_eq, pu_ne, pu_le_t, pu_le_f, pu_lt_t, pu_lt_f, pu_nm, pu_mm, pu_u2e, pu_u2n, ↓reduceIte, li0, li1, li2, li3, li4, li5, li6, li7, li8, li9, li10, li11, li12, li13, li14, li15, li16, li17, li18, li19, li20, li21, li22, li23, li24, li25, li26, li27, li28, li29, li30, li31, li32, li33, li34, li35, li36, li37, li38, li39, li40, li41, li42, li43, li44, li45, li46, li47, li48, li49, li50, li51, li52, li53, li54, li55, li56, li57, li58, li59, li60, li64, li72, li87, li97, li98, li99, li100, li101, li102, li103, li104, li105, li108, li109, li110, li111, li112, li114, li115, li116, li117, li119, li120, li124, li126, li132, li139, li140, li148, li156, li1000, li1092, li1248, hT, h]
  · rw [if_pos rfl] at h ⊢
    simp (disch := omega) only [pu_OB, pu_LET, pu_OX0, pu_BND, pu_NZ, pu_BL, pu_m1, nI_add, pk_sub, pk_mul, pk_div, nI_clamp, pu_eq, pu_ne, pu_le_t, pu_le_f, pu_lt_t, pu_lt_f, pu_nm, pu_mm, pu_u2e, pu_u2n, ↓reduceIte, li0, li1, li2, li3, li4, li5, li6, li7, li8, li9, li10, li11, li12, li13, li14, li15, li16, li17, li18, li19, li20, li21, li22, li23, li24, li25, li26, li27, li28, li29, li30, li31, li32, li33, li34, li35, li36, li37, li38, li39, li40, li41, li42, li43, li44, li45, li46, li47, li48, li49, li50, li51, li52, li53, li54, li55, li56, li57, li58, li59, li60, li64, li72, li87, li97, li98, li99, li100, li101, li102, li103, li104, li105, li108, li109, li110, li111, li112, li114, li115, li116, li117, li119, li120, li124, li126, li132, li139, li140, li148, li156, li1000, li1092, li1248, hT, h]
theorem cl_l18_end {k k1 r i D : Nat} (hk : k < 8) (hD : kDig.getD k (nI 0) = nI D) (hi : D ≤ i) (hi9 : i < 100) : fX8_readCommand_L18 m k1 (r + 1) (nI k) (nI i) σ = fX8_readCommand_B65 m k1 (nI k) σ := by
  simp (disch := omega) only [pu_OB, pu_LET, pu_OX0, pu_BND, pu_NZ, pu_BL, pu_m1, nI_add, pk_sub, pk_mul, pk_div, nI_clamp, pu_eq, pu_ne, pu_le_t, pu_le_f, pu_lt_t, pu_lt_f, pu_nm, pu_mm, pu_u2e, pu_u2n, ↓reduceIte, li0, li1, li2, li3, li4, li5, li6, li7, li8, li9, li10, li11, li12, li13, li14, li15, li16, li17, li18, li19, li20, li21, li22, li23, li24, li25, li26, li27, li28, li29, li30, li31, li32, li33, li34, li35, li36, li37, li38, li39, li40, li41, li42, li43, li44, li45, li46, li47, li48, li49, li50, li51, li52, li53, li54, li55, li56, li57, li58, li59, li60, li64, li72, li87, li97, li98, li99, li100, li101, li102, li103, li104, li105, li108, li109, li110, li111, li112, li114, li115, li116, li117, li119, li120, li124, li126, li132, li139, li140, li148, li156, li1000, li1092, li1248, cl_rc_S, fX8_readCommand_L18b, hD]
/-- the arguments of the command k, its word read -/
theorem cl_args {k k1 : Nat} (hF : 2000 ≤ m) (hS : SB σ B) (hB : bOk B) (hp : σ 214 2 = nI p) (hp9 : p < 800) (hk1 : 217 ≤ k1) (hk : k < 8) : ∃ τ, fX8_readCommand_L18 m k1 m (nI k) (nI 0) σ = some (nI (if (argS B k (true, p)).1.1 = true then 1 else 0), τ) ∧ τ 214 2 = nI (argS B k (true, p)).1.2 ∧ PF σ τ k1 ∧ τ k1 = σ k1 ∧ ((argS B k (true, p)).1.1 = true → ∀ a, a < na k → τ (k1 + 1) a = nI (aN (argS B k (true, p)).2 a)) := by
  obtain ⟨r, rfl⟩ : ∃ r, m = r + 5 := ⟨m - 5, by omega⟩
  generalize hm9 : r + 5 = M at *
  have hb1 := dgS_pos (B := B) (n := 1) (x := (true, p))
  have fr : ∀ {τ : St} {i : Nat} {σ : St}, (∀ c j, ¬ (c = 214 ∧ j = 2) → ¬ (c = k1 + 1 ∧ j = i) → τ c j = σ c j) → (∀ c j, ¬ (c = 214 ∧ j = 2) → c ≠ k1 → c ≠ k1 + 1 → τ c j = σ c j) ∧ τ k1 = σ k1 := fun h => ⟨fun c j a b d => h c j a (by omega), by funext j; exact h _ _ (by omega) (by omega)⟩

  rcases (show k = 0 ∨ k = 1 ∨ k = 2 ∨ k = 3 ∨ k = 4 ∨ k = 5 ∨ k = 6 ∨ k = 7 by omega) with rfl | rfl | rfl | rfl | rfl | rfl | rfl | rfl
  · obtain ⟨τ, ⟨t1, t2⟩, t3, t4⟩ := cl_d1 (m := M) (k := 0) (i := 0) (r := r + 4) (D := 2) hS hB hp (by omega) hk1 (by omega) rfl (by omega) (by omega)
    have f1 := fr t4
    have hS1 : SB τ B := hS.pf f1.1 hk1
    rw [hm9] at t1 t2
    show ∃ τ, _ = some (nI (if (dgS B 2 (dgS B 1 (dgS B 1 (true, p)).1).1).1.1 = true then 1 else 0), τ) ∧ τ 214 2 = nI (dgS B 2 (dgS B 1 (dgS B 1 (true, p)).1).1).1.2 ∧ PF σ τ k1 ∧ τ k1 = σ k1 ∧ ((dgS B 2 (dgS B 1 (dgS B 1 (true, p)).1).1).1.1 = true → ∀ a, a < na 0 → τ (k1 + 1) a = nI (aN ((dgS B 1 (true, p)).2, (dgS B 1 (dgS B 1 (true, p)).1).2, (dgS B 2 (dgS B 1 (dgS B 1 (true, p)).1).1).2) a))
    by_cases c : (dgS B 1 (true, p)).1.1 = true
    · obtain ⟨t1, t5⟩ := t1 c
      have hx : (dgS B 1 (true, p)).1 = (true, (dgS B 1 (true, p)).1.2) := Prod.ext c rfl
      generalize hq : (dgS B 1 (true, p)).1.2 = q at t3 hx
      have hq9 : q < 804 := by rw [← hq]; have := hb1.2.1; show (dgS B 1 (true, p)).1.2 < 804; omega
      rw [hx]
      obtain ⟨υ, ⟨u1, u2x⟩, u3, u4⟩ := cl_d1 (m := M) (k := 0) (i := 1) (r := r + 3) (D := 2) hS1 hB t3 (by omega) hk1 (by omega) rfl (by omega) (by omega)
      have f2 := fr u4
      have hb2 := dgS_pos (B := B) (n := 1) (x := (true, q))
      have hS2 : SB υ B := hS1.pf f2.1 hk1
      by_cases d : (dgS B 1 (true, q)).1.1 = true
      · obtain ⟨u1, u5⟩ := u1 d
        have hx2 : (dgS B 1 (true, q)).1 = (true, (dgS B 1 (true, q)).1.2) := Prod.ext d rfl
        generalize hq2 : (dgS B 1 (true, q)).1.2 = q2 at u3 hx2
        have hq29 : q2 < 808 := by rw [← hq2]; have := hb2.2.1; show (dgS B 1 (true, q)).1.2 < 808; have h9 : (dgS B 1 (true, q)).1.2 ≤ q + 3 := this; omega
        rw [hx2]
        obtain ⟨ω, w1, w2, w3, w4⟩ := cl_last (k := 0) (D := 2) (nn := 1) hS2 hB u3 (by omega) hk1 (by omega) rfl (by omega) rfl (by omega)
        rw [show rl B 0 q2 = dgS B 2 (true, q2) from if_neg (fun h => by omega)] at w1 w2 w3
        have f3 := fr w4
        refine ⟨ω, ?_, w2, fun c j x y z => by rw [f3.1 c j x y z, f2.1 c j x y z, f1.1 c j x y z], by rw [f3.2, f2.2, f1.2], fun ho a9 ha => ?_⟩
        · have e1 := cl_l18_end (m := M) (σ := υ) (k := 0) (k1 := k1) (r := r + 2) (i := 1 + 1) (D := 2) (by omega) rfl (by omega) (by omega)
          rw [t1]
          exact u1.trans (e1.trans (cl_b65_1 (by omega) rfl w1))
        · have ha : a9 < 3 := ha
          rcases (show a9 = 0 ∨ a9 = 1 ∨ a9 = 2 by omega) with rfl | rfl | rfl
          · show ω (k1 + 1) 0 = nI (dgS B 1 (true, p)).2
            rw [w4 _ _ (by omega) (by omega), u4 _ _ (by omega) (by omega)]
            exact t5
          · show ω (k1 + 1) 1 = nI (dgS B 1 (true, q)).2
            rw [w4 _ _ (by omega) (by omega)]
            exact u5
          · exact w3 ho
      · have hx2 : (dgS B 1 (true, q)).1 = (false, (dgS B 1 (true, q)).1.2) := Prod.ext (Bool.eq_false_iff.mpr d) rfl
        refine ⟨υ, ?_, by rw [hx2, dgS_f]; exact u3, fun c j x y z => by rw [f2.1 c j x y z, f1.1 c j x y z], by rw [f2.2, f1.2], fun h => ?_⟩
        · rw [hx2, dgS_f, t1]
          exact u2x d
        · rw [hx2, dgS_f] at h
          exact absurd h Bool.false_ne_true
    · have hx : (dgS B 1 (true, p)).1 = (false, (dgS B 1 (true, p)).1.2) := Prod.ext (Bool.eq_false_iff.mpr c) rfl
      refine ⟨τ, ?_, by rw [hx, dgS_f, dgS_f]; exact t3, f1.1, f1.2, fun h => ?_⟩
      · rw [hx, dgS_f, dgS_f]
        exact t2 c
      · rw [hx, dgS_f, dgS_f] at h
        exact absurd h Bool.false_ne_true
  · obtain ⟨τ, t1, t2, t3, t4⟩ := cl_last (k := 1) (D := 0) (nn := 1) hS hB hp (by omega) hk1 (by omega) rfl (by omega) rfl (by omega)
    have f1 := fr t4
    have hA : (argS B 1 (true, p)).1 = (rl B 1 p).1 ∧ (argS B 1 (true, p)).2.1 = (rl B 1 p).2 := by
      rw [show rl B 1 p = dgS B 2 (true, p) from if_neg (fun h => by omega)]
      exact ⟨rfl, rfl⟩
    refine ⟨τ, ?_, by rw [hA.1]; exact t2, f1.1, f1.2, fun ho a9 ha => ?_⟩
    · have e1 := cl_l18_end (m := M) (σ := σ) (k := 1) (k1 := k1) (r := r + 4) (i := 0) (D := 0) (by omega) rfl (by omega) (by omega)
      rw [hm9] at e1
      rw [e1, hA.1]
      exact cl_b65_1 (by omega) rfl t1
    · have ha : a9 < 1 := ha
      obtain rfl : a9 = 0 := by omega
      rw [hA.1] at ho
      show _ = nI (argS B 1 (true, p)).2.1
      rw [hA.2]
      exact t3 ho
  · obtain ⟨τ, ⟨t1, t2⟩, t3, t4⟩ := cl_d1 (m := M) (k := 2) (i := 0) (r := r + 4) (D := 2) hS hB hp (by omega) hk1 (by omega) rfl (by omega) (by omega)
    have f1 := fr t4
    have hS1 : SB τ B := hS.pf f1.1 hk1
    rw [hm9] at t1 t2
    rw [argS_2 (by omega)]
    by_cases c : (dgS B 1 (true, p)).1.1 = true
    · obtain ⟨t1, t5⟩ := t1 c
      have hx : (dgS B 1 (true, p)).1 = (true, (dgS B 1 (true, p)).1.2) := Prod.ext c rfl
      generalize hq : (dgS B 1 (true, p)).1.2 = q at t3 hx
      have hq9 : q < 804 := by rw [← hq]; have := hb1.2.1; show (dgS B 1 (true, p)).1.2 < 804; omega
      rw [hx]
      obtain ⟨υ, ⟨u1, u2x⟩, u3, u4⟩ := cl_d1 (m := M) (k := 2) (i := 1) (r := r + 3) (D := 2) hS1 hB t3 (by omega) hk1 (by omega) rfl (by omega) (by omega)
      have f2 := fr u4
      have hb2 := dgS_pos (B := B) (n := 1) (x := (true, q))
      by_cases d : (dgS B 1 (true, q)).1.1 = true
      · obtain ⟨u1, u5⟩ := u1 d
        refine ⟨υ, ?_, u3, fun c j x y z => by rw [f2.1 c j x y z, f1.1 c j x y z], by rw [f2.2, f1.2], fun _ a9 ha => ?_⟩
        · show _ = some (nI (if (dgS B 1 (true, q)).1.1 = true then 1 else 0), υ)
          have e1 := cl_l18_end (m := M) (σ := υ) (k := 2) (k1 := k1) (r := r + 2) (i := 1 + 1) (D := 2) (by omega) rfl (by omega) (by omega)
          rw [if_pos d, t1]
          exact u1.trans (e1.trans (cl_b65_0 (by omega) rfl))
        · have ha : a9 < 2 := ha
          rcases (show a9 = 0 ∨ a9 = 1 by omega) with rfl | rfl
          · show υ (k1 + 1) 0 = nI (dgS B 1 (true, p)).2
            rw [u4 _ _ (by omega) (by omega)]
            exact t5
          · exact u5
      · refine ⟨υ, ?_, u3, fun c j x y z => by rw [f2.1 c j x y z, f1.1 c j x y z], by rw [f2.2, f1.2], fun h => absurd h d⟩
        show _ = some (nI (if (dgS B 1 (true, q)).1.1 = true then 1 else 0), υ)
        rw [if_neg d, t1]
        exact u2x d
    · have hx : (dgS B 1 (true, p)).1 = (false, (dgS B 1 (true, p)).1.2) := Prod.ext (Bool.eq_false_iff.mpr c) rfl
      refine ⟨τ, ?_, by rw [hx, dgS_f]; exact t3, f1.1, f1.2, fun h => ?_⟩
      · rw [hx, dgS_f]
        exact t2 c
      · rw [hx, dgS_f] at h
        exact absurd h Bool.false_ne_true
  · obtain ⟨τ, ⟨t1, t2⟩, t3, t4⟩ := cl_d1 (m := M) (k := 3) (i := 0) (r := r + 4) (D := 2) hS hB hp (by omega) hk1 (by omega) rfl (by omega) (by omega)
    have f1 := fr t4
    have hS1 : SB τ B := hS.pf f1.1 hk1
    rw [hm9] at t1 t2
    rw [argS_2 (by omega)]
    by_cases c : (dgS B 1 (true, p)).1.1 = true
    · obtain ⟨t1, t5⟩ := t1 c
      have hx : (dgS B 1 (true, p)).1 = (true, (dgS B 1 (true, p)).1.2) := Prod.ext c rfl
      generalize hq : (dgS B 1 (true, p)).1.2 = q at t3 hx
      have hq9 : q < 804 := by rw [← hq]; have := hb1.2.1; show (dgS B 1 (true, p)).1.2 < 804; omega
      rw [hx]
      obtain ⟨υ, ⟨u1, u2x⟩, u3, u4⟩ := cl_d1 (m := M) (k := 3) (i := 1) (r := r + 3) (D := 2) hS1 hB t3 (by omega) hk1 (by omega) rfl (by omega) (by omega)
      have f2 := fr u4
      have hb2 := dgS_pos (B := B) (n := 1) (x := (true, q))
      by_cases d : (dgS B 1 (true, q)).1.1 = true
      · obtain ⟨u1, u5⟩ := u1 d
        refine ⟨υ, ?_, u3, fun c j x y z => by rw [f2.1 c j x y z, f1.1 c j x y z], by rw [f2.2, f1.2], fun _ a9 ha => ?_⟩
        · show _ = some (nI (if (dgS B 1 (true, q)).1.1 = true then 1 else 0), υ)
          have e1 := cl_l18_end (m := M) (σ := υ) (k := 3) (k1 := k1) (r := r + 2) (i := 1 + 1) (D := 2) (by omega) rfl (by omega) (by omega)
          rw [if_pos d, t1]
          exact u1.trans (e1.trans (cl_b65_0 (by omega) rfl))
        · have ha : a9 < 2 := ha
          rcases (show a9 = 0 ∨ a9 = 1 by omega) with rfl | rfl
          · show υ (k1 + 1) 0 = nI (dgS B 1 (true, p)).2
            rw [u4 _ _ (by omega) (by omega)]
            exact t5
          · exact u5
      · refine ⟨υ, ?_, u3, fun c j x y z => by rw [f2.1 c j x y z, f1.1 c j x y z], by rw [f2.2, f1.2], fun h => absurd h d⟩
        show _ = some (nI (if (dgS B 1 (true, q)).1.1 = true then 1 else 0), υ)
        rw [if_neg d, t1]
        exact u2x d
    · have hx : (dgS B 1 (true, p)).1 = (false, (dgS B 1 (true, p)).1.2) := Prod.ext (Bool.eq_false_iff.mpr c) rfl
      refine ⟨τ, ?_, by rw [hx, dgS_f]; exact t3, f1.1, f1.2, fun h => ?_⟩
      · rw [hx, dgS_f]
        exact t2 c
      · rw [hx, dgS_f] at h
        exact absurd h Bool.false_ne_true
  · obtain ⟨τ, ⟨t1, t2⟩, t3, t4⟩ := cl_d1 (m := M) (k := 4) (i := 0) (r := r + 4) (D := 1) hS hB hp (by omega) hk1 (by omega) rfl (by omega) (by omega)
    have f1 := fr t4
    have hS1 : SB τ B := hS.pf f1.1 hk1
    rw [hm9] at t1 t2
    rw [argS_4 (by omega)]
    by_cases c : (dgS B 1 (true, p)).1.1 = true
    · obtain ⟨t1, t5⟩ := t1 c
      refine ⟨τ, ?_, t3, f1.1, f1.2, fun _ a9 ha => ?_⟩
      · show _ = some (nI (if (dgS B 1 (true, p)).1.1 = true then 1 else 0), τ)
        have e1 := cl_l18_end (m := M) (σ := τ) (k := 4) (k1 := k1) (r := r + 3) (i := 0 + 1) (D := 1) (by omega) rfl (by omega) (by omega)
        rw [if_pos c, t1]
        exact e1.trans (cl_b65_0 (by omega) rfl)
      · have ha : a9 < 1 := ha
        obtain rfl : a9 = 0 := by omega
        exact t5
    · refine ⟨τ, ?_, t3, f1.1, f1.2, fun h => absurd h c⟩
      show _ = some (nI (if (dgS B 1 (true, p)).1.1 = true then 1 else 0), τ)
      rw [if_neg c]
      exact t2 c
  · obtain ⟨τ, ⟨t1, t2⟩, t3, t4⟩ := cl_d1 (m := M) (k := 5) (i := 0) (r := r + 4) (D := 1) hS hB hp (by omega) hk1 (by omega) rfl (by omega) (by omega)
    have f1 := fr t4
    have hS1 : SB τ B := hS.pf f1.1 hk1
    rw [hm9] at t1 t2
    rw [argS_4 (by omega)]
    by_cases c : (dgS B 1 (true, p)).1.1 = true
    · obtain ⟨t1, t5⟩ := t1 c
      refine ⟨τ, ?_, t3, f1.1, f1.2, fun _ a9 ha => ?_⟩
      · show _ = some (nI (if (dgS B 1 (true, p)).1.1 = true then 1 else 0), τ)
        have e1 := cl_l18_end (m := M) (σ := τ) (k := 5) (k1 := k1) (r := r + 3) (i := 0 + 1) (D := 1) (by omega) rfl (by omega) (by omega)
        rw [if_pos c, t1]
        exact e1.trans (cl_b65_0 (by omega) rfl)
      · have ha : a9 < 1 := ha
        obtain rfl : a9 = 0 := by omega
        exact t5
    · refine ⟨τ, ?_, t3, f1.1, f1.2, fun h => absurd h c⟩
      show _ = some (nI (if (dgS B 1 (true, p)).1.1 = true then 1 else 0), τ)
      rw [if_neg c]
      exact t2 c
  · obtain ⟨τ, ⟨t1, t2⟩, t3, t4⟩ := cl_d1 (m := M) (k := 6) (i := 0) (r := r + 4) (D := 2) hS hB hp (by omega) hk1 (by omega) rfl (by omega) (by omega)
    have f1 := fr t4
    have hS1 : SB τ B := hS.pf f1.1 hk1
    rw [hm9] at t1 t2
    rw [argS_2 (by omega)]
    by_cases c : (dgS B 1 (true, p)).1.1 = true
    · obtain ⟨t1, t5⟩ := t1 c
      have hx : (dgS B 1 (true, p)).1 = (true, (dgS B 1 (true, p)).1.2) := Prod.ext c rfl
      generalize hq : (dgS B 1 (true, p)).1.2 = q at t3 hx
      have hq9 : q < 804 := by rw [← hq]; have := hb1.2.1; show (dgS B 1 (true, p)).1.2 < 804; omega
      rw [hx]
      obtain ⟨υ, ⟨u1, u2x⟩, u3, u4⟩ := cl_d1 (m := M) (k := 6) (i := 1) (r := r + 3) (D := 2) hS1 hB t3 (by omega) hk1 (by omega) rfl (by omega) (by omega)
      have f2 := fr u4
      have hb2 := dgS_pos (B := B) (n := 1) (x := (true, q))
      by_cases d : (dgS B 1 (true, q)).1.1 = true
      · obtain ⟨u1, u5⟩ := u1 d
        refine ⟨υ, ?_, u3, fun c j x y z => by rw [f2.1 c j x y z, f1.1 c j x y z], by rw [f2.2, f1.2], fun _ a9 ha => ?_⟩
        · show _ = some (nI (if (dgS B 1 (true, q)).1.1 = true then 1 else 0), υ)
          have e1 := cl_l18_end (m := M) (σ := υ) (k := 6) (k1 := k1) (r := r + 2) (i := 1 + 1) (D := 2) (by omega) rfl (by omega) (by omega)
          rw [if_pos d, t1]
          exact u1.trans (e1.trans (cl_b65_0 (by omega) rfl))
        · have ha : a9 < 2 := ha
          rcases (show a9 = 0 ∨ a9 = 1 by omega) with rfl | rfl
          · show υ (k1 + 1) 0 = nI (dgS B 1 (true, p)).2
            rw [u4 _ _ (by omega) (by omega)]
            exact t5
          · exact u5
      · refine ⟨υ, ?_, u3, fun c j x y z => by rw [f2.1 c j x y z, f1.1 c j x y z], by rw [f2.2, f1.2], fun h => absurd h d⟩
        show _ = some (nI (if (dgS B 1 (true, q)).1.1 = true then 1 else 0), υ)
        rw [if_neg d, t1]
        exact u2x d
    · have hx : (dgS B 1 (true, p)).1 = (false, (dgS B 1 (true, p)).1.2) := Prod.ext (Bool.eq_false_iff.mpr c) rfl
      refine ⟨τ, ?_, by rw [hx, dgS_f]; exact t3, f1.1, f1.2, fun h => ?_⟩
      · rw [hx, dgS_f]
        exact t2 c
      · rw [hx, dgS_f] at h
        exact absurd h Bool.false_ne_true
  · obtain ⟨τ, t1, t2, t3, t4⟩ := cl_last (k := 7) (D := 0) (nn := 0) hS hB hp (by omega) hk1 (by omega) rfl (by omega) rfl (by omega)
    have f1 := fr t4
    have hA : (argS B 7 (true, p)).1 = (rl B 7 p).1 ∧ (argS B 7 (true, p)).2.1 = (rl B 7 p).2 := by
      unfold argS rl
      by_cases c : cb B p = 32
      · rw [if_neg (by omega), if_neg (by omega), if_neg (by omega), if_neg (by omega), if_pos rfl, if_pos ⟨rfl, c⟩, if_neg (fun h => h.2 c)]
        exact ⟨rfl, rfl⟩
      · rw [if_neg (by omega), if_neg (by omega), if_neg (by omega), if_neg (by omega), if_pos rfl, if_neg (fun h => c h.2), if_pos ⟨rfl, c⟩]
        exact ⟨rfl, rfl⟩
    refine ⟨τ, ?_, by rw [hA.1]; exact t2, f1.1, f1.2, fun ho a9 ha => ?_⟩
    · have e1 := cl_l18_end (m := M) (σ := σ) (k := 7) (k1 := k1) (r := r + 4) (i := 0) (D := 0) (by omega) rfl (by omega) (by omega)
      rw [hm9] at e1
      rw [e1, hA.1]
      exact cl_b65_1 (by omega) rfl t1
    · have ha : a9 < 1 := ha
      obtain rfl : a9 = 0 := by omega
      rw [hA.1] at ho
      show _ = nI (argS B 7 (true, p)).2.1
      rw [hA.2]
      exact t3 ho
theorem cl_readCmd {k1 : Nat} (hF : 2000 ≤ m) (hS : SB σ B) (hB : bOk B) (hp : σ 214 2 = nI p) (hp9 : p < 700) (hk1 : 217 ≤ k1) : ∃ τ, fX8_readCommand m k1 σ = some (nI (if (cmdS B p).1.1 = true then 1 else 0), τ) ∧ τ 214 2 = nI (cmdS B p).1.2 ∧ PF σ τ k1 ∧ ((cmdS B p).1.1 = true → (wdS B p).1 < 8 ∧ τ k1 0 = nI (wdS B p).1 ∧ ∀ a, a < na (wdS B p).1 → τ (k1 + 1) a = nI (aN (cmdS B p).2 a)) := by
  have hrw := cl_rw (m := m) hF hS hB hp (by omega)
  have hsp := rw_spec (B := B) (p := p)
  have hpos := wdS_pos (B := B) (p := p)
  by_cases c : (wdS B p).2.1 = true
  · have hok := wdS_ok c
    rw [if_pos c] at hsp
    have h8 : ¬ (rwL B p 8 0 0).1 = 8 := fun h => by
      rw [if_pos h] at hsp
      rw [← hsp] at hok
      exact absurd hok.1 (Nat.lt_irrefl 8)
    rw [if_neg h8] at hsp hrw
    have e1 : (rwL B p 8 0 0).1 = (wdS B p).1 := congrArg (·.1) hsp
    have e2 : (rwL B p 8 0 0).2 = (wdS B p).2.2 := congrArg (·.2.2) hsp
    rw [e1, e2] at hrw
    have hx : (wdS B p).2 = (true, (wdS B p).2.2) := Prod.ext c rfl
    obtain ⟨τ, t1, t2, t3, t4, t5⟩ := cl_args (m := m) (σ := u2 (u2 σ 214 2 (nI (wdS B p).2.2)) k1 0 (nI (wdS B p).1)) (k := (wdS B p).1) (k1 := k1) (p := (wdS B p).2.2) hF (hS.of (by rw [pu_u2n (by omega), pu_u2n (by omega)]) (by rw [pu_u2r (by omega), pu_u2r (by omega)])) hB (by rw [pu_u2n (by omega), pu_u2e ⟨rfl, rfl⟩]) (by omega) hk1 hok.1
    rw [← hx] at t1 t2 t5
    refine ⟨τ, ?_, t2, fun c j x y z => by rw [t3 c j x y z, pu_u2n (by omega), pu_u2n (by omega)], fun ho => ⟨hok.1, by rw [t4, pu_u2e ⟨rfl, rfl⟩], t5 ho⟩⟩
    unfold fX8_readCommand
    simp (disch := omega) only [pu_OB, pu_LET, pu_OX0, pu_BND, pu_NZ, pu_BL, pu_m1, nI_add, pk_sub, pk_mul, pk_div, nI_clamp, pu_eq, pu_ne, pu_le_t, pu_le_f, pu_lt_t, pu_lt_f, pu_nm, pu_mm, pu_u2e, pu_u2n, ↓reduceIte, li0, li1, li2, li3, li4, li5, li6, li7, li8, li9, li10, li11, li12, li13, li14, li15, li16, li17, li18, li19, li20, li21, li22, li23, li24, li25, li26, li27, li28, li29, li30, li31, li32, li33, li34, li35, li36, li37, li38, li39, li40, li41, li42, li43, li44, li45, li46, li47, li48, li49, li50, li51, li52, li53, li54, li55, li56, li57, li58, li59, li60, li64, li72, li87, li97, li98, li99, li100, li101, li102, li103, li104, li105, li108, li109, li110, li111, li112, li114, li115, li116, li117, li119, li120, li124, li126, li132, li139, li140, li148, li156, li1000, li1092, li1248, hrw]
    exact t1
  · rw [if_neg c] at hsp
    have h8 : (rwL B p 8 0 0).1 = 8 := by
      by_cases h : (rwL B p 8 0 0).1 = 8
      · exact h
      · rw [if_neg h] at hsp
        exact absurd (congrArg (·.1) hsp) h
    rw [if_pos h8] at hsp hrw
    have e2 : (rwL B p 8 0 0).2 = (wdS B p).2.2 := congrArg (·.2.2) hsp
    rw [e2] at hrw
    have hx : (wdS B p).2 = (false, (wdS B p).2.2) := Prod.ext (Bool.eq_false_iff.mpr c) rfl
    have hcm : (cmdS B p).1 = (false, (wdS B p).2.2) := by
      unfold cmdS
      rw [hx, argS_f]
    rw [hcm]
    refine ⟨u2 σ 214 2 (nI (wdS B p).2.2), ?_, pu_u2e ⟨rfl, rfl⟩, fun c j x y z => pu_u2n (by omega), fun h => absurd h Bool.false_ne_true⟩
    have hm0 : (mI < nI 0) = True := eq_true (by decide +kernel)
    show _ = some (nI 0, _)
    unfold fX8_readCommand
    simp (disch := omega) only [pu_OB, pu_LET, pu_OX0, pu_BND, pu_NZ, pu_BL, pu_m1, nI_add, pk_sub, pk_mul, pk_div, nI_clamp, pu_eq, pu_ne, pu_le_t, pu_le_f, pu_lt_t, pu_lt_f, pu_nm, pu_mm, pu_u2e, pu_u2n, ↓reduceIte, li0, li1, li2, li3, li4, li5, li6, li7, li8, li9, li10, li11, li12, li13, li14, li15, li16, li17, li18, li19, li20, li21, li22, li23, li24, li25, li26, li27, li28, li29, li30, li31, li32, li33, li34, li35, li36, li37, li38, li39, li40, li41, li42, li43, li44, li45, li46, li47, li48, li49, li50, li51, li52, li53, li54, li55, li56, li57, li58, li59, li60, li64, li72, li87, li97, li98, li99, li100, li101, li102, li103, li104, li105, li108, li109, li110, li111, li112, li114, li115, li116, li117, li119, li120, li124, li126, li132, li139, li140, li148, li156, li1000, li1092, li1248, hrw, hm0]
end SP

