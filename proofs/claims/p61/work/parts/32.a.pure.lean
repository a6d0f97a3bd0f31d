-- ===== mills copied; the history; the whole relation =====
def A0 : AM := (fun _ => 0, [])
def oI (o : Option Nat) : Int32 := match o with | none => mI | some n => nI n
def pushH (H : List AM) (A : AM) : List AM := if H.length = 8 then H.tail ++ [A] else H ++ [A]
/-- the mill is in bounds after C calls -/
def VG (A : AM) (C : Nat) : Prop := IN A.1 A.2 ∧ IS A.1 0 (480 * C) (12 * C)
theorem VG.mono {A : AM} {C C' : Nat} (h : VG A C) (hc : C ≤ C') : VG A C' := ⟨h.1, by have := h.2.1; omega, h.2.2⟩
theorem cp_eq {f g : Nat → Int32} {n j : Nat} (h : j < n) : cpy0 f g n j = f j := if_pos h
theorem SR.copy {σ τ : St} {k1 k : Nat} {sc : Nat → Nat} (h : SR σ k1 sc) (hc : ∀ j, scOk j = true → τ (k + lc j) (li j) = σ (k1 + lc j) (li j)) : SR τ k sc := fun j hj => by rw [hc j hj, h j hj]
theorem NRW.copy {σ τ : St} {n1 n : Nat} {sc : Nat → Nat} {L W : List E4} (h : NRW σ n1 sc L W) (hl : W.length ≤ 12) (hw : τ n 5 = σ n1 5) (hc : ∀ c, 1 ≤ c → c ≤ 4 → ∀ j, j < 15 → τ (n + c) j = σ (n1 + c) j) (hh : ∀ w, w < 3 → τ (n + 5) w = σ (n1 + 5) w) : NRW τ n sc L W := by
  have hsl : ∀ q e, q < 15 → slotE σ n1 q e → slotE τ n q e := fun q e hq ⟨h1, h2, h3, h4⟩ => ⟨by rw [hc 1 (by omega) (by omega) q hq, h1], by rw [hc 2 (by omega) (by omega) q hq, h2], by rw [hc 3 (by omega) (by omega) q hq, h3], by rw [hc 4 (by omega) (by omega) q hq, h4]⟩
  obtain ⟨h1, h2, h3, h4⟩ := h
  exact ⟨h1, by rw [hw, h2], fun q hq => hsl _ _ (by omega) (h3 q hq), fun w hw3 => ⟨by rw [hh w hw3]; exact (h4 w hw3).1, fun e h5 h6 => hsl _ _ (by omega) ((h4 w hw3).2 e h5 h6)⟩⟩
theorem CR.of {σ τ : St} {k : Nat} {A : AM} (h : CR σ k A) (hc : ∀ c, c < 19 → τ (k + c) = σ (k + c)) : CR τ k A := by
  obtain ⟨hS, W, hn⟩ := h
  refine ⟨hS.congr hc, W, hn.congr (by rw [hc 1 (by omega)]) (fun c h1 h2 => ?_) fun w hw => rfl⟩
  rw [Nat.add_assoc, hc _ (by omega)]
/-- where every scalar's cell takes its numbers from, in the order of the copying -/
def shP (a b : Nat) : Prop := (a = 1 ∧ b = 6) ∨ (a = 8 ∧ b < 4) ∨ (a = 9 ∧ b < 4) ∨ (a = 10 ∧ b < 32) ∨ (a = 11 ∧ b < 8) ∨ (a = 7 ∧ (b = 4 ∨ b = 5 ∨ b = 6)) ∨ (a = 13 ∧ b < 8) ∨ (a = 14 ∧ b < 8) ∨ (a = 15 ∧ b < 8) ∨ (a = 12 ∧ b = 3) ∨ (a = 16 ∧ b < 3) ∨ (a = 17 ∧ b < 3) ∨ (a = 18 ∧ b < 8) ∨ (a = 0 ∧ b = 6)
theorem l_shape0 : ((List.range 156).all fun j => !scOk j || ((lc j == 1 && li j == 6) || ((lc j == 8 && decide (li j < 4)) || ((lc j == 9 && decide (li j < 4)) || ((lc j == 10 && decide (li j < 32)) || ((lc j == 11 && decide (li j < 8)) || ((lc j == 7 && (li j == 4 || (li j == 5 || li j == 6))) || ((lc j == 13 && decide (li j < 8)) || ((lc j == 14 && decide (li j < 8)) || ((lc j == 15 && decide (li j < 8)) || ((lc j == 12 && li j == 3) || ((lc j == 16 && decide (li j < 3)) || ((lc j == 17 && decide (li j < 3)) || ((lc j == 18 && decide (li j < 8)) || (lc j == 0 && li j == 6))))))))))))))) = true := by decide +kernel
theorem l_shape (j : Nat) (hj : j < 156) (h1 : scOk j = true) : shP (lc j) (li j) := by
  have h := List.all_eq_true.mp l_shape0 j (List.mem_range.mpr hj)
  rw [h1] at h
  simp only [Bool.not_true, Bool.false_or, Bool.or_eq_true, Bool.and_eq_true, beq_iff_eq, decide_eq_true_eq] at h
  exact h
theorem b01_ok {α : Type} {f : Nat → Int32} {n : Nat} {K : Option α} (h : ∀ i, i < n → f i = nI 0 ∨ f i = nI 1) : B01 f n K = K := by
  unfold B01
  rw [if_pos]
  exact List.all_eq_true.mpr fun i hi => decide_eq_true (h i (List.mem_range.mp hi))
theorem nI_01 {n : Nat} (h : n ≤ 1) : nI n = nI 0 ∨ nI n = nI 1 := by
  rcases (show n = 0 ∨ n = 1 by omega) with rfl | rfl
  · exact Or.inl rfl
  · exact Or.inr rfl
section CL
variable {σ : St} {k k1 m : Nat}
theorem bl_nar {x : Int32} (h : x = nI 0 ∨ x = nI 1) : vp_nar .boolean x = x := by
  rcases h with rfl | rfl <;> rfl
theorem cl_cpN {n n1 : Nat} (hd : n + 6 ≤ n1 ∨ n1 + 6 ≤ n) : ∀ (d f i : Nat) (t : St), i + d = 3 → d < f → (∀ w, w < i → t (n + 5) w = t (n1 + 5) w) → (∀ w, w < 3 → t (n1 + 5) w = nI 0 ∨ t (n1 + 5) w = nI 1) → ∃ τ, fX7_copyFrom_L62 m n n1 f (nI i) t = some (0, τ) ∧ τ n 5 = t n1 5 ∧ τ n 6 = t n1 6 ∧ (∀ w, w < 3 → τ (n + 5) w = t (n1 + 5) w) ∧ ∀ c, c ≠ n → c ≠ n + 5 → τ c = t c := by
  intro d
  induction d with
  | zero =>
    intro f i t h1 h2 h3 h4
    obtain ⟨f, rfl⟩ : ∃ q, f = q + 1 := ⟨f - 1, by omega⟩
    refine ⟨u2 (u2 t n 5 (t n1 5)) n 6 (t n1 6), ?_, ?_, ?_, fun w hw => ?_, fun c h5 h6 => ?_⟩
    · simp (disch := omega) only [pu_OB, pu_LET, pu_OX0, pu_BND, pu_NZ, pu_BL, pu_m1, nI_add, pk_sub, pk_mul, pk_div, nI_clamp, pu_eq, pu_ne, pu_le_t, pu_le_f, pu_lt_t, pu_lt_f, pu_nm, pu_mm, pu_u2e, pu_u2n, ↓reduceIte, li0, li1, li2, li3, li4, li5, li6, li7, li8, li9, li10, li11, li12, li13, li14, li15, li16, li17, li18, li19, li20, li21, li22, li23, li24, li25, li26, li27, li28, li29, li30, li31, li32, li33, li34, li35, li36, li37, li38, li39, li40, li41, li42, li43, li44, li45, li46, li47, li48, li49, li50, li51, li52, li53, li54, li55, li56, li57, li58, li59, li60, li64, li72, li87, li97, li98, li99, li100, li101, li102, li103, li104, li105, li108, li109, li110, li111, li112, li114, li115, li116, li117, li119, li120, li124, li126, li132, li139, li140, li148, li156, li1000, li1092, li1248, fX7_copyFrom_L62_s, fX7_copyFrom_L62b]
    · simp (disch := omega) only [pu_u2e, pu_u2n]
    · simp (disch := omega) only [pu_u2e, pu_u2n]
    · simp (disch := omega) only [pu_u2r]
      exact h3 w (by omega)
    · simp (disch := omega) only [pu_u2r]
  | succ d ih =>
    intro f i t h1 h2 h3 h4
    obtain ⟨f, rfl⟩ : ∃ q, f = q + 1 := ⟨f - 1, by omega⟩
    have e4 := bl_nar (h4 i (by omega))
    obtain ⟨τ, a1, b5, b6, a4, a5⟩ := ih f (i + 1) (u2 t (n + 5) i (t (n1 + 5) i)) (by omega) (by omega) (fun w hw => by
      by_cases c : w = i
      · subst c
        rw [pu_u2e ⟨rfl, rfl⟩, pu_u2r (by omega)]
      · rw [pu_u2n (by omega), pu_u2r (by omega)]
        exact h3 w (by omega)) (fun w hw => by
      rw [pu_u2r (by omega)]
      exact h4 w hw)
    refine ⟨τ, ?_, ?_, ?_, fun w hw => ?_, fun c h5 h6 => ?_⟩
    · simp (disch := omega) only [pu_OB, pu_LET, pu_OX0, pu_BND, pu_NZ, pu_BL, pu_m1, nI_add, pk_sub, pk_mul, pk_div, nI_clamp, pu_eq, pu_ne, pu_le_t, pu_le_f, pu_lt_t, pu_lt_f, pu_nm, pu_mm, pu_u2e, pu_u2n, ↓reduceIte, li0, li1, li2, li3, li4, li5, li6, li7, li8, li9, li10, li11, li12, li13, li14, li15, li16, li17, li18, li19, li20, li21, li22, li23, li24, li25, li26, li27, li28, li29, li30, li31, li32, li33, li34, li35, li36, li37, li38, li39, li40, li41, li42, li43, li44, li45, li46, li47, li48, li49, li50, li51, li52, li53, li54, li55, li56, li57, li58, li59, li60, li64, li72, li87, li97, li98, li99, li100, li101, li102, li103, li104, li105, li108, li109, li110, li111, li112, li114, li115, li116, li117, li119, li120, li124, li126, li132, li139, li140, li148, li156, li1000, li1092, li1248, fX7_copyFrom_L62_s, fX7_copyFrom_L62b, e4]
      exact a1
    · rw [b5, pu_u2r (by omega)]
    · rw [b6, pu_u2r (by omega)]
    · rw [a4 w hw, pu_u2r (by omega)]
    · rw [a5 c h5 h6, pu_u2r (by omega)]
theorem cl_cpS {n n1 : Nat} (hd : n + 6 ≤ n1 ∨ n1 + 6 ≤ n) : ∀ (d f i : Nat) (t : St), i + d = 8 → d < f → (∀ w, w < i → t (n + 4) w = t (n1 + 4) w) → (∀ w, w < 8 → t (n1 + 4) w = nI 0 ∨ t (n1 + 4) w = nI 1) → ∃ τ, fX9_copyFrom_L45 m n n1 f (nI i) t = some (0, τ) ∧ τ n 4 = t n1 4 ∧ τ n 5 = t n1 5 ∧ τ n 6 = t n1 6 ∧ (∀ w, w < 8 → τ (n + 4) w = t (n1 + 4) w) ∧ ∀ c, c ≠ n → c ≠ n + 4 → τ c = t c := by
  intro d
  induction d with
  | zero =>
    intro f i t h1 h2 h3 h4
    obtain ⟨f, rfl⟩ : ∃ q, f = q + 1 := ⟨f - 1, by omega⟩
    refine ⟨u2 (u2 (u2 t n 4 (t n1 4)) n 5 (t n1 5)) n 6 (t n1 6), ?_, ?_, ?_, ?_, fun w hw => ?_, fun c h5 h6 => ?_⟩
    · simp (disch := omega) only [pu_OB, pu_LET, pu_OX0, pu_BND, pu_NZ, pu_BL, pu_m1, nI_add, pk_sub, pk_mul, pk_div, nI_clamp, pu_eq, pu_ne, pu_le_t, pu_le_f, pu_lt_t, pu_lt_f, pu_nm, pu_mm, pu_u2e, pu_u2n, ↓reduceIte, li0, li1, li2, li3, li4, li5, li6, li7, li8, li9, li10, li11, li12, li13, li14, li15, li16, li17, li18, li19, li20, li21, li22, li23, li24, li25, li26, li27, li28, li29, li30, li31, li32, li33, li34, li35, li36, li37, li38, li39, li40, li41, li42, li43, li44, li45, li46, li47, li48, li49, li50, li51, li52, li53, li54, li55, li56, li57, li58, li59, li60, li64, li72, li87, li97, li98, li99, li100, li101, li102, li103, li104, li105, li108, li109, li110, li111, li112, li114, li115, li116, li117, li119, li120, li124, li126, li132, li139, li140, li148, li156, li1000, li1092, li1248, fX9_copyFrom_L45_s, fX9_copyFrom_L45b]
    · simp (disch := omega) only [pu_u2e, pu_u2n]
    · simp (disch := omega) only [pu_u2e, pu_u2n]
    · simp (disch := omega) only [pu_u2e, pu_u2n]
    · simp (disch := omega) only [pu_u2r]
      exact h3 w (by omega)
    · simp (disch := omega) only [pu_u2r]
  | succ d ih =>
    intro f i t h1 h2 h3 h4
    obtain ⟨f, rfl⟩ : ∃ q, f = q + 1 := ⟨f - 1, by omega⟩
    have e4 := bl_nar (h4 i (by omega))
    obtain ⟨τ, a1, b4, b5, b6, a4, a5⟩ := ih f (i + 1) (u2 t (n + 4) i (t (n1 + 4) i)) (by omega) (by omega) (fun w hw => by
      by_cases c : w = i
      · subst c
        rw [pu_u2e ⟨rfl, rfl⟩, pu_u2r (by omega)]
      · rw [pu_u2n (by omega), pu_u2r (by omega)]
        exact h3 w (by omega)) (fun w hw => by
      rw [pu_u2r (by omega)]
      exact h4 w hw)
    refine ⟨τ, ?_, ?_, ?_, ?_, fun w hw => ?_, fun c h5 h6 => ?_⟩
    · simp (disch := omega) only [pu_OB, pu_LET, pu_OX0, pu_BND, pu_NZ, pu_BL, pu_m1, nI_add, pk_sub, pk_mul, pk_div, nI_clamp, pu_eq, pu_ne, pu_le_t, pu_le_f, pu_lt_t, pu_lt_f, pu_nm, pu_mm, pu_u2e, pu_u2n, ↓reduceIte, li0, li1, li2, li3, li4, li5, li6, li7, li8, li9, li10, li11, li12, li13, li14, li15, li16, li17, li18, li19, li20, li21, li22, li23, li24, li25, li26, li27, li28, li29, li30, li31, li32, li33, li34, li35, li36, li37, li38, li39, li40, li41, li42, li43, li44, li45, li46, li47, li48, li49, li50, li51, li52, li53, li54, li55, li56, li57, li58, li59, li60, li64, li72, li87, li97, li98, li99, li100, li101, li102, li103, li104, li105, li108, li109, li110, li111, li112, li114, li115, li116, li117, li119, li120, li124, li126, li132, li139, li140, li148, li156, li1000, li1092, li1248, fX9_copyFrom_L45_s, fX9_copyFrom_L45b, e4]
      exact a1
    · rw [b4, pu_u2r (by omega)]
    · rw [b5, pu_u2r (by omega)]
    · rw [b6, pu_u2r (by omega)]
    · rw [a4 w hw, pu_u2r (by omega)]
    · rw [a5 c h5 h6, pu_u2r (by omega)]
theorem cl_copyN {A : AM} (hF : 2000 ≤ m) (hC : CR σ k1 A) (hd : k + 19 ≤ k1 ∨ k1 + 19 ≤ k) : ∃ τ, fX7_copyFrom m (k + 1) (k1 + 1) σ = some (0, τ) ∧ τ (k + 1) 5 = σ (k1 + 1) 5 ∧ τ (k + 1) 6 = σ (k1 + 1) 6 ∧ (∀ c, 1 ≤ c → c ≤ 4 → ∀ j, j < 15 → τ (k + 1 + c) j = σ (k1 + 1 + c) j) ∧ (∀ w, w < 3 → τ (k + 1 + 5) w = σ (k1 + 1 + 5) w) ∧ ∀ c, c < k + 1 ∨ k + 7 ≤ c → τ c = σ c := by
  obtain ⟨hS, W, hn⟩ := hC
  have hb9 : ∀ i, i < 3 → σ (k1 + 1 + 5) i = nI 0 ∨ σ (k1 + 1 + 5) i = nI 1 := fun i hi => by
    rw [(hn.2.2.2 i hi).1]
    unfold hflag
    split
    · exact Or.inl rfl
    · exact Or.inr rfl
  obtain ⟨τ, a1, a2, a3, a4, a5⟩ := cl_cpN (m := m) (n := k + 1) (n1 := k1 + 1) (by omega) 3 m 0 (va_up (va_up (va_up (va_up σ (k + 1 + 1) (cpy0 (σ (k1 + 1 + 1)) (σ (k + 1 + 1)) 15)) (k + 1 + 2) (cpy0 (σ (k1 + 1 + 2)) (σ (k + 1 + 2)) 15)) (k + 1 + 3) (cpy0 (σ (k1 + 1 + 3)) (σ (k + 1 + 3)) 15)) (k + 1 + 4) (cpy0 (σ (k1 + 1 + 4)) (σ (k + 1 + 4)) 15)) (by omega) (by omega) (fun w hw => absurd hw (Nat.not_lt_zero _)) (fun w hw => by
    simp (disch := omega) only [pu_upn]
    exact hb9 w hw)
  refine ⟨τ, ?_, ?_, ?_, fun c h1 h2 j hj => ?_, fun w hw => ?_, fun c hc => ?_⟩
  · unfold fX7_copyFrom
    simp (disch := omega) only [pu_LET, pu_upn, pu_u2n]
    exact a1
  · rw [a2]
    simp (disch := omega) only [pu_upn]
  · rw [a3]
    simp (disch := omega) only [pu_upn]
  · rw [a5 _ (by omega) (by omega)]
    rcases (show c = 1 ∨ c = 2 ∨ c = 3 ∨ c = 4 by omega) with rfl | rfl | rfl | rfl <;> simp (disch := omega) only [pu_upn, pu_upe, pu_u2n, cp_eq]
  · rw [a4 w hw]
    simp (disch := omega) only [pu_upn]
  · rw [a5 _ (by omega) (by omega)]
    simp (disch := omega) only [pu_upn]
theorem cl_copyS {A : AM} {u T N : Nat} (hF : 2000 ≤ m) (hC : SR σ k1 A.1) (hs : IS A.1 u T N) (hd : k + 19 ≤ k1 ∨ k1 + 19 ≤ k) : ∃ τ, fX9_copyFrom m (k + 7) (k1 + 7) σ = some (0, τ) ∧ (∀ j, j < 4 → τ (k + 8) j = σ (k1 + 8) j) ∧ (∀ j, j < 4 → τ (k + 9) j = σ (k1 + 9) j) ∧ (∀ j, j < 32 → τ (k + 10) j = σ (k1 + 10) j) ∧ (∀ j, j < 8 → τ (k + 11) j = σ (k1 + 11) j) ∧ (∀ j, j = 4 ∨ j = 5 ∨ j = 6 → τ (k + 7) j = σ (k1 + 7) j) ∧ ∀ c, c < k + 7 ∨ k + 12 ≤ c → τ c = σ c := by
  have hb9 : ∀ i, i < 8 → σ (k1 + 7 + 4) i = nI 0 ∨ σ (k1 + 7 + 4) i = nI 1 := fun i hi => by
    rw [hC.touched hi]
    exact nI_01 (hs.2.2.1 i hi).2
  obtain ⟨τ, a1, b4, b5, b6, a4, a5⟩ := cl_cpS (m := m) (n := k + 7) (n1 := k1 + 7) (by omega) 8 m 0 (va_up (va_up (va_up σ (k + 7 + 1) (cpy0 (σ (k1 + 7 + 1)) (σ (k + 7 + 1)) 4)) (k + 7 + 2) (cpy0 (σ (k1 + 7 + 2)) (σ (k + 7 + 2)) 4)) (k + 7 + 3) (cpy0 (σ (k1 + 7 + 3)) (σ (k + 7 + 3)) 32)) (by omega) (by omega) (fun w hw => absurd hw (Nat.not_lt_zero _)) (fun w hw => by
    simp (disch := omega) only [pu_upn]
    exact hb9 w hw)
  refine ⟨τ, ?_, fun j hj => ?_, fun j hj => ?_, fun j hj => ?_, fun j hj => ?_, fun j hj => ?_, fun c hc => ?_⟩
  · unfold fX9_copyFrom
    simp (disch := omega) only [pu_LET, pu_upn, pu_u2n]
    exact a1
  · rw [a5 _ (by omega) (by omega)]
    simp (disch := omega) only [pu_upn, pu_upe, pu_u2n, cp_eq]
  · rw [a5 _ (by omega) (by omega)]
    simp (disch := omega) only [pu_upn, pu_upe, pu_u2n, cp_eq]
  · rw [a5 _ (by omega) (by omega)]
    simp (disch := omega) only [pu_upn, pu_upe, pu_u2n, cp_eq]
  · have := a4 j hj
    simp (disch := omega) only [pu_upn] at this
    exact this
  · rcases hj with rfl | rfl | rfl
    · rw [b4]
      simp (disch := omega) only [pu_upn]
    · rw [b5]
      simp (disch := omega) only [pu_upn]
    · rw [b6]
      simp (disch := omega) only [pu_upn]
  · rw [a5 _ (by omega) (by omega)]
    simp (disch := omega) only [pu_upn]
theorem cl_copyL (hd : k + 19 ≤ k1 ∨ k1 + 19 ≤ k) : ∃ τ, fX5_copyFrom (k + 12) (k1 + 12) σ = some (0, τ) ∧ (∀ j, j < 8 → τ (k + 13) j = σ (k1 + 13) j) ∧ (∀ j, j < 8 → τ (k + 14) j = σ (k1 + 14) j) ∧ (∀ j, j < 8 → τ (k + 15) j = σ (k1 + 15) j) ∧ τ (k + 12) 3 = σ (k1 + 12) 3 ∧ ∀ c, c < k + 12 ∨ k + 16 ≤ c → τ c = σ c := by
  refine ⟨u2 (va_up (va_up (va_up σ (k + 12 + 1) (cpy0 (σ (k1 + 12 + 1)) (σ (k + 12 + 1)) 8)) (k + 12 + 2) (cpy0 (σ (k1 + 12 + 2)) (σ (k + 12 + 2)) 8)) (k + 12 + 3) (cpy0 (σ (k1 + 12 + 3)) (σ (k + 12 + 3)) 8)) (k + 12) 3 (σ (k1 + 12) 3), ?_, fun j hj => ?_, fun j hj => ?_, fun j hj => ?_, ?_, fun c hc => ?_⟩
  · unfold fX5_copyFrom
    simp (disch := omega) only [pu_LET, pu_upn, pu_u2n]
  · simp (disch := omega) only [pu_upn, pu_upe, pu_u2n, cp_eq]
  · simp (disch := omega) only [pu_upn, pu_upe, pu_u2n, cp_eq]
  · simp (disch := omega) only [pu_upn, pu_upe, pu_u2n, cp_eq]
  · simp (disch := omega) only [pu_u2e]
  · simp (disch := omega) only [pu_upn, pu_u2r]
theorem cl_copy {A : AM} {u T N : Nat} (hF : 2000 ≤ m) (hC : CR σ k1 A) (hI : IN A.1 A.2) (hs : IS A.1 u T N) (hd : k + 19 ≤ k1 ∨ k1 + 19 ≤ k) : ∃ τ, fX6_copyFrom m k k1 σ = some (0, τ) ∧ CR τ k A ∧ ∀ c, c < k ∨ k + 19 ≤ c → τ c = σ c := by
  obtain ⟨t1, a1, a2, a3, a4, a5, a6⟩ := cl_copyN hF hC hd
  have hSR1 : SR t1 k1 A.1 := hC.1.congr fun c hc => a6 _ (by omega)
  obtain ⟨t2, b1, b2, b3, b4, b5, b6, b7⟩ := cl_copyS (k := k) hF hSR1 hs hd
  obtain ⟨t3, c1, c2, c3, c4, c5, c6⟩ := cl_copyL (σ := t2) hd
  refine ⟨u2 (va_up (va_up (va_up t3 (k + 16) (cpy0 (t3 (k1 + 16)) (t3 (k + 16)) 3)) (k + 17) (cpy0 (t3 (k1 + 17)) (t3 (k + 17)) 3)) (k + 18) (cpy0 (t3 (k1 + 18)) (t3 (k + 18)) 8)) k 6 (t3 k1 6), ?_, ?_, fun c hc => ?_⟩
  · unfold fX6_copyFrom
    rw [a1, pu_OB, b1, pu_OB, c1, pu_OB]
    simp (disch := omega) only [pu_LET, pu_upn, pu_u2n]
  · obtain ⟨hS, W, hn⟩ := hC
    have hl : W.length ≤ 12 := by rw [hn.len]; exact hI.2.2.1
    have e3 : ∀ c, c < 19 → t3 (k1 + c) = σ (k1 + c) := fun c hc => by rw [c6 _ (by omega), b7 _ (by omega), a6 _ (by omega)]
    have r1 : ∀ c, c < 19 → t1 (k1 + c) = σ (k1 + c) := fun c hc => a6 _ (by omega)
    have r2 : ∀ c, c < 19 → t2 (k1 + c) = σ (k1 + c) := fun c hc => by rw [b7 _ (by omega), r1 c hc]
    refine ⟨hS.copy fun j hj => ?_, W, hn.copy hl ?_ (fun c h1 h2 j hj => ?_) fun w hw => ?_⟩
    · have hsh := l_shape j (scOk_t.mp hj).1 hj
      rcases hsh with ⟨q1, q2⟩ | ⟨q1, q2⟩ | ⟨q1, q2⟩ | ⟨q1, q2⟩ | ⟨q1, q2⟩ | ⟨q1, q2⟩ | ⟨q1, q2⟩ | ⟨q1, q2⟩ | ⟨q1, q2⟩ | ⟨q1, q2⟩ | ⟨q1, q2⟩ | ⟨q1, q2⟩ | ⟨q1, q2⟩ | ⟨q1, q2⟩
      · rw [q1, q2]
        simp (disch := omega) only [pu_upn, pu_u2n]
        rw [c6 _ (by omega), b7 _ (by omega), a3]
      · rw [q1]
        simp (disch := omega) only [pu_upn, pu_u2n]
        rw [c6 _ (by omega), b2 _ q2, r1 _ (by omega)]
      · rw [q1]
        simp (disch := omega) only [pu_upn, pu_u2n]
        rw [c6 _ (by omega), b3 _ q2, r1 _ (by omega)]
      · rw [q1]
        simp (disch := omega) only [pu_upn, pu_u2n]
        rw [c6 _ (by omega), b4 _ q2, r1 _ (by omega)]
      · rw [q1]
        simp (disch := omega) only [pu_upn, pu_u2n]
        rw [c6 _ (by omega), b5 _ q2, r1 _ (by omega)]
      · rw [q1]
        simp (disch := omega) only [pu_upn, pu_u2n]
        rw [c6 _ (by omega), b6 _ q2, r1 _ (by omega)]
      · rw [q1]
        simp (disch := omega) only [pu_upn, pu_u2n]
        rw [c2 _ q2, r2 _ (by omega)]
      · rw [q1]
        simp (disch := omega) only [pu_upn, pu_u2n]
        rw [c3 _ q2, r2 _ (by omega)]
      · rw [q1]
        simp (disch := omega) only [pu_upn, pu_u2n]
        rw [c4 _ q2, r2 _ (by omega)]
      · rw [q1, q2]
        simp (disch := omega) only [pu_upn, pu_u2n]
        rw [c5, r2 _ (by omega)]
      · rw [q1]
        simp (disch := omega) only [pu_upn, pu_upe, pu_u2n, cp_eq]
        rw [e3 _ (by omega)]
      · rw [q1]
        simp (disch := omega) only [pu_upn, pu_upe, pu_u2n, cp_eq]
        rw [e3 _ (by omega)]
      · rw [q1]
        simp (disch := omega) only [pu_upn, pu_upe, pu_u2n, cp_eq]
        rw [e3 _ (by omega)]
      · rw [q1, q2, pu_u2e (by omega)]
        have := e3 0 (by omega)
        rw [Nat.add_zero] at this ⊢
        rw [this]
    · simp (disch := omega) only [pu_upn, pu_u2n]
      rw [c6 _ (by omega), b7 _ (by omega), a2]
    · simp (disch := omega) only [pu_upn, pu_u2n]
      rw [c6 _ (by omega), b7 _ (by omega), a4 c h1 h2 j hj]
    · simp (disch := omega) only [pu_upn, pu_u2n]
      rw [c6 _ (by omega), b7 _ (by omega), a5 w hw]
  · simp (disch := omega) only [pu_upn, pu_u2r]
    rw [c6 _ (by omega), b7 _ (by omega), a6 _ (by omega)]
end CL

