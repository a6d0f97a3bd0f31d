-- ===== mills copied; the history; the whole relation =====
def A0 : AM := (fun _ => 0, [])
def oI (o : Option Nat) : Int32 := match o with | none => mI | some n => nI n
def pushH (H : List AM) (A : AM) : List AM := if H.length = 8 then H.tail ++ [A] else H ++ [A]
/-- the mill is in bounds after C calls -/
def VG (A : AM) (C : Nat) : Prop := IN A.1 A.2 ∧ IS A.1 0 (480 * C) (12 * C)
theorem VG.mono {A : AM} {C C' : Nat} (h : VG A C) (hc : C ≤ C') : VG A C' := ⟨h.1, by have := h.2.1; omega, h.2.2⟩
theorem cp_eq {f g : Nat → Int32} {n j : Nat} (h : j < n) : cpy0 f g n j = f j := if_pos h
theorem SR.copy {σ τ : St} {k1 k : Nat} {sc : Nat → Nat} (h : SR σ k1 sc) (hc : ∀ j, scOk j = true → τ (k + lc j) (li j) = σ (k1 + lc j) (li j)) : SR τ k sc := fun j hj => by rw [hc j hj, h j hj]
theorem NRW.copy {σ τ : St} {n1 n : Nat} {sc : Nat → Nat} {L W : List E4} (h : NRW σ n1 sc L W) (hl : W.length ≤ 12) (hw : τ n 5 = σ n1 5) (hc : ∀ c, 1 ≤ c → c ≤ 4 → ∀ j, j < 15 → τ (n + c) j = σ (n1 + c) j) (hh : ∀ w, w < 3 → τ (n + 5) w = σ (n1 + 5) w) : NRW τ n sc L W := by
  have hsl : ∀ q e, q < 15 → slotE σ n1 q e → slotE τ n q e := fun q e hq ⟨h1, h2, h3, h4⟩ => ⟨by rw [hc 1 (by omega) (by omega) q hq, h1], by rw [hc 2 (by omega) (by omega) q hq, h2], by rw [hc 3 (by omega) (by omega) q hq, h3], by rw [hc 4 (by omega) (by omega) q hq, h4]⟩
  obtain ⟨h1, h2, h3, h4⟩ := h
  exact ⟨h1, by rw [hw, h2], fun q hq => hsl _ _ (by omega) (h3 q hq), fun w hw3 => ⟨by rw [hh w hw3]; exact (h4 w hw3).1, fun e h5 h6 => hsl _ _ (by omega) ((h4 w hw3).2 e h5 h6)⟩⟩
theorem CR.of {σ τ : St} {k : Nat} {A : AM} (h : CR σ k A) (hc : ∀ c, c < 19 → τ (k + c) = σ (k + c)) : CR τ k A := by
  obtain ⟨hS, W, hn⟩ := h
  refine ⟨hS.congr hc, W, hn.congr (by rw [hc 1 (by omega)]) (fun c h1 h2 => ?_) fun w hw => rfl⟩
  rw [Nat.add_assoc, hc _ (by omega)]
/-- where every scalar's cell takes its numbers from, in the order of the copying -/
def shP (a b : Nat) : Prop := (a = 1 ∧ b = 6) ∨ (a = 8 ∧ b < 4) ∨ (a = 9 ∧ b < 4) ∨ (a = 10 ∧ b < 32) ∨ (a = 11 ∧ b < 8) ∨ (a = 7 ∧ (b = 4 ∨ b = 5 ∨ b = 6)) ∨ (a = 13 ∧ b < 8) ∨ (a = 14 ∧ b < 8) ∨ (a = 15 ∧ b < 8) ∨ (a = 12 ∧ b = 3) ∨ (a = 16 ∧ b < 3) ∨ (a = 17 ∧ b < 3) ∨ (a = 18 ∧ b < 8) ∨ (a = 0 ∧ b = 6)
theorem l_shape0 : ((List.range 156).all fun j => !scOk j || ((lc j == 1 && li j == 6) || ((lc j == 8 && decide (li j < 4)) || ((lc j == 9 && decide (li j < 4)) || ((lc j == 10 && decide (li j < 32)) || ((lc j == 11 && decide (li j < 8)) || ((lc j == 7 && (li j == 4 || (li j == 5 || li j == 6))) || ((lc j == 13 && decide (li j < 8)) || ((lc j == 14 && decide (li j < 8)) || ((lc j == 15 && decide (li j < 8)) || ((lc j == 12 && li j == 3) || ((lc j == 16 && decide (li j < 3)) || ((lc j == 17 && decide (li j < 3)) || ((lc j == 18 && decide (li j < 8)) || (lc j == 0 && li j == 6))))))))))))))) = true := by decide +kernel
theorem l_shape (j : Nat) (hj : j < 156) (h1 : scOk j = true) : shP (lc j) (li j) := by
  have h := List.all_eq_true.mp l_shape0 j (List.mem_range.mpr hj)
  rw [h1] at h
  simp only [Bool.not_true, Bool.false_or, Bool.or_eq_true, Bool.and_eq_true, beq_iff_eq, decide_eq_true_eq] at h
  exact h
theorem b01_ok {α : Type} {f : Nat → Int32} {n : Nat} {K : Option α} (h : ∀ i, i < n → f i = nI 0 ∨ f i = nI 1) : B01 f n K = K := by
  unfold B01
  rw [if_pos]
  exact List.all_eq_true.mpr fun i hi => decide_eq_true (h i (List.mem_range.mp hi))
theorem nI_01 {n : Nat} (h : n ≤ 1) : nI n = nI 0 ∨ nI n = nI 1 := by
  rcases (show n = 0 ∨ n = 1 by omega) with rfl | rfl
  · exact Or.inl rfl
  · exact Or.inr rfl
section CL
variable {σ : St} {k k1 m : Nat}
theorem cl_copyN {A : AM} (hC : CR σ k1 A) (hd : k + 19 ≤ k1 ∨ k1 + 19 ≤ k) : ∃ τ, fX7_copyFrom (k + 1) (k1 + 1) σ = some (0, τ) ∧ τ (k + 1) 5 = σ (k1 + 1) 5 ∧ τ (k + 1) 6 = σ (k1 + 1) 6 ∧ (∀ c, 1 ≤ c → c ≤ 4 → ∀ j, j < 15 → τ (k + 1 + c) j = σ (k1 + 1 + c) j) ∧ (∀ w, w < 3 → τ (k + 1 + 5) w = σ (k1 + 1 + 5) w) ∧ ∀ c, c < k + 1 ∨ k + 7 ≤ c → τ c = σ c := by
  obtain ⟨hS, W, hn⟩ := hC
  have hb9 : ∀ i, i < 3 → σ (k1 + 1 + 5) i = nI 0 ∨ σ (k1 + 1 + 5) i = nI 1 := fun i hi => by
    rw [(hn.2.2.2 i hi).1]
    unfold hflag
    split
    · exact Or.inl rfl
    · exact Or.inr rfl
  refine ⟨u2 (u2 (va_up (va_up (va_up (va_up (va_up σ (k + 1 + 1) (cpy0 (σ (k1 + 1 + 1)) (σ (k + 1 + 1)) 15)) (k + 1 + 2) (cpy0 (σ (k1 + 1 + 2)) (σ (k + 1 + 2)) 15)) (k + 1 + 3) (cpy0 (σ (k1 + 1 + 3)) (σ (k + 1 + 3)) 15)) (k + 1 + 4) (cpy0 (σ (k1 + 1 + 4)) (σ (k + 1 + 4)) 15)) (k + 1 + 5) (cpy0 (σ (k1 + 1 + 5)) (σ (k + 1 + 5)) 3)) (k + 1) 5 (σ (k1 + 1) 5)) (k + 1) 6 (σ (k1 + 1) 6), ?_, ?_, ?_, fun c h1 h2 j hj => ?_, fun w hw => ?_, fun c hc => ?_⟩
  · unfold fX7_copyFrom
    simp (disch := omega) only [pu_LET, pu_upn, pu_u2n]
    exact b01_ok hb9
  · simp (disch := omega) only [pu_u2e, pu_u2n]
  · simp (disch := omega) only [pu_u2e, pu_u2n]
  · rcases (show c = 1 ∨ c = 2 ∨ c = 3 ∨ c = 4 by omega) with rfl | rfl | rfl | rfl <;> simp (disch := omega) only [pu_upn, pu_upe, pu_u2n, cp_eq]
  · simp (disch := omega) only [pu_upn, pu_upe, pu_u2n, cp_eq]
  · simp (disch := omega) only [pu_upn, pu_u2r]
theorem cl_copyS {A : AM} {u T N : Nat} (hC : SR σ k1 A.1) (hs : IS A.1 u T N) (hd : k + 19 ≤ k1 ∨ k1 + 19 ≤ k) : ∃ τ, fX9_copyFrom (k + 7) (k1 + 7) σ = some (0, τ) ∧ (∀ j, j < 4 → τ (k + 8) j = σ (k1 + 8) j) ∧ (∀ j, j < 4 → τ (k + 9) j = σ (k1 + 9) j) ∧ (∀ j, j < 32 → τ (k + 10) j = σ (k1 + 10) j) ∧ (∀ j, j < 8 → τ (k + 11) j = σ (k1 + 11) j) ∧ (∀ j, j = 4 ∨ j = 5 ∨ j = 6 → τ (k + 7) j = σ (k1 + 7) j) ∧ ∀ c, c < k + 7 ∨ k + 12 ≤ c → τ c = σ c := by
  have hb9 : ∀ i, i < 8 → σ (k1 + 7 + 4) i = nI 0 ∨ σ (k1 + 7 + 4) i = nI 1 := fun i hi => by
    rw [hC.touched hi]
    exact nI_01 (hs.2.2.1 i hi).2
  refine ⟨u2 (u2 (u2 (va_up (va_up (va_up (va_up σ (k + 7 + 1) (cpy0 (σ (k1 + 7 + 1)) (σ (k + 7 + 1)) 4)) (k + 7 + 2) (cpy0 (σ (k1 + 7 + 2)) (σ (k + 7 + 2)) 4)) (k + 7 + 3) (cpy0 (σ (k1 + 7 + 3)) (σ (k + 7 + 3)) 32)) (k + 7 + 4) (cpy0 (σ (k1 + 7 + 4)) (σ (k + 7 + 4)) 8)) (k + 7) 4 (σ (k1 + 7) 4)) (k + 7) 5 (σ (k1 + 7) 5)) (k + 7) 6 (σ (k1 + 7) 6), ?_, fun j hj => ?_, fun j hj => ?_, fun j hj => ?_, fun j hj => ?_, fun j hj => ?_, fun c hc => ?_⟩
  · unfold fX9_copyFrom
    simp (disch := omega) only [pu_LET, pu_upn, pu_u2n]
    exact b01_ok hb9
  · simp (disch := omega) only [pu_upn, pu_upe, pu_u2n, cp_eq]
  · simp (disch := omega) only [pu_upn, pu_upe, pu_u2n, cp_eq]
  · simp (disch := omega) only [pu_upn, pu_upe, pu_u2n, cp_eq]
  · simp (disch := omega) only [pu_upn, pu_upe, pu_u2n, cp_eq]
  · rcases hj with rfl | rfl | rfl <;> simp (disch := omega) only [pu_u2e, pu_u2n]
  · simp (disch := omega) only [pu_upn, pu_u2r]
theorem cl_copyL (hd : k + 19 ≤ k1 ∨ k1 + 19 ≤ k) : ∃ τ, fX5_copyFrom (k + 12) (k1 + 12) σ = some (0, τ) ∧ (∀ j, j < 8 → τ (k + 13) j = σ (k1 + 13) j) ∧ (∀ j, j < 8 → τ (k + 14) j = σ (k1 + 14) j) ∧ (∀ j, j < 8 → τ (k + 15) j = σ (k1 + 15) j) ∧ τ (k + 12) 3 = σ (k1 + 12) 3 ∧ ∀ c, c < k + 12 ∨ k + 16 ≤ c → τ c = σ c := by
  refine ⟨u2 (va_up (va_up (va_up σ (k + 12 + 1) (cpy0 (σ (k1 + 12 + 1)) (σ (k + 12 + 1)) 8)) (k + 12 + 2) (cpy0 (σ (k1 + 12 + 2)) (σ (k + 12 + 2)) 8)) (k + 12 + 3) (cpy0 (σ (k1 + 12 + 3)) (σ (k + 12 + 3)) 8)) (k + 12) 3 (σ (k1 + 12) 3), ?_, fun j hj => ?_, fun j hj => ?_, fun j hj => ?_, ?_, fun c hc => ?_⟩
  · unfold fX5_copyFrom
    simp (disch := omega) only [pu_LET, pu_upn, pu_u2n]
  · simp (disch := omega) only [pu_upn, pu_upe, pu_u2n, cp_eq]
  · simp (disch := omega) only [pu_upn, pu_upe, pu_u2n, cp_eq]
  · simp (disch := omega) only [pu_upn, pu_upe, pu_u2n, cp_eq]
  · simp (disch := omega) only [pu_u2e]
  · simp (disch := omega) only [pu_upn, pu_u2r]
theorem cl_copy {A : AM} {u T N : Nat} (hC : CR σ k1 A) (hI : IN A.1 A.2) (hs : IS A.1 u T N) (hd : k + 19 ≤ k1 ∨ k1 + 19 ≤ k) : ∃ τ, fX6_copyFrom k k1 σ = some (0, τ) ∧ CR τ k A ∧ ∀ c, c < k ∨ k + 19 ≤ c → τ c = σ c := by
  obtain ⟨t1, a1, a2, a3, a4, a5, a6⟩ := cl_copyN hC hd
  have hSR1 : SR t1 k1 A.1 := hC.1.congr fun c hc => a6 _ (by omega)
  obtain ⟨t2, b1, b2, b3, b4, b5, b6, b7⟩ := cl_copyS (k := k) hSR1 hs hd
  obtain ⟨t3, c1, c2, c3, c4, c5, c6⟩ := cl_copyL (σ := t2) hd
  refine ⟨u2 (va_up (va_up (va_up t3 (k + 16) (cpy0 (t3 (k1 + 16)) (t3 (k + 16)) 3)) (k + 17) (cpy0 (t3 (k1 + 17)) (t3 (k + 17)) 3)) (k + 18) (cpy0 (t3 (k1 + 18)) (t3 (k + 18)) 8)) k 6 (t3 k1 6), ?_, ?_, fun c hc => ?_⟩
  · unfold fX6_copyFrom
    rw [a1, pu_OB, b1, pu_OB, c1, pu_OB]
    simp (disch := omega) only [pu_LET, pu_upn, pu_u2n]
  · obtain ⟨hS, W, hn⟩ := hC
    have hl : W.length ≤ 12 := by rw [hn.len]; exact hI.2.2.1
    have e3 : ∀ c, c < 19 → t3 (k1 + c) = σ (k1 + c) := fun c hc => by rw [c6 _ (by omega), b7 _ (by omega), a6 _ (by omega)]
    have r1 : ∀ c, c < 19 → t1 (k1 + c) = σ (k1 + c) := fun c hc => a6 _ (by omega)
    have r2 : ∀ c, c < 19 → t2 (k1 + c) = σ (k1 + c) := fun c hc => by rw [b7 _ (by omega), r1 c hc]
    refine ⟨hS.copy fun j hj => ?_, W, hn.copy hl ?_ (fun c h1 h2 j hj => ?_) fun w hw => ?_⟩
    · have hsh := l_shape j (scOk_t.mp hj).1 hj
      rcases hsh with ⟨q1, q2⟩ | ⟨q1, q2⟩ | ⟨q1, q2⟩ | ⟨q1, q2⟩ | ⟨q1, q2⟩ | ⟨q1, q2⟩ | ⟨q1, q2⟩ | ⟨q1, q2⟩ | ⟨q1, q2⟩ | ⟨q1, q2⟩ | ⟨q1, q2⟩ | ⟨q1, q2⟩ | ⟨q1, q2⟩ | ⟨q1, q2⟩
      · rw [q1, q2]
        simp (disch := omega) only [pu_upn, pu_u2n]
        rw [c6 _ (by omega), b7 _ (by omega), a3]
      · rw [q1]
        simp (disch := omega) only [pu_upn, pu_u2n]
        rw [c6 _ (by omega), b2 _ q2, r1 _ (by omega)]
      · rw [q1]
        simp (disch := omega) only [pu_upn, pu_u2n]
        rw [c6 _ (by omega), b3 _ q2, r1 _ (by omega)]
      · rw [q1]
        simp (disch := omega) only [pu_upn, pu_u2n]
        rw [c6 _ (by omega), b4 _ q2, r1 _ (by omega)]
      · rw [q1]
        simp (disch := omega) only [pu_upn, pu_u2n]
        rw [c6 _ (by omega), b5 _ q2, r1 _ (by omega)]
      · rw [q1]
        simp (disch := omega) only [pu_upn, pu_u2n]
        rw [c6 _ (by omega), b6 _ q2, r1 _ (by omega)]
      · rw [q1]
        simp (disch := omega) only [pu_upn, pu_u2n]
        rw [c2 _ q2, r2 _ (by omega)]
      · rw [q1]
        simp (disch := omega) only [pu_upn, pu_u2n]
        rw [c3 _ q2, r2 _ (by omega)]
      · rw [q1]
        simp (disch := omega) only [pu_upn, pu_u2n]
        rw [c4 _ q2, r2 _ (by omega)]
      · rw [q1, q2]
        simp (disch := omega) only [pu_upn, pu_u2n]
        rw [c5, r2 _ (by omega)]
      · rw [q1]
        simp (disch := omega) only [pu_upn, pu_upe, pu_u2n, cp_eq]
        rw [e3 _ (by omega)]
      · rw [q1]
        simp (disch := omega) only [pu_upn, pu_upe, pu_u2n, cp_eq]
        rw [e3 _ (by omega)]
      · rw [q1]
        simp (disch := omega) only [pu_upn, pu_upe, pu_u2n, cp_eq]
        rw [e3 _ (by omega)]
      · rw [q1, q2, pu_u2e (by omega)]
        have := e3 0 (by omega)
        rw [Nat.add_zero] at this ⊢
        rw [this]
    · simp (disch := omega) only [pu_upn, pu_u2n]
      rw [c6 _ (by omega), b7 _ (by omega), a2]
    · simp (disch := omega) only [pu_upn, pu_u2n]
      rw [c6 _ (by omega), b7 _ (by omega), a4 c h1 h2 j hj]
    · simp (disch := omega) only [pu_upn, pu_u2n]
      rw [c6 _ (by omega), b7 _ (by omega), a5 w hw]
  · simp (disch := omega) only [pu_upn, pu_u2r]
    rw [c6 _ (by omega), b7 _ (by omega), a6 _ (by omega)]
end CL
