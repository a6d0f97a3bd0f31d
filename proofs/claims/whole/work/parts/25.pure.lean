-- ===== the abstract step, and how the reference does it =====
abbrev AM : Type := (Nat → Nat) × List E4
def grA (sc : Nat → Nat) (w : Nat) (e : E4) : Nat := if e.2.2.2 ≤ 2 * sc (7 + w) then e.2.2.2 else 2 * sc (7 + w)
def saL (sc : Nat → Nat) (b gr : Nat) : Nat := gr * sc (16 + b) / 10
def saG (sc : Nat → Nat) (b : Nat) : Nat := sc (16 + b) / 3
def saS (sc : Nat → Nat) (b gr : Nat) : Nat := if 139 - sc (28 + saG sc b) ≤ gr - saL sc b gr then 139 - sc (28 + saG sc b) else gr - saL sc b gr
def saSc (sc : Nat → Nat) (b gr : Nat) : Nat → Nat :=
  upN (upN (upN (upN sc 4 (sc 4 + saL sc b gr)) 5 (sc 5 + (gr - saL sc b gr - saS sc b gr))) (28 + saG sc b) (sc (28 + saG sc b) + saS sc b gr)) (32 + 4 * b + saG sc b) (sc (32 + 4 * b + saG sc b) + saS sc b gr)
def gdSc (sc : Nat → Nat) (w : Nat) (e : E4) : Nat → Nat := upN (upN (upN sc (10 + w) (sc (10 + w) + sc (7 + w))) 3 (sc 3 + grA sc w e)) (64 + e.2.1) 1
def fiSc (sc : Nat → Nat) (w n : Nat) : Nat → Nat :=
  upN (upN (upN (upN (upN sc (132 + sc 6 % 8) n) (140 + sc 6 % 8) w) (148 + sc 6 % 8) (sc 0)) 6 (sc 6 + 1)) (13 + w) 0
def spGrind (A : AM) (w i : Nat) : AM :=
  if (A.2.getD i z4).2.2.2 ≤ 2 * A.1 (7 + w) then (fiSc (saSc (gdSc A.1 w (A.2.getD i z4)) (A.2.getD i z4).2.1 (grA A.1 w (A.2.getD i z4))) w (A.2.getD i z4).1, A.2.eraseIdx i)
  else (saSc (gdSc A.1 w (A.2.getD i z4)) (A.2.getD i z4).2.1 (grA A.1 w (A.2.getD i z4)), A.2.set i ((A.2.getD i z4).1, (A.2.getD i z4).2.1, (A.2.getD i z4).2.2.1, (A.2.getD i z4).2.2.2 - 2 * A.1 (7 + w)))
def spAct (A : AM) (w : Nat) : AM :=
  if 12 ≤ A.1 (10 + w) then A
  else if A.1 (13 + w) = 0 then
    match (List.range A.2.length).find? (fun p => wt A.1 (A.2.getD p z4) && rk A.1 A.2 (A.2.getD p z4) == 0) with
    | none => A
    | some p => spGrind (upN A.1 (13 + w) ((A.2.getD p z4).1 + 1), A.2) w p
  else
    match (List.range A.2.length).find? (fun p => A.1 (13 + w) == (A.2.getD p z4).1 + 1) with
    | none => A
    | some p => spGrind A w p
def spStep (A : AM) : AM := spAct (spAct (spAct (upN A.1 0 (A.1 0 + 1), A.2) 0) 1) 2
def spN : Nat → AM → AM
  | 0, A => A
  | n + 1, A => spN n (spStep A)
/-- the least of the waiting noises has rank 0 -/
theorem rk_first {sc : Nat → Nat} {L : List E4} (hn : (L.map (·.1)).Nodup) (h : L.countP (wt sc) ≠ 0) : ∃ e ∈ L, wt sc e = true ∧ rk sc L e = 0 := by
  have key : ∀ d, ∀ e ∈ L, wt sc e = true → rk sc L e ≤ d → ∃ f ∈ L, wt sc f = true ∧ rk sc L f = 0 := by
    intro d
    induction d with
    | zero => exact fun e he hw hr => ⟨e, he, hw, by omega⟩
    | succ d ih =>
      intro e he hw hr
      by_cases c : rk sc L e = 0
      · exact ⟨e, he, hw, c⟩
      · obtain ⟨f, hf, hq⟩ := List.countP_pos_iff.mp (Nat.pos_of_ne_zero c)
        rw [Bool.and_eq_true] at hq
        have := rk_lt hf hq.1 hq.2
        exact ih f hf hq.1 (by omega)
  obtain ⟨e, he, hw⟩ := List.countP_pos_iff.mp (Nat.pos_of_ne_zero h)
  exact key _ e he hw (Nat.le_refl _)
/-- what a wheel does -/
theorem spAct_cases {A : AM} (hI : IN A.1 A.2) {w : Nat} (hw : w < 3) :
    (12 ≤ A.1 (10 + w) ∧ spAct A w = A) ∨ (A.1 (10 + w) < 12 ∧ A.1 (13 + w) = 0 ∧ A.2.countP (wt A.1) = 0 ∧ spAct A w = A) ∨
    (A.1 (10 + w) < 12 ∧ A.1 (13 + w) = 0 ∧ ∃ p, p < A.2.length ∧ wt A.1 (A.2.getD p z4) = true ∧ rk A.1 A.2 (A.2.getD p z4) = 0 ∧ spAct A w = spGrind (upN A.1 (13 + w) ((A.2.getD p z4).1 + 1), A.2) w p) ∨
    (A.1 (10 + w) < 12 ∧ ∃ p, p < A.2.length ∧ A.1 (13 + w) = (A.2.getD p z4).1 + 1 ∧ spAct A w = spGrind A w p) := by
  by_cases c1 : 12 ≤ A.1 (10 + w)
  · exact Or.inl ⟨c1, if_pos c1⟩
  · refine Or.inr ?_
    by_cases c2 : A.1 (13 + w) = 0
    · unfold spAct
      rw [if_neg c1, if_pos c2]
      cases hf : (List.range A.2.length).find? (fun p => wt A.1 (A.2.getD p z4) && rk A.1 A.2 (A.2.getD p z4) == 0) with
      | none =>
        refine Or.inl ⟨by omega, c2, ?_, rfl⟩
        by_cases c3 : A.2.countP (wt A.1) = 0
        · exact c3
        · obtain ⟨e, he, hwe, hr⟩ := rk_first hI.1 c3
          obtain ⟨p, hp, rfl⟩ := mem_getD he
          have := List.find?_eq_none.mp hf p (List.mem_range.mpr hp)
          rw [hwe, hr] at this
          exact absurd rfl this
      | some p =>
        have h1 := List.find?_some hf
        have h2 := List.mem_range.mp (List.mem_of_find?_eq_some hf)
        rw [Bool.and_eq_true, beq_iff_eq] at h1
        exact Or.inr (Or.inl ⟨by omega, c2, p, h2, h1.1, h1.2, rfl⟩)
    · unfold spAct
      rw [if_neg c1, if_neg c2]
      cases hf : (List.range A.2.length).find? (fun p => A.1 (13 + w) == (A.2.getD p z4).1 + 1) with
      | none =>
        rcases hI.2.2.2.1 w hw with q | ⟨e, he, q⟩
        · exact absurd q c2
        · obtain ⟨p, hp, rfl⟩ := mem_getD he
          have := List.find?_eq_none.mp hf p (List.mem_range.mpr hp)
          rw [q, beq_self_eq_true] at this
          exact absurd rfl this
      | some p =>
        have h1 := List.find?_some hf
        have h2 := List.mem_range.mp (List.mem_of_find?_eq_some hf)
        rw [beq_iff_eq] at h1
        exact Or.inr (Or.inr ⟨by omega, p, h2, h1, rfl⟩)
-- the reference's rows moved and copied
def shS (s : St) (a k : Nat) : St := fun c j => if c = 1 ∧ a + k ≤ j ∧ j < a + 15 then (if j = a + 14 then nI 0 else s 1 (j + 1)) else s c j
theorem rf_drops12_S (m k : Nat) (K3 : Int32 → Int32 → St → Option (Int32 × St)) (x1 x2 x3 : Int32) (s : St) : fX12_drops_L12 m K3 (k + 1) x1 x2 x3 s = fX12_drops_L12b m K3 (fX12_drops_L12 m K3 k) x1 x2 x3 s := rfl
theorem rf_drops12 {m : Nat} {K3 : Int32 → Int32 → St → Option (Int32 × St)} {x1 : Int32} {a : Nat} (ha : a + 15 ≤ 156) : ∀ d n k s, k + d = 15 → d < n → fX12_drops_L12 m K3 n x1 (nI a) (nI k) s = K3 x1 (nI (a + 15)) (shS s a k) := by
  intro d
  induction d with
  | zero =>
    intro n k s h1 h2
    obtain ⟨q, rfl⟩ : ∃ q, n = q + 1 := ⟨n - 1, by omega⟩
    have e : shS s a k = s := by
      funext c j
      exact if_neg (by omega)
    rw [e]
    simp (disch := omega) only [pu_OB, pu_LET, pu_OX0, pu_BND, pu_NZ, pu_BL, pu_m1, nI_add, pk_sub, pk_mul, pk_div, nI_clamp, pu_eq, pu_ne, pu_le_t, pu_le_f, pu_lt_t, pu_lt_f, pu_nm, pu_mm, pu_u2e, pu_u2n, ↓reduceIte, li0, li1, li2, li3, li4, li5, li6, li7, li8, li9, li10, li11, li12, li13, li14, li15, li16, li17, li18, li19, li20, li21, li22, li23, li24, li25, li26, li27, li28, li29, li30, li31, li32, li33, li34, li35, li36, li37, li38, li39, li40, li41, li42, li43, li44, li45, li46, li47, li48, li49, li50, li51, li52, li53, li54, li55, li56, li57, li58, li59, li60, li64, li72, li87, li97, li98, li99, li100, li101, li102, li103, li104, li105, li108, li109, li110, li111, li112, li114, li115, li116, li117, li119, li120, li124, li126, li132, li139, li140, li148, li156, li1000, li1092, li1248, rf_drops12_S, fX12_drops_L12b]
  | succ d ih =>
    intro n k s h1 h2
    obtain ⟨q, rfl⟩ : ∃ q, n = q + 1 := ⟨n - 1, by omega⟩
    by_cases c : k = 14
    · subst c
      have e : shS (u2 s 1 (a + 14) (nI 0)) a 15 = shS s a 14 := by
        funext c j
        unfold shS
        by_cases c1 : c = 1 ∧ j = a + 14
        · rw [if_neg (by omega), if_pos (by omega), if_pos c1.2, pu_u2e c1]
        · rw [if_neg (by omega), if_neg (by omega), pu_u2n (by omega)]
      simp (disch := omega) only [pu_OB, pu_LET, pu_OX0, pu_BND, pu_NZ, pu_BL, pu_m1, nI_add, pk_sub, pk_mul, pk_div, nI_clamp, pu_eq, pu_ne, pu_le_t, pu_le_f, pu_lt_t, pu_lt_f, pu_nm, pu_mm, pu_u2e, pu_u2n, ↓reduceIte, li0, li1, li2, li3, li4, li5, li6, li7, li8, li9, li10, li11, li12, li13, li14, li15, li16, li17, li18, li19, li20, li21, li22, li23, li24, li25, li26, li27, li28, li29, li30, li31, li32, li33, li34, li35, li36, li37, li38, li39, li40, li41, li42, li43, li44, li45, li46, li47, li48, li49, li50, li51, li52, li53, li54, li55, li56, li57, li58, li59, li60, li64, li72, li87, li97, li98, li99, li100, li101, li102, li103, li104, li105, li108, li109, li110, li111, li112, li114, li115, li116, li117, li119, li120, li124, li126, li132, li139, li140, li148, li156, li1000, li1092, li1248, rf_drops12_S, fX12_drops_L12b, fX12_drops_B45, ih q 15, e]
    · have e : shS (u2 s 1 (a + k) (s 1 (a + k + 1))) a (k + 1) = shS s a k := by
        funext c9 j
        unfold shS
        by_cases c1 : c9 = 1 ∧ j = a + k
        · obtain ⟨rfl, rfl⟩ := c1
          rw [if_neg (by omega), if_pos (by omega), if_neg (by omega), pu_u2e ⟨rfl, rfl⟩]
        · by_cases c2 : c9 = 1 ∧ a + k + 1 ≤ j ∧ j < a + 15
          · rw [if_pos (show c9 = 1 ∧ a + (k + 1) ≤ j ∧ j < a + 15 by omega), if_pos (show c9 = 1 ∧ a + k ≤ j ∧ j < a + 15 by omega), pu_u2n (show 1 ≠ 1 ∨ j + 1 ≠ a + k by omega)]
          · rw [if_neg (by omega), if_neg (by omega), pu_u2n (by omega)]
      simp (disch := omega) only [pu_OB, pu_LET, pu_OX0, pu_BND, pu_NZ, pu_BL, pu_m1, nI_add, pk_sub, pk_mul, pk_div, nI_clamp, pu_eq, pu_ne, pu_le_t, pu_le_f, pu_lt_t, pu_lt_f, pu_nm, pu_mm, pu_u2e, pu_u2n, ↓reduceIte, li0, li1, li2, li3, li4, li5, li6, li7, li8, li9, li10, li11, li12, li13, li14, li15, li16, li17, li18, li19, li20, li21, li22, li23, li24, li25, li26, li27, li28, li29, li30, li31, li32, li33, li34, li35, li36, li37, li38, li39, li40, li41, li42, li43, li44, li45, li46, li47, li48, li49, li50, li51, li52, li53, li54, li55, li56, li57, li58, li59, li60, li64, li72, li87, li97, li98, li99, li100, li101, li102, li103, li104, li105, li108, li109, li110, li111, li112, li114, li115, li116, li117, li119, li120, li124, li126, li132, li139, li140, li148, li156, li1000, li1092, li1248, rf_drops12_S, fX12_drops_L12b, fX12_drops_B45, ih q (k + 1), e]
theorem rf_drops3_S (m k : Nat) (x1 x2 : Int32) (s : St) : fX12_drops_L3 m (k + 1) x1 x2 s = fX12_drops_L3b m (fX12_drops_L3 m k) x1 x2 s := rfl
section RF
variable {s : St} {sc : Nat → Nat} {L : List E4} {m : Nat}
theorem shS_in {s : St} {a k p : Nat} (h1 : k ≤ p) (h2 : p < 14) : shS s a k 1 (a + p) = s 1 (a + p + 1) := by
  unfold shS
  rw [if_pos (by omega), if_neg (by omega)]
theorem shS_out {s : St} {a k c j : Nat} (h : c ≠ 1 ∨ j < a + k ∨ a + 15 ≤ j) : shS s a k c j = s c j := if_neg (by omega)
theorem rf_drops {p : Nat} (hF : 2000 ≤ m) (hS : SM s 1 sc) (hN : NM s 1 L) (hl : L.length ≤ 15) (hp : p < L.length) : ∃ t, fX12_drops m (nI p) s = some (nI 0, t) ∧ SM t 1 sc ∧ NM t 1 (L.eraseIdx p) ∧ ∀ c, c ≠ 1 → t c = s c := by
  have key : ∀ n, 5 ≤ n → fX12_drops_L3 m n (nI p) (nI 72) s = some (nI 0, u2 (shS (shS (shS (shS s 72 p) 87 p) 102 p) 117 p) 1 2 (s 1 2 - nI 1)) := by
    intro n hn
    obtain ⟨k, rfl⟩ : ∃ k, n = k + 5 := ⟨n - 5, by omega⟩
    have e1 : shS (shS (shS (shS s 72 p) 87 p) 102 p) 117 p 1 2 = s 1 2 := by
      rw [shS_out (by omega), shS_out (by omega), shS_out (by omega), shS_out (by omega)]
    simp (disch := omega) only [pu_OB, pu_LET, pu_OX0, pu_BND, pu_NZ, pu_BL, pu_m1, nI_add, pk_sub, pk_mul, pk_div, nI_clamp, pu_eq, pu_ne, pu_le_t, pu_le_f, pu_lt_t, pu_lt_f, pu_nm, pu_mm, pu_u2e, pu_u2n, ↓reduceIte, li0, li1, li2, li3, li4, li5, li6, li7, li8, li9, li10, li11, li12, li13, li14, li15, li16, li17, li18, li19, li20, li21, li22, li23, li24, li25, li26, li27, li28, li29, li30, li31, li32, li33, li34, li35, li36, li37, li38, li39, li40, li41, li42, li43, li44, li45, li46, li47, li48, li49, li50, li51, li52, li53, li54, li55, li56, li57, li58, li59, li60, li64, li72, li87, li97, li98, li99, li100, li101, li102, li103, li104, li105, li108, li109, li110, li111, li112, li114, li115, li116, li117, li119, li120, li124, li126, li132, li139, li140, li148, li156, li1000, li1092, li1248, rf_drops3_S, fX12_drops_L3b, rf_drops12 (show 72 + 15 ≤ 156 by omega) (15 - p) m p, rf_drops12 (show 87 + 15 ≤ 156 by omega) (15 - p) m p, rf_drops12 (show 102 + 15 ≤ 156 by omega) (15 - p) m p, rf_drops12 (show 117 + 15 ≤ 156 by omega) (15 - p) m p, e1]
  refine ⟨_, key m (by omega), ?_, ?_, ?_⟩
  · intro j h1 h2 h3
    rw [pu_u2n (by omega), shS_out (by omega), shS_out (by omega), shS_out (by omega), shS_out (by omega)]
    exact hS j h1 h2 h3
  · have hlen : (L.eraseIdx p).length = L.length - 1 := List.length_eraseIdx_of_lt hp
    refine ⟨?_, fun q hq => ?_⟩
    · rw [pu_u2e ⟨rfl, rfl⟩, hN.1, hlen]
      exact pk_sub (by omega)
    · rw [hlen] at hq
      rw [er_getD]
      by_cases c : q < p
      · rw [if_pos c]
        have h9 := hN.2 q (by omega)
        refine ⟨?_, ?_, ?_, ?_⟩
        · rw [pu_u2n (by omega), shS_out (by omega), shS_out (by omega), shS_out (by omega), shS_out (by omega)]
          exact h9.1
        · rw [pu_u2n (by omega), shS_out (by omega), shS_out (by omega), shS_out (by omega), shS_out (by omega)]
          exact h9.2.1
        · rw [pu_u2n (by omega), shS_out (by omega), shS_out (by omega), shS_out (by omega), shS_out (by omega)]
          exact h9.2.2.1
        · rw [pu_u2n (by omega), shS_out (by omega), shS_out (by omega), shS_out (by omega), shS_out (by omega)]
          exact h9.2.2.2
      · rw [if_neg c]
        have h9 := hN.2 (q + 1) (by omega)
        refine ⟨?_, ?_, ?_, ?_⟩
        · rw [pu_u2n (by omega), shS_out (by omega), shS_out (by omega), shS_out (by omega), shS_in (by omega) (by omega)]
          exact h9.1
        · rw [pu_u2n (by omega), shS_out (by omega), shS_out (by omega), shS_in (by omega) (by omega), shS_out (by omega)]
          exact h9.2.1
        · rw [pu_u2n (by omega), shS_out (by omega), shS_in (by omega) (by omega), shS_out (by omega), shS_out (by omega)]
          exact h9.2.2.1
        · rw [pu_u2n (by omega), shS_in (by omega) (by omega), shS_out (by omega), shS_out (by omega), shS_out (by omega)]
          exact h9.2.2.2
  · intro c hc
    funext j
    rw [pu_u2n (by omega), shS_out (by omega), shS_out (by omega), shS_out (by omega), shS_out (by omega)]
/-- what sacking leaves of the bounds -/
theorem sa_bd {b gr : Nat} (h1 : sc (16 + b) ≤ 9) (h2 : sc (28 + saG sc b) ≤ 139) (h3 : gr ≤ 60) : saG sc b < 4 ∧ gr * sc (16 + b) ≤ 540 ∧ saL sc b gr ≤ gr ∧ saS sc b gr ≤ gr - saL sc b gr ∧ sc (28 + saG sc b) + saS sc b gr ≤ 139 := by
  have q1 : gr * sc (16 + b) ≤ gr * 9 := Nat.mul_le_mul_left gr h1
  refine ⟨?_, by omega, ?_, ?_, ?_⟩
  · unfold saG
    omega
  · unfold saL
    omega
  · unfold saS
    split <;> omega
  · unfold saS
    split <;> omega
theorem rf_sacks {b gr : Nat} (hS : SM s 1 sc) (hN : NM s 1 L) (hl : L.length ≤ 15) (hb9 : b < 8) (h1 : sc (16 + b) ≤ 9) (h2 : sc (28 + saG sc b) ≤ 139) (h3 : gr ≤ 60) : ∃ t, fX12_sacks (nI b) (nI gr) s = some (nI 0, t) ∧ SM t 1 (saSc sc b gr) ∧ NM t 1 L ∧ ∀ c, c ≠ 1 → t c = s c := by
  have bd := sa_bd h1 h2 h3
  have e1 : s 1 (16 + b) = nI (sc (16 + b)) := hS _ (by omega) (by omega) (by omega)
  have e2 : s 1 (28 + saG sc b) = nI (sc (28 + saG sc b)) := hS _ (by omega) (by omega) (by omega)
  have e3 : s 1 4 = nI (sc 4) := hS _ (by omega) (by omega) (by omega)
  have e4 : s 1 5 = nI (sc 5) := hS _ (by omega) (by omega) (by omega)
  have e5 : s 1 (32 + 4 * b + saG sc b) = nI (sc (32 + 4 * b + saG sc b)) := hS _ (by omega) (by omega) (by omega)
  have e6 : nI (gr * sc (16 + b)) / nI 10 = nI (saL sc b gr) := pk_div (by omega) (by omega) (by omega)
  have e7 : nI (sc (16 + b)) / nI 3 = nI (saG sc b) := pk_div (by omega) (by omega) (by omega)
  refine ⟨u2 (u2 (u2 (u2 s 1 4 (nI (sc 4 + saL sc b gr))) 1 5 (nI (sc 5 + (gr - saL sc b gr - saS sc b gr)))) 1 (28 + saG sc b) (nI (sc (28 + saG sc b) + saS sc b gr))) 1 (32 + 4 * b + saG sc b) (nI (sc (32 + 4 * b + saG sc b) + saS sc b gr)), ?_, (((hS.upd rfl).upd rfl).upd rfl).upd rfl, (((hN.off hl (by omega)).off hl (by omega)).off hl (by omega)).off hl (by omega), fun c hc => ?_⟩
  · unfold fX12_sacks
    by_cases c : 139 - sc (28 + saG sc b) ≤ gr - saL sc b gr
    · have e8 : saS sc b gr = 139 - sc (28 + saG sc b) := if_pos c
      rw [e8]
      simp (disch := omega) only [pu_OB, pu_LET, pu_OX0, pu_BND, pu_NZ, pu_BL, pu_m1, nI_add, pk_sub, pk_mul, pk_div, nI_clamp, pu_eq, pu_ne, pu_le_t, pu_le_f, pu_lt_t, pu_lt_f, pu_nm, pu_mm, pu_u2e, pu_u2n, ↓reduceIte, li0, li1, li2, li3, li4, li5, li6, li7, li8, li9, li10, li11, li12, li13, li14, li15, li16, li17, li18, li19, li20, li21, li22, li23, li24, li25, li26, li27, li28, li29, li30, li31, li32, li33, li34, li35, li36, li37, li38, li39, li40, li41, li42, li43, li44, li45, li46, li47, li48, li49, li50, li51, li52, li53, li54, li55, li56, li57, li58, li59, li60, li64, li72, li87, li97, li98, li99, li100, li101, li102, li103, li104, li105, li108, li109, li110, li111, li112, li114, li115, li116, li117, li119, li120, li124, li126, li132, li139, li140, li148, li156, li1000, li1092, li1248, e1, e6, e7, e2, e3, e4, e5, fX12_sacks_B63]
    · have e8 : saS sc b gr = gr - saL sc b gr := if_neg c
      rw [e8]
      simp (disch := omega) only [pu_OB, pu_LET, pu_OX0, pu_BND, pu_NZ, pu_BL, pu_m1, nI_add, pk_sub, pk_mul, pk_div, nI_clamp, pu_eq, pu_ne, pu_le_t, pu_le_f, pu_lt_t, pu_lt_f, pu_nm, pu_mm, pu_u2e, pu_u2n, ↓reduceIte, li0, li1, li2, li3, li4, li5, li6, li7, li8, li9, li10, li11, li12, li13, li14, li15, li16, li17, li18, li19, li20, li21, li22, li23, li24, li25, li26, li27, li28, li29, li30, li31, li32, li33, li34, li35, li36, li37, li38, li39, li40, li41, li42, li43, li44, li45, li46, li47, li48, li49, li50, li51, li52, li53, li54, li55, li56, li57, li58, li59, li60, li64, li72, li87, li97, li98, li99, li100, li101, li102, li103, li104, li105, li108, li109, li110, li111, li112, li114, li115, li116, li117, li119, li120, li124, li126, li132, li139, li140, li148, li156, li1000, li1092, li1248, e1, e6, e7, e2, e3, e4, e5, fX12_sacks_B63]
  · rw [pu_u2r hc, pu_u2r hc, pu_u2r hc, pu_u2r hc]
theorem rf_finishes {w p : Nat} (hF : 2000 ≤ m) (hS : SM s 1 sc) (hN : NM s 1 L) (hl : L.length ≤ 15) (hp : p < L.length) (hw : w < 3) (h6 : sc 6 < 2 ^ 30) : ∃ t, fX12_finishes m (nI w) (nI p) s = some (nI 0, t) ∧ SM t 1 (fiSc sc w (L.getD p z4).1) ∧ NM t 1 (L.eraseIdx p) ∧ ∀ c, c ≠ 1 → t c = s c := by
  have q6 : sc 6 % 8 < 8 := Nat.mod_lt _ (by omega)
  have e1 : s 1 6 = nI (sc 6) := hS _ (by omega) (by omega) (by omega)
  have e0 : s 1 0 = nI (sc 0) := hS _ (by omega) (by omega) (by omega)
  have e2 : nI (sc 6) - nI (sc 6 / 8 * 8) = nI (sc 6 % 8) := by
    rw [pk_sub (by omega)]
    exact congrArg nI (by omega)
  have e3 := (hN.2 p hp).1
  obtain ⟨t, h1, h2, h3, h4⟩ := rf_drops (m := m) (p := p) (L := L) (sc := fiSc sc w (L.getD p z4).1) (s := u2 (u2 (u2 (u2 (u2 s 1 (132 + sc 6 % 8) (nI (L.getD p z4).1)) 1 (140 + sc 6 % 8) (nI w)) 1 (148 + sc 6 % 8) (nI (sc 0))) 1 6 (nI (sc 6 + 1))) 1 (13 + w) (nI 0)) hF (((((hS.upd rfl).upd rfl).upd rfl).upd rfl).upd rfl) (((((hN.off hl (by omega)).off hl (by omega)).off hl (by omega)).off hl (by omega)).off hl (by omega)) hl hp
  refine ⟨t, ?_, h2, h3, fun c hc => by rw [h4 c hc, pu_u2r hc, pu_u2r hc, pu_u2r hc, pu_u2r hc, pu_u2r hc]⟩
  unfold fX12_finishes
  simp (disch := omega) only [pu_OB, pu_LET, pu_OX0, pu_BND, pu_NZ, pu_BL, pu_m1, nI_add, pk_sub, pk_mul, pk_div, nI_clamp, pu_eq, pu_ne, pu_le_t, pu_le_f, pu_lt_t, pu_lt_f, pu_nm, pu_mm, pu_u2e, pu_u2n, ↓reduceIte, li0, li1, li2, li3, li4, li5, li6, li7, li8, li9, li10, li11, li12, li13, li14, li15, li16, li17, li18, li19, li20, li21, li22, li23, li24, li25, li26, li27, li28, li29, li30, li31, li32, li33, li34, li35, li36, li37, li38, li39, li40, li41, li42, li43, li44, li45, li46, li47, li48, li49, li50, li51, li52, li53, li54, li55, li56, li57, li58, li59, li60, li64, li72, li87, li97, li98, li99, li100, li101, li102, li103, li104, li105, li108, li109, li110, li111, li112, li114, li115, li116, li117, li119, li120, li124, li126, li132, li139, li140, li148, li156, li1000, li1092, li1248, e1, e0, e2, e3, h1]
end RF
