-- ===== jams and grains ahead; the rankings =====
section PR
variable {σ s : St} {m C : Nat} {T : List Nat}
theorem cl_sj_S (r : Nat) (x1 x2 : Int32) (σ : St) : fX11_simulateJam_L13 m (r + 1) x1 x2 σ = fX11_simulateJam_L13b m (fX11_simulateJam_L13 m r) x1 x2 σ := rfl
/-- the first of the steps i .. i + d - 1 before which wheel w is jammed -/
def jamO (w : Nat) : Nat → Nat → AM → Option Nat
  | 0, _, _ => none
  | d + 1, i, A => if 12 ≤ A.1 (10 + w) then some i else jamO w d (i + 1) (spStep A)
theorem jamO_S (w d i : Nat) (A : AM) : jamO w (d + 1) i A = if 12 ≤ A.1 (10 + w) then some i else jamO w d (i + 1) (spStep A) := rfl
theorem jamO_le {w : Nat} : ∀ {d i : Nat} {A : AM} {k : Nat}, jamO w d i A = some k → i ≤ k ∧ k < i + d := by
  intro d
  induction d with
  | zero => intro i A k h; cases h
  | succ d ih =>
    intro i A k h
    rw [jamO_S] at h
    by_cases c : 12 ≤ A.1 (10 + w)
    · rw [if_pos c] at h
      cases h
      omega
    · rw [if_neg c] at h
      have := ih h
      omega
theorem cl_jam {N w : Nat} (hF : 2000 ≤ m) (hNN : N < 10 ^ 7) (hw : w < 3) : ∀ (d r i T' : Nat) (A : AM) (σ : St), CR σ 19 A → IN A.1 A.2 → IS A.1 0 T' N → T' + d < 10 ^ 7 → i + d = 61 → d < r → ∃ τ, fX11_simulateJam_L13 m r (nI w) (nI i) σ = some (oI (jamO w d i A), τ) ∧ ∀ c, c < 19 ∨ 19 + 19 ≤ c → τ c = σ c := by
  intro d
  induction d with
  | zero =>
    intro r i T' A σ hC hI hs hT h1 h2
    obtain ⟨r, rfl⟩ : ∃ q, r = q + 1 := ⟨r - 1, by omega⟩
    refine ⟨σ, ?_, fun c hc => rfl⟩
    show _ = some (mI, σ)
    simp (disch := omega) only [pu_OB, pu_LET, pu_OX0, pu_BND, pu_NZ, pu_BL, pu_m1, nI_add, pk_sub, pk_mul, pk_div, nI_clamp, pu_eq, pu_ne, pu_le_t, pu_le_f, pu_lt_t, pu_lt_f, pu_nm, pu_mm, pu_u2e, pu_u2n, ↓reduceIte, li0, li1, li2, li3, li4, li5, li6, li7, li8, li9, li10, li11, li12, li13, li14, li15, li16, li17, li18, li19, li20, li21, li22, li23, li24, li25, li26, li27, li28, li29, li30, li31, li32, li33, li34, li35, li36, li37, li38, li39, li40, li41, li42, li43, li44, li45, li46, li47, li48, li49, li50, li51, li52, li53, li54, li55, li56, li57, li58, li59, li60, li64, li72, li87, li97, li98, li99, li100, li101, li102, li103, li104, li105, li108, li109, li110, li111, li112, li114, li115, li116, li117, li119, li120, li124, li126, li132, li139, li140, li148, li156, li1000, li1092, li1248, cl_sj_S, fX11_simulateJam_L13b]
  | succ d ih =>
    intro r i T' A σ hC hI hs hT h1 h2
    obtain ⟨r, rfl⟩ : ∃ q, r = q + 1 := ⟨r - 1, by omega⟩
    have hw9 := (hs.2.1 w hw).2.2
    have est := cl_isStuck hC.1 hw (by omega)
    rw [jamO_S]
    by_cases c : A.1 (10 + w) < 12
    · rw [if_pos c] at est
      rw [if_neg (by omega)]
      obtain ⟨τ, gg, p1, p2, -, p4⟩ := cl_pass (m := m) (n := 1) hF hC hI hs (by omega) hNN (by omega)
      have hv := spStep_inv hI hs
      obtain ⟨τ2, q1, q2⟩ := ih r (i + 1) (T' + 1) (spStep A) τ p2 hv.1 hv.2 (by omega) (by omega) (by omega)
      refine ⟨τ2, ?_, fun c hc => by rw [q2 c hc, p4 c hc]⟩
      simp (disch := omega) only [pu_OB, pu_LET, pu_OX0, pu_BND, pu_NZ, pu_BL, pu_m1, nI_add, pk_sub, pk_mul, pk_div, nI_clamp, pu_eq, pu_ne, pu_le_t, pu_le_f, pu_lt_t, pu_lt_f, pu_nm, pu_mm, pu_u2e, pu_u2n, ↓reduceIte, li0, li1, li2, li3, li4, li5, li6, li7, li8, li9, li10, li11, li12, li13, li14, li15, li16, li17, li18, li19, li20, li21, li22, li23, li24, li25, li26, li27, li28, li29, li30, li31, li32, li33, li34, li35, li36, li37, li38, li39, li40, li41, li42, li43, li44, li45, li46, li47, li48, li49, li50, li51, li52, li53, li54, li55, li56, li57, li58, li59, li60, li64, li72, li87, li97, li98, li99, li100, li101, li102, li103, li104, li105, li108, li109, li110, li111, li112, li114, li115, li116, li117, li119, li120, li124, li126, li132, li139, li140, li148, li156, li1000, li1092, li1248, cl_sj_S, fX11_simulateJam_L13b, est, p1]
      exact q1
    · rw [if_neg c] at est
      rw [if_pos (by omega)]
      refine ⟨σ, ?_, fun c hc => rfl⟩
      show _ = some (nI i, σ)
      simp (disch := omega) only [pu_OB, pu_LET, pu_OX0, pu_BND, pu_NZ, pu_BL, pu_m1, nI_add, pk_sub, pk_mul, pk_div, nI_clamp, pu_eq, pu_ne, pu_le_t, pu_le_f, pu_lt_t, pu_lt_f, pu_nm, pu_mm, pu_u2e, pu_u2n, ↓reduceIte, li0, li1, li2, li3, li4, li5, li6, li7, li8, li9, li10, li11, li12, li13, li14, li15, li16, li17, li18, li19, li20, li21, li22, li23, li24, li25, li26, li27, li28, li29, li30, li31, li32, li33, li34, li35, li36, li37, li38, li39, li40, li41, li42, li43, li44, li45, li46, li47, li48, li49, li50, li51, li52, li53, li54, li55, li56, li57, li58, li59, li60, li64, li72, li87, li97, li98, li99, li100, li101, li102, li103, li104, li105, li108, li109, li110, li111, li112, li114, li115, li116, li117, li119, li120, li124, li126, li132, li139, li140, li148, li156, li1000, li1092, li1248, cl_sj_S, fX11_simulateJam_L13b, est]
-- the rankings
def wbf (sc : Nat → Nat) (o w : Nat) : Bool := decide (sc (10 + w) < sc (10 + o)) || (sc (10 + o) == sc (10 + w) && (decide (sc (7 + w) < sc (7 + o)) || (sc (7 + o) == sc (7 + w) && decide (o < w))))
theorem wbf_t {sc : Nat → Nat} {o w : Nat} : wbf sc o w = true ↔ (sc (10 + w) < sc (10 + o) ∨ sc (10 + o) = sc (10 + w) ∧ (sc (7 + w) < sc (7 + o) ∨ sc (7 + o) = sc (7 + w) ∧ o < w)) := by simp [wbf]
theorem cl_wb {k o w : Nat} {A : AM} (hS : SR σ k A.1) {T' N' : Nat} (hs : IS A.1 0 T' N') (ho : o < 3) (hw : w < 3) : fX6_isWheelBefore k (nI o) (nI w) σ = some (nI (if wbf A.1 o w = true then 1 else 0), σ) := by
  have b1 := hs.2.1 o ho
  have b2 := hs.2.1 w hw
  have e1 := hS.wear ho
  have e2 := hS.wear hw
  have e3 := hS.gear ho
  have e4 := hS.gear hw
  have ht := wbf_t (sc := A.1) (o := o) (w := w)
  unfold fX6_isWheelBefore
  by_cases c : wbf A.1 o w = true
  · rw [if_pos c]
    have h := ht.mp c
    by_cases c1 : A.1 (10 + o) = A.1 (10 + w)
    · by_cases c2 : A.1 (7 + o) = A.1 (7 + w)
      · simp (disch := omega) only [pu_OB, pu_LET, pu_OX0, pu_BND, pu_NZ, pu_BL, pu_m1, nI_add, pk_sub, pk_mul, pk_div, nI_clamp, pu_eq, pu_ne, pu_le_t, pu_le_f, pu_lt_t, pu_lt_f, pu_nm, pu_mm, pu_u2e, pu_u2n, ↓reduceIte, li0, li1, li2, li3, li4, li5, li6, li7, li8, li9, li10, li11, li12, li13, li14, li15, li16, li17, li18, li19, li20, li21, li22, li23, li24, li25, li26, li27, li28, li29, li30, li31, li32, li33, li34, li35, li36, li37, li38, li39, li40, li41, li42, li43, li44, li45, li46, li47, li48, li49, li50, li51, li52, li53, li54, li55, li56, li57, li58, li59, li60, li64, li72, li87, li97, li98, li99, li100, li101, li102, li103, li104, li105, li108, li109, li110, li111, li112, li114, li115, li116, li117, li119, li120, li124, li126, li132, li139, li140, li148, li156, li1000, li1092, li1248, e1, e2, e3, e4]
      · simp (disch := omega) only [pu_OB, pu_LET, pu_OX0, pu_BND, pu_NZ, pu_BL, pu_m1, nI_add, pk_sub, pk_mul, pk_div, nI_clamp, pu_eq, pu_ne, pu_le_t, pu_le_f, pu_lt_t, pu_lt_f, pu_nm, pu_mm, pu_u2e, pu_u2n, ↓reduceIte, li0, li1, li2, li3, li4, li5, li6, li7, li8, li9, li10, li11, li12, li13, li14, li15, li16, li17, li18, li19, li20, li21, li22, li23, li24, li25, li26, li27, li28, li29, li30, li31, li32, li33, li34, li35, li36, li37, li38, li39, li40, li41, li42, li43, li44, li45, li46, li47, li48, li49, li50, li51, li52, li53, li54, li55, li56, li57, li58, li59, li60, li64, li72, li87, li97, li98, li99, li100, li101, li102, li103, li104, li105, li108, li109, li110, li111, li112, li114, li115, li116, li117, li119, li120, li124, li126, li132, li139, li140, li148, li156, li1000, li1092, li1248, e1, e2, e3, e4]
    · simp (disch := omega) only [pu_OB, pu_LET, pu_OX0, pu_BND, pu_NZ, pu_BL, pu_m1, nI_add, pk_sub, pk_mul, pk_div, nI_clamp, pu_eq, pu_ne, pu_le_t, pu_le_f, pu_lt_t, pu_lt_f, pu_nm, pu_mm, pu_u2e, pu_u2n, ↓reduceIte, li0, li1, li2, li3, li4, li5, li6, li7, li8, li9, li10, li11, li12, li13, li14, li15, li16, li17, li18, li19, li20, li21, li22, li23, li24, li25, li26, li27, li28, li29, li30, li31, li32, li33, li34, li35, li36, li37, li38, li39, li40, li41, li42, li43, li44, li45, li46, li47, li48, li49, li50, li51, li52, li53, li54, li55, li56, li57, li58, li59, li60, li64, li72, li87, li97, li98, li99, li100, li101, li102, li103, li104, li105, li108, li109, li110, li111, li112, li114, li115, li116, li117, li119, li120, li124, li126, li132, li139, li140, li148, li156, li1000, li1092, li1248, e1, e2, e3, e4]
  · rw [if_neg c]
    have h : ¬ _ := fun x => c (ht.mpr x)
    by_cases c1 : A.1 (10 + o) = A.1 (10 + w)
    · by_cases c2 : A.1 (7 + o) = A.1 (7 + w)
      · simp (disch := omega) only [pu_OB, pu_LET, pu_OX0, pu_BND, pu_NZ, pu_BL, pu_m1, nI_add, pk_sub, pk_mul, pk_div, nI_clamp, pu_eq, pu_ne, pu_le_t, pu_le_f, pu_lt_t, pu_lt_f, pu_nm, pu_mm, pu_u2e, pu_u2n, ↓reduceIte, li0, li1, li2, li3, li4, li5, li6, li7, li8, li9, li10, li11, li12, li13, li14, li15, li16, li17, li18, li19, li20, li21, li22, li23, li24, li25, li26, li27, li28, li29, li30, li31, li32, li33, li34, li35, li36, li37, li38, li39, li40, li41, li42, li43, li44, li45, li46, li47, li48, li49, li50, li51, li52, li53, li54, li55, li56, li57, li58, li59, li60, li64, li72, li87, li97, li98, li99, li100, li101, li102, li103, li104, li105, li108, li109, li110, li111, li112, li114, li115, li116, li117, li119, li120, li124, li126, li132, li139, li140, li148, li156, li1000, li1092, li1248, e1, e2, e3, e4]
      · simp (disch := omega) only [pu_OB, pu_LET, pu_OX0, pu_BND, pu_NZ, pu_BL, pu_m1, nI_add, pk_sub, pk_mul, pk_div, nI_clamp, pu_eq, pu_ne, pu_le_t, pu_le_f, pu_lt_t, pu_lt_f, pu_nm, pu_mm, pu_u2e, pu_u2n, ↓reduceIte, li0, li1, li2, li3, li4, li5, li6, li7, li8, li9, li10, li11, li12, li13, li14, li15, li16, li17, li18, li19, li20, li21, li22, li23, li24, li25, li26, li27, li28, li29, li30, li31, li32, li33, li34, li35, li36, li37, li38, li39, li40, li41, li42, li43, li44, li45, li46, li47, li48, li49, li50, li51, li52, li53, li54, li55, li56, li57, li58, li59, li60, li64, li72, li87, li97, li98, li99, li100, li101, li102, li103, li104, li105, li108, li109, li110, li111, li112, li114, li115, li116, li117, li119, li120, li124, li126, li132, li139, li140, li148, li156, li1000, li1092, li1248, e1, e2, e3, e4]
    · simp (disch := omega) only [pu_OB, pu_LET, pu_OX0, pu_BND, pu_NZ, pu_BL, pu_m1, nI_add, pk_sub, pk_mul, pk_div, nI_clamp, pu_eq, pu_ne, pu_le_t, pu_le_f, pu_lt_t, pu_lt_f, pu_nm, pu_mm, pu_u2e, pu_u2n, ↓reduceIte, li0, li1, li2, li3, li4, li5, li6, li7, li8, li9, li10, li11, li12, li13, li14, li15, li16, li17, li18, li19, li20, li21, li22, li23, li24, li25, li26, li27, li28, li29, li30, li31, li32, li33, li34, li35, li36, li37, li38, li39, li40, li41, li42, li43, li44, li45, li46, li47, li48, li49, li50, li51, li52, li53, li54, li55, li56, li57, li58, li59, li60, li64, li72, li87, li97, li98, li99, li100, li101, li102, li103, li104, li105, li108, li109, li110, li111, li112, li114, li115, li116, li117, li119, li120, li124, li126, li132, li139, li140, li148, li156, li1000, li1092, li1248, e1, e2, e3, e4]
theorem cl_cw_S (k r : Nat) (x1 x2 x3 : Int32) (σ : St) : fX6_countWheelsBefore_L4 m k (r + 1) x1 x2 x3 σ = fX6_countWheelsBefore_L4b m k (fX6_countWheelsBefore_L4 m k r) x1 x2 x3 σ := rfl
theorem cl_cw {k w : Nat} {A : AM} (hF : 2000 ≤ m) (hS : SR σ k A.1) {T' N' : Nat} (hs : IS A.1 0 T' N') (hw : w < 3) : fX6_countWheelsBefore m k (nI w) σ = some (nI (0 + sumF (fun o => if wbf A.1 o w = true then 1 else 0) 0 3), σ) := by
  have key : ∀ d n i x, i + d = 3 → d < n → fX6_countWheelsBefore_L4 m k n (nI w) (nI x) (nI i) σ = some (nI (x + sumF (fun o => if wbf A.1 o w = true then 1 else 0) i d), σ) := by
    intro d
    induction d with
    | zero =>
      intro n i x h1 h2
      obtain ⟨n, rfl⟩ : ∃ q, n = q + 1 := ⟨n - 1, by omega⟩
      simp (disch := omega) only [pu_OB, pu_LET, pu_OX0, pu_BND, pu_NZ, pu_BL, pu_m1, nI_add, pk_sub, pk_mul, pk_div, nI_clamp, pu_eq, pu_ne, pu_le_t, pu_le_f, pu_lt_t, pu_lt_f, pu_nm, pu_mm, pu_u2e, pu_u2n, ↓reduceIte, li0, li1, li2, li3, li4, li5, li6, li7, li8, li9, li10, li11, li12, li13, li14, li15, li16, li17, li18, li19, li20, li21, li22, li23, li24, li25, li26, li27, li28, li29, li30, li31, li32, li33, li34, li35, li36, li37, li38, li39, li40, li41, li42, li43, li44, li45, li46, li47, li48, li49, li50, li51, li52, li53, li54, li55, li56, li57, li58, li59, li60, li64, li72, li87, li97, li98, li99, li100, li101, li102, li103, li104, li105, li108, li109, li110, li111, li112, li114, li115, li116, li117, li119, li120, li124, li126, li132, li139, li140, li148, li156, li1000, li1092, li1248, cl_cw_S, fX6_countWheelsBefore_L4b, sumF_0, Nat.add_zero]
    | succ d ih =>
      intro n i x h1 h2
      obtain ⟨n, rfl⟩ : ∃ q, n = q + 1 := ⟨n - 1, by omega⟩
      have e1 := cl_wb hS hs (show i < 3 by omega) hw
      rw [sumF_S]
      by_cases c : wbf A.1 i w = true
      · rw [if_pos c] at e1 ⊢
        simp (disch := omega) only [pu_OB, pu_LET, pu_OX0, pu_BND, pu_NZ, pu_BL, pu_m1, nI_add, pk_sub, pk_mul, pk_div, nI_clamp, pu_eq, pu_ne, pu_le_t, pu_le_f, pu_lt_t, pu_lt_f, pu_nm, pu_mm, pu_u2e, pu_u2n, ↓reduceIte, li0, li1, li2, li3, li4, li5, li6, li7, li8, li9, li10, li11, li12, li13, li14, li15, li16, li17, li18, li19, li20, li21, li22, li23, li24, li25, li26, li27, li28, li29, li30, li31, li32, li33, li34, li35, li36, li37, li38, li39, li40, li41, li42, li43, li44, li45, li46, li47, li48, li49, li50, li51, li52, li53, li54, li55, li56, li57, li58, li59, li60, li64, li72, li87, li97, li98, li99, li100, li101, li102, li103, li104, li105, li108, li109, li110, li111, li112, li114, li115, li116, li117, li119, li120, li124, li126, li132, li139, li140, li148, li156, li1000, li1092, li1248, cl_cw_S, fX6_countWheelsBefore_L4b, fX6_countWheelsBefore_B21, e1, ih n (i + 1), Nat.add_assoc]
      · rw [if_neg c] at e1 ⊢
        simp (disch := omega) only [pu_OB, pu_LET, pu_OX0, pu_BND, pu_NZ, pu_BL, pu_m1, nI_add, pk_sub, pk_mul, pk_div, nI_clamp, pu_eq, pu_ne, pu_le_t, pu_le_f, pu_lt_t, pu_lt_f, pu_nm, pu_mm, pu_u2e, pu_u2n, ↓reduceIte, li0, li1, li2, li3, li4, li5, li6, li7, li8, li9, li10, li11, li12, li13, li14, li15, li16, li17, li18, li19, li20, li21, li22, li23, li24, li25, li26, li27, li28, li29, li30, li31, li32, li33, li34, li35, li36, li37, li38, li39, li40, li41, li42, li43, li44, li45, li46, li47, li48, li49, li50, li51, li52, li53, li54, li55, li56, li57, li58, li59, li60, li64, li72, li87, li97, li98, li99, li100, li101, li102, li103, li104, li105, li108, li109, li110, li111, li112, li114, li115, li116, li117, li119, li120, li124, li126, li132, li139, li140, li148, li156, li1000, li1092, li1248, cl_cw_S, fX6_countWheelsBefore_L4b, fX6_countWheelsBefore_B21, e1, ih n (i + 1), Nat.zero_add]
  exact key 3 m 0 0 (by omega) (by omega)
theorem cl_wr_S (r : Nat) (x1 x2 : Int32) (σ : St) : fX11_wheelByWear_L2 m (r + 1) x1 x2 σ = fX11_wheelByWear_L2b m (fX11_wheelByWear_L2 m r) x1 x2 σ := rfl
end PR

