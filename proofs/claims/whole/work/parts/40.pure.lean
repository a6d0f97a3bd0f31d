-- ===== jams and grains ahead; the rankings =====
section PR
variable {σ s : St} {m C : Nat} {T : List Nat}
theorem cl_sj_S (r : Nat) (x1 x2 : Int32) (σ : St) : fX11_simulateJam_L13 m (r + 1) x1 x2 σ = fX11_simulateJam_L13b m (fX11_simulateJam_L13 m r) x1 x2 σ := rfl
theorem rf_sj_S (r : Nat) (x1 x2 : Int32) (s : St) : fX12_stepsUntilJam_L28 m (r + 1) x1 x2 s = fX12_stepsUntilJam_L28b m (fX12_stepsUntilJam_L28 m r) x1 x2 s := rfl
/-- the first of the steps i .. i + d - 1 before which wheel w is jammed -/
def jamO (w : Nat) : Nat → Nat → AM → Option Nat
  | 0, _, _ => none
  | d + 1, i, A => if 12 ≤ A.1 (10 + w) then some i else jamO w d (i + 1) (spStep A)
theorem jamO_S (w d i : Nat) (A : AM) : jamO w (d + 1) i A = if 12 ≤ A.1 (10 + w) then some i else jamO w d (i + 1) (spStep A) := rfl
theorem jamO_le {w : Nat} : ∀ {d i : Nat} {A : AM} {k : Nat}, jamO w d i A = some k → i ≤ k ∧ k < i + d := by
  intro d
  induction d with
  | zero => intro i A k h; cases h
  | succ d ih =>
    intro i A k h
    rw [jamO_S] at h
    by_cases c : 12 ≤ A.1 (10 + w)
    · rw [if_pos c] at h
      cases h
      omega
    · rw [if_neg c] at h
      have := ih h
      omega
theorem cl_jam {N w : Nat} (hF : 2000 ≤ m) (hNN : N < 10 ^ 7) (hw : w < 3) : ∀ (d r i T' : Nat) (A : AM) (σ : St), CR σ 19 A → IN A.1 A.2 → IS A.1 0 T' N → T' + d < 10 ^ 7 → i + d = 61 → d < r → ∃ τ, fX11_simulateJam_L13 m r (nI w) (nI i) σ = some (oI (jamO w d i A), τ) ∧ ∀ c, c < 19 ∨ 19 + 19 ≤ c → τ c = σ c := by
  intro d
  induction d with
  | zero =>
    intro r i T' A σ hC hI hs hT h1 h2
    obtain ⟨r, rfl⟩ : ∃ q, r = q + 1 := ⟨r - 1, by omega⟩
    refine ⟨σ, ?_, fun c hc => rfl⟩
    show _ = some (mI, σ)
    simp (disch := omega) only [pu_OB, pu_LET, pu_OX0, pu_BND, pu_NZ, pu_BL, pu_m1, nI_add, pk_sub, pk_mul, pk_div, nI_clamp, pu_eq, pu_ne, pu_le_t, pu_le_f, pu_lt_t, pu_lt_f, pu_nm, pu_mm, pu_u2e, pu_u2n, ↓reduceIte, li0, li1, li2, li3, li4, li5, li6, li7, li8, li9, li10, li11, li12, li13, li14, li15, li16, li17, li18, li19, li20, li21, li22, li23, li24, li25, li26, li27, li28, li29, li30, li31, li32, li33, li34, li35, li36, li37, li38, li39, li40, li41, li42, li43, li44, li45, li46, li47, li48, li49, li50, li51, li52, li53, li54, li55, li56, li57, li58, li59, li60, li64, li72, li87, li97, li98, li99, li100, li101, li102, li103, li104, li105, li108, li109, li110, li111, li112, li114, li115, li116, li117, li119, li120, li124, li126, li132, li139, li140, li148, li156, li1000, li1092, li1248, cl_sj_S, fX11_simulateJam_L13b]
  | succ d ih =>
    intro r i T' A σ hC hI hs hT h1 h2
    obtain ⟨r, rfl⟩ : ∃ q, r = q + 1 := ⟨r - 1, by omega⟩
    have hw9 := (hs.2.1 w hw).2.2
    have est := cl_isStuck hC.1 hw (by omega)
    rw [jamO_S]
    by_cases c : A.1 (10 + w) < 12
    · rw [if_pos c] at est
      rw [if_neg (by omega)]
      obtain ⟨τ, gg, p1, p2, -, p4⟩ := cl_pass (m := m) (n := 1) hF hC hI hs (by omega) hNN (by omega)
      have hv := spStep_inv hI hs
      obtain ⟨τ2, q1, q2⟩ := ih r (i + 1) (T' + 1) (spStep A) τ p2 hv.1 hv.2 (by omega) (by omega) (by omega)
      refine ⟨τ2, ?_, fun c hc => by rw [q2 c hc, p4 c hc]⟩
      simp (disch := omega) only [pu_OB, pu_LET, pu_OX0, pu_BND, pu_NZ, pu_BL, pu_m1, nI_add, pk_sub, pk_mul, pk_div, nI_clamp, pu_eq, pu_ne, pu_le_t, pu_le_f, pu_lt_t, pu_lt_f, pu_nm, pu_mm, pu_u2e, pu_u2n, ↓reduceIte, li0, li1, li2, li3, li4, li5, li6, li7, li8, li9, li10, li11, li12, li13, li14, li15, li16, li17, li18, li19, li20, li21, li22, li23, li24, li25, li26, li27, li28, li29, li30, li31, li32, li33, li34, li35, li36, li37, li38, li39, li40, li41, li42, li43, li44, li45, li46, li47, li48, li49, li50, li51, li52, li53, li54, li55, li56, li57, li58, li59, li60, li64, li72, li87, li97, li98, li99, li100, li101, li102, li103, li104, li105, li108, li109, li110, li111, li112, li114, li115, li116, li117, li119, li120, li124, li126, li132, li139, li140, li148, li156, li1000, li1092, li1248, cl_sj_S, fX11_simulateJam_L13b, est, p1]
      exact q1
    · rw [if_neg c] at est
      rw [if_pos (by omega)]
      refine ⟨σ, ?_, fun c hc => rfl⟩
      show _ = some (nI i, σ)
      simp (disch := omega) only [pu_OB, pu_LET, pu_OX0, pu_BND, pu_NZ, pu_BL, pu_m1, nI_add, pk_sub, pk_mul, pk_div, nI_clamp, pu_eq, pu_ne, pu_le_t, pu_le_f, pu_lt_t, pu_lt_f, pu_nm, pu_mm, pu_u2e, pu_u2n, ↓reduceIte, li0, li1, li2, li3, li4, li5, li6, li7, li8, li9, li10, li11, li12, li13, li14, li15, li16, li17, li18, li19, li20, li21, li22, li23, li24, li25, li26, li27, li28, li29, li30, li31, li32, li33, li34, li35, li36, li37, li38, li39, li40, li41, li42, li43, li44, li45, li46, li47, li48, li49, li50, li51, li52, li53, li54, li55, li56, li57, li58, li59, li60, li64, li72, li87, li97, li98, li99, li100, li101, li102, li103, li104, li105, li108, li109, li110, li111, li112, li114, li115, li116, li117, li119, li120, li124, li126, li132, li139, li140, li148, li156, li1000, li1092, li1248, cl_sj_S, fX11_simulateJam_L13b, est]
/-- the reference's loop: it ends at the first jam, or behind the horizon -/
theorem rf_jam {N w : Nat} (hF : 2000 ≤ m) (hNN : N < 10 ^ 7) (hw : w < 3) : ∀ (d r i T' : Nat) (A : AM) (s : St), SM s 1 A.1 → NM s 1 A.2 → IN A.1 A.2 → IS A.1 0 T' N → T' + d < 10 ^ 7 → i + d = 61 → d < r → ∃ t, fX12_stepsUntilJam_L28 m r (nI w) (nI i) s = fX12_stepsUntilJam_B58 m (nI ((jamO w d i A).getD 61)) t ∧ ∀ c, c ≠ 1 → t c = s c := by
  intro d
  induction d with
  | zero =>
    intro r i T' A s hS hN hI hs hT h1 h2
    obtain ⟨r, rfl⟩ : ∃ q, r = q + 1 := ⟨r - 1, by omega⟩
    refine ⟨s, ?_, fun c hc => rfl⟩
    obtain rfl : i = 61 := by omega
    show _ = fX12_stepsUntilJam_B58 m (nI 61) s
    have e61 : nI 60 < nI 61 := nI_lt (by omega) (by omega)
    rw [rf_sj_S]
    exact if_pos e61
  | succ d ih =>
    intro r i T' A s hS hN hI hs hT h1 h2
    obtain ⟨r, rfl⟩ : ∃ q, r = q + 1 := ⟨r - 1, by omega⟩
    have hw9 := (hs.2.1 w hw).2.2
    have e10 : s 1 (10 + w) = nI (A.1 (10 + w)) := hS _ (by omega) (by omega) (by omega)
    rw [jamO_S]
    by_cases c : A.1 (10 + w) < 12
    · rw [if_neg (by omega)]
      obtain ⟨t, a1, a2, a3, a4⟩ := rf_step (m := m) hF hS hN hI hs (by omega) hNN
      have hv := spStep_inv hI hs
      obtain ⟨t2, q1, q2⟩ := ih r (i + 1) (T' + 1) (spStep A) t a2 a3 hv.1 hv.2 (by omega) (by omega) (by omega)
      refine ⟨t2, ?_, fun c hc => by rw [q2 c hc, a4 c hc]⟩
      simp (disch := omega) only [pu_OB, pu_LET, pu_OX0, pu_BND, pu_NZ, pu_BL, pu_m1, nI_add, pk_sub, pk_mul, pk_div, nI_clamp, pu_eq, pu_ne, pu_le_t, pu_le_f, pu_lt_t, pu_lt_f, pu_nm, pu_mm, pu_u2e, pu_u2n, ↓reduceIte, li0, li1, li2, li3, li4, li5, li6, li7, li8, li9, li10, li11, li12, li13, li14, li15, li16, li17, li18, li19, li20, li21, li22, li23, li24, li25, li26, li27, li28, li29, li30, li31, li32, li33, li34, li35, li36, li37, li38, li39, li40, li41, li42, li43, li44, li45, li46, li47, li48, li49, li50, li51, li52, li53, li54, li55, li56, li57, li58, li59, li60, li64, li72, li87, li97, li98, li99, li100, li101, li102, li103, li104, li105, li108, li109, li110, li111, li112, li114, li115, li116, li117, li119, li120, li124, li126, li132, li139, li140, li148, li156, li1000, li1092, li1248, rf_sj_S, fX12_stepsUntilJam_L28b, e10, a1]
      exact q1
    · rw [if_pos (by omega)]
      refine ⟨s, ?_, fun c hc => rfl⟩
      show _ = fX12_stepsUntilJam_B58 m (nI i) s
      simp (disch := omega) only [pu_OB, pu_LET, pu_OX0, pu_BND, pu_NZ, pu_BL, pu_m1, nI_add, pk_sub, pk_mul, pk_div, nI_clamp, pu_eq, pu_ne, pu_le_t, pu_le_f, pu_lt_t, pu_lt_f, pu_nm, pu_mm, pu_u2e, pu_u2n, ↓reduceIte, li0, li1, li2, li3, li4, li5, li6, li7, li8, li9, li10, li11, li12, li13, li14, li15, li16, li17, li18, li19, li20, li21, li22, li23, li24, li25, li26, li27, li28, li29, li30, li31, li32, li33, li34, li35, li36, li37, li38, li39, li40, li41, li42, li43, li44, li45, li46, li47, li48, li49, li50, li51, li52, li53, li54, li55, li56, li57, li58, li59, li60, li64, li72, li87, li97, li98, li99, li100, li101, li102, li103, li104, li105, li108, li109, li110, li111, li112, li114, li115, li116, li117, li119, li120, li124, li126, li132, li139, li140, li148, li156, li1000, li1092, li1248, rf_sj_S, fX12_stepsUntilJam_L28b, e10]
theorem cp13 {j : Nat} (hj : j < 156) : cpS s 1 0 3 0 0 3 j = s 1 j := by
  have := cpS_in (s := s) (p := 1) (a := 0) (q := 3) (b := 0) hj
  rw [Nat.zero_add] at this
  exact this
theorem cp31 {j : Nat} (hj : j < 156) : cpS s 3 0 1 0 0 1 j = s 3 j := by
  have := cpS_in (s := s) (p := 3) (a := 0) (q := 1) (b := 0) hj
  rw [Nat.zero_add] at this
  exact this
/-- the row g is as before, whatever lies ahead -/
theorem GG.back {t : St} {k : Int32} (h : GG σ s C T) (h1 : ∀ c, c ≠ 1 → t c = cpS s 1 0 3 0 0 c) : GG σ (u2 (cpS t 3 0 1 0 0) 0 13 k) (C + 1) T := by
  obtain ⟨A, H, S, B, er, fl, g1, g2, g3, g4, g5, g6, g7, g8, g9⟩ := h
  have e1 : ∀ j, j < 156 → (u2 (cpS t 3 0 1 0 0) 0 13 k) 1 j = s 1 j := fun j hj => by
    rw [pu_u2n (by omega), cp31 hj, h1 3 (by omega), cp13 hj]
  refine ⟨A, H, S, B, er, fl, g1, g2, ⟨g3.1.ext e1, g3.2.ext g5.1.len e1⟩, g4.of (fun c a b => ?_) (fun j hj => ?_), g5.mono (by omega), fun i hi => (g6 i hi).mono (by omega), fun X hX => (g7 X hX).mono (by omega), g8, g9⟩
  · rw [pu_u2r (by omega), cpS_row (by omega), h1 c (by omega), cpS_row (by omega)]
  · rw [pu_u2n (by omega), cpS_out (by omega), h1 0 (by omega), cpS_out (by omega)]
theorem ca_stepsUntilJam (hF : 2000 ≤ m) (hC : C < 512) (h : GG σ s C T) (p : Int32) : CASE (fX11_stepsUntilJam m p σ) (fX12_stepsUntilJam m p s) [2, 3] C T := by
  have h0 := h
  obtain ⟨A, H, S, B, er, fl, g1, g2, g3, g4, g5, g6, g7, g8, g9⟩ := h0
  rcases rng0 p (n := 3) (by omega) with hp | ⟨w, hw, rfl⟩
  · refine q_x (c := 2) (k := 1) (r := 0) (r' := nI 0) h ?_ ?_ (by decide) (by omega) (by decide +kernel)
    · unfold fX11_stepsUntilJam
      rw [cl_reqW_x hp, pu_OXc (by omega)]
    · unfold fX12_stepsUntilJam
      simp (disch := omega) only [pu_OB, pu_LET, pu_OX0, pu_BND, pu_NZ, pu_BL, pu_m1, nI_add, pk_sub, pk_mul, pk_div, nI_clamp, pu_eq, pu_ne, pu_le_t, pu_le_f, pu_lt_t, pu_lt_f, pu_nm, pu_mm, pu_u2e, pu_u2n, ↓reduceIte, li0, li1, li2, li3, li4, li5, li6, li7, li8, li9, li10, li11, li12, li13, li14, li15, li16, li17, li18, li19, li20, li21, li22, li23, li24, li25, li26, li27, li28, li29, li30, li31, li32, li33, li34, li35, li36, li37, li38, li39, li40, li41, li42, li43, li44, li45, li46, li47, li48, li49, li50, li51, li52, li53, li54, li55, li56, li57, li58, li59, li60, li64, li72, li87, li97, li98, li99, li100, li101, li102, li103, li104, li105, li108, li109, li110, li111, li112, li114, li115, li116, li117, li119, li120, li124, li126, li132, li139, li140, li148, li156, li1000, li1092, li1248, rf_isWheel_x hp, rf_fails]
  · obtain ⟨t, t1, t2, t3⟩ := cl_copy (k := 19) hF g1 g5.1 g5.2 (by omega)
    obtain ⟨τ, q1, q2⟩ := cl_jam (m := m) (w := w) hF (by omega) hw 61 m 0 (480 * C) A t t2 g5.1 g5.2 (by omega) (by omega) (by omega)
    have eh : cpS s 1 0 3 0 0 1 = s 1 := cpS_row (by omega)
    obtain ⟨u, r1, r2⟩ := rf_jam (m := m) (w := w) hF (show 12 * C < 10 ^ 7 by omega) hw 61 m 0 (480 * C) A (cpS s 1 0 3 0 0) (g3.1.other eh) (g3.2.other eh) g5.1 g5.2 (by omega) (by omega) (by omega)
    have ec1 := rf_copy (m := m) (s := s) (p := 1) (pn := 156) (q := 3) (qn := 156) (a := 0) (b := 0) hF (by omega) (by omega) (by omega) (by omega) (by omega)
    have ec2 := rf_copy (m := m) (s := u) (p := 3) (pn := 156) (q := 1) (qn := 156) (a := 0) (b := 0) hF (by omega) (by omega) (by omega) (by omega) (by omega)
    have hG := h.trial (τ := τ) fun c hc => by rw [q2 c (by omega), t3 c (by omega)]
    cases hj : jamO w 61 0 A with
    | none =>
      rw [hj] at q1 r1
      have q1 : fX11_simulateJam_L13 m m (nI w) (nI 0) t = some (mI, τ) := q1
      have r1 : fX12_stepsUntilJam_L28 m m (nI w) (nI 0) (cpS s 1 0 3 0 0) = fX12_stepsUntilJam_B58 m (nI 61) u := r1
      refine ⟨3, 0, τ, nI 0, _, ?_, ?_, Or.inr (by decide), ?_, fun h => by omega, hG.back (k := nI 2) r2⟩
      · unfold fX11_stepsUntilJam fX11_simulateJam fX11_requireSteps
        simp (disch := omega) only [pu_OB, pu_LET, pu_OX0, pu_BND, pu_NZ, pu_BL, pu_m1, nI_add, pk_sub, pk_mul, pk_div, nI_clamp, pu_eq, pu_ne, pu_le_t, pu_le_f, pu_lt_t, pu_lt_f, pu_nm, pu_mm, pu_u2e, pu_u2n, ↓reduceIte, li0, li1, li2, li3, li4, li5, li6, li7, li8, li9, li10, li11, li12, li13, li14, li15, li16, li17, li18, li19, li20, li21, li22, li23, li24, li25, li26, li27, li28, li29, li30, li31, li32, li33, li34, li35, li36, li37, li38, li39, li40, li41, li42, li43, li44, li45, li46, li47, li48, li49, li50, li51, li52, li53, li54, li55, li56, li57, li58, li59, li60, li64, li72, li87, li97, li98, li99, li100, li101, li102, li103, li104, li105, li108, li109, li110, li111, li112, li114, li115, li116, li117, li119, li120, li124, li126, li132, li139, li140, li148, li156, li1000, li1092, li1248, cl_reqW hw, t1, q1, pu_OXc]
      · unfold fX12_stepsUntilJam
        simp (disch := omega) only [pu_OB, pu_LET, pu_OX0, pu_BND, pu_NZ, pu_BL, pu_m1, nI_add, pk_sub, pk_mul, pk_div, nI_clamp, pu_eq, pu_ne, pu_le_t, pu_le_f, pu_lt_t, pu_lt_f, pu_nm, pu_mm, pu_u2e, pu_u2n, ↓reduceIte, li0, li1, li2, li3, li4, li5, li6, li7, li8, li9, li10, li11, li12, li13, li14, li15, li16, li17, li18, li19, li20, li21, li22, li23, li24, li25, li26, li27, li28, li29, li30, li31, li32, li33, li34, li35, li36, li37, li38, li39, li40, li41, li42, li43, li44, li45, li46, li47, li48, li49, li50, li51, li52, li53, li54, li55, li56, li57, li58, li59, li60, li64, li72, li87, li97, li98, li99, li100, li101, li102, li103, li104, li105, li108, li109, li110, li111, li112, li114, li115, li116, li117, li119, li120, li124, li126, li132, li139, li140, li148, li156, li1000, li1092, li1248, rf_isWheel hw, ec1, r1, fX12_stepsUntilJam_B58, ec2, rf_fails]
      · rw [pu_u2e ⟨rfl, rfl⟩]
        decide +kernel
    | some k =>
      have hk := jamO_le hj
      rw [hj] at q1 r1
      have q1 : fX11_simulateJam_L13 m m (nI w) (nI 0) t = some (nI k, τ) := q1
      have r1 : fX12_stepsUntilJam_L28 m m (nI w) (nI 0) (cpS s 1 0 3 0 0) = fX12_stepsUntilJam_B58 m (nI k) u := r1
      refine ⟨0, nI k, τ, nI k, _, ?_, ?_, Or.inl rfl, ?_, fun _ => rfl, hG.back (k := nI 0) r2⟩
      · unfold fX11_stepsUntilJam fX11_simulateJam fX11_requireSteps
        simp (disch := omega) only [pu_OB, pu_LET, pu_OX0, pu_BND, pu_NZ, pu_BL, pu_m1, nI_add, pk_sub, pk_mul, pk_div, nI_clamp, pu_eq, pu_ne, pu_le_t, pu_le_f, pu_lt_t, pu_lt_f, pu_nm, pu_mm, pu_u2e, pu_u2n, ↓reduceIte, li0, li1, li2, li3, li4, li5, li6, li7, li8, li9, li10, li11, li12, li13, li14, li15, li16, li17, li18, li19, li20, li21, li22, li23, li24, li25, li26, li27, li28, li29, li30, li31, li32, li33, li34, li35, li36, li37, li38, li39, li40, li41, li42, li43, li44, li45, li46, li47, li48, li49, li50, li51, li52, li53, li54, li55, li56, li57, li58, li59, li60, li64, li72, li87, li97, li98, li99, li100, li101, li102, li103, li104, li105, li108, li109, li110, li111, li112, li114, li115, li116, li117, li119, li120, li124, li126, li132, li139, li140, li148, li156, li1000, li1092, li1248, cl_reqW hw, t1, q1]
      · unfold fX12_stepsUntilJam
        simp (disch := omega) only [pu_OB, pu_LET, pu_OX0, pu_BND, pu_NZ, pu_BL, pu_m1, nI_add, pk_sub, pk_mul, pk_div, nI_clamp, pu_eq, pu_ne, pu_le_t, pu_le_f, pu_lt_t, pu_lt_f, pu_nm, pu_mm, pu_u2e, pu_u2n, ↓reduceIte, li0, li1, li2, li3, li4, li5, li6, li7, li8, li9, li10, li11, li12, li13, li14, li15, li16, li17, li18, li19, li20, li21, li22, li23, li24, li25, li26, li27, li28, li29, li30, li31, li32, li33, li34, li35, li36, li37, li38, li39, li40, li41, li42, li43, li44, li45, li46, li47, li48, li49, li50, li51, li52, li53, li54, li55, li56, li57, li58, li59, li60, li64, li72, li87, li97, li98, li99, li100, li101, li102, li103, li104, li105, li108, li109, li110, li111, li112, li114, li115, li116, li117, li119, li120, li124, li126, li132, li139, li140, li148, li156, li1000, li1092, li1248, rf_isWheel hw, ec1, r1, fX12_stepsUntilJam_B58, ec2, rf_done]
      · rw [pu_u2e ⟨rfl, rfl⟩]
        decide +kernel
theorem rf_gw_S (r : Nat) (x1 x2 : Int32) (s : St) : fX12_groundWithin_L31 m (r + 1) x1 x2 s = fX12_groundWithin_L31b m (fX12_groundWithin_L31 m r) x1 x2 s := rfl
theorem ca_groundWithin (hF : 2000 ≤ m) (hC : C < 512) (h : GG σ s C T) (p : Int32) : CASE (fX11_groundWithin m p σ) (fX12_groundWithin m p s) [1] C T := by
  have h0 := h
  obtain ⟨A, H, S, B, er, fl, g1, g2, g3, g4, g5, g6, g7, g8, g9⟩ := h0
  rcases rng0 p (n := 61) (by omega) with hp | ⟨n, hn, rfl⟩
  · refine q_x (c := 1) (k := 1) (r := 0) (r' := nI 0) h ?_ ?_ (by decide) (by omega) (by decide +kernel)
    · unfold fX11_groundWithin
      by_cases c : p < 0
      · rw [if_pos c]
      · rw [if_neg c, if_neg]
        intro h9
        have h8 := hp.resolve_left c
        rw [Int32.le_iff_toInt_le, nI_toInt (by omega)] at h8
        rw [Int32.le_iff_toInt_le, show (60 : Int32).toInt = 60 from rfl] at h9
        omega
    · have e : fX12_in p (nI 0) (nI 60) s = some (nI 0, s) := rf_in_bad (lo := 0) (hi := 60) hp (by omega)
      unfold fX12_groundWithin
      simp (disch := omega) only [pu_OB, pu_LET, pu_OX0, pu_BND, pu_NZ, pu_BL, pu_m1, nI_add, pk_sub, pk_mul, pk_div, nI_clamp, pu_eq, pu_ne, pu_le_t, pu_le_f, pu_lt_t, pu_lt_f, pu_nm, pu_mm, pu_u2e, pu_u2n, ↓reduceIte, li0, li1, li2, li3, li4, li5, li6, li7, li8, li9, li10, li11, li12, li13, li14, li15, li16, li17, li18, li19, li20, li21, li22, li23, li24, li25, li26, li27, li28, li29, li30, li31, li32, li33, li34, li35, li36, li37, li38, li39, li40, li41, li42, li43, li44, li45, li46, li47, li48, li49, li50, li51, li52, li53, li54, li55, li56, li57, li58, li59, li60, li64, li72, li87, li97, li98, li99, li100, li101, li102, li103, li104, li105, li108, li109, li110, li111, li112, li114, li115, li116, li117, li119, li120, li124, li126, li132, li139, li140, li148, li156, li1000, li1092, li1248, e, rf_fails]
  · obtain ⟨t, t1, t2, t3⟩ := cl_copy (k := 19) hF g1 g5.1 g5.2 (by omega)
    obtain ⟨τ, g, q1, q2, hg, q4⟩ := cl_pass (m := m) (n := n) hF t2 g5.1 g5.2 (by omega) (by omega) (by omega)
    have eh : cpS s 1 0 3 0 0 1 = s 1 := cpS_row (by omega)
    obtain ⟨f, f0, f1, f2⟩ := rf_steps (m := m) (N := 12 * C) hF (by omega) n (480 * C) A (cpS s 1 0 3 0 0) (g3.1.other eh) (g3.2.other eh) g5.1 g5.2 (by omega)
    have ec1 := rf_copy (m := m) (s := s) (p := 1) (pn := 156) (q := 3) (qn := 156) (a := 0) (b := 0) hF (by omega) (by omega) (by omega) (by omega) (by omega)
    have ec2 := rf_copy (m := m) (s := f n) (p := 3) (pn := 156) (q := 1) (qn := 156) (a := 0) (b := 0) hF (by omega) (by omega) (by omega) (by omega) (by omega)
    have hv := (spN_inv (n := n) g5.1 g5.2).2.1
    have hv0 := g5.2.1
    have e3 : s 1 3 = nI (A.1 3) := g3.1 _ (by omega) (by omega) (by omega)
    have key : ∀ d r i, i + d = n → d < r → fX12_groundWithin_L31 m r (nI n) (nI i) (f i) = some (nI g, u2 (cpS (f n) 3 0 1 0 0) 0 13 (nI 0)) := by
      intro d
      induction d with
      | zero =>
        intro r i h1 h2
        obtain ⟨r, rfl⟩ : ∃ q, r = q + 1 := ⟨r - 1, by omega⟩
        obtain rfl : i = n := by omega
        have e4 : f i 1 3 = nI (A.1 3 + g) := by rw [(f2 i (Nat.le_refl _)).1 _ (by omega) (by omega) (by omega), hg]
        have e5 : cpS (f i) 3 0 1 0 0 1 3 = nI (A.1 3) := by rw [cp31 (by omega), (f2 i (Nat.le_refl _)).2.2 3 (by omega), cp13 (by omega), e3]
        have eg : A.1 3 + g - A.1 3 = g := by omega
        simp (disch := omega) only [pu_OB, pu_LET, pu_OX0, pu_BND, pu_NZ, pu_BL, pu_m1, nI_add, pk_sub, pk_mul, pk_div, nI_clamp, pu_eq, pu_ne, pu_le_t, pu_le_f, pu_lt_t, pu_lt_f, pu_nm, pu_mm, pu_u2e, pu_u2n, ↓reduceIte, li0, li1, li2, li3, li4, li5, li6, li7, li8, li9, li10, li11, li12, li13, li14, li15, li16, li17, li18, li19, li20, li21, li22, li23, li24, li25, li26, li27, li28, li29, li30, li31, li32, li33, li34, li35, li36, li37, li38, li39, li40, li41, li42, li43, li44, li45, li46, li47, li48, li49, li50, li51, li52, li53, li54, li55, li56, li57, li58, li59, li60, li64, li72, li87, li97, li98, li99, li100, li101, li102, li103, li104, li105, li108, li109, li110, li111, li112, li114, li115, li116, li117, li119, li120, li124, li126, li132, li139, li140, li148, li156, li1000, li1092, li1248, rf_gw_S, fX12_groundWithin_L31b, e4, ec2, e5, rf_done, eg]
      | succ d ih =>
        intro r i h1 h2
        obtain ⟨r, rfl⟩ : ∃ q, r = q + 1 := ⟨r - 1, by omega⟩
        simp (disch := omega) only [pu_OB, pu_LET, pu_OX0, pu_BND, pu_NZ, pu_BL, pu_m1, nI_add, pk_sub, pk_mul, pk_div, nI_clamp, pu_eq, pu_ne, pu_le_t, pu_le_f, pu_lt_t, pu_lt_f, pu_nm, pu_mm, pu_u2e, pu_u2n, ↓reduceIte, li0, li1, li2, li3, li4, li5, li6, li7, li8, li9, li10, li11, li12, li13, li14, li15, li16, li17, li18, li19, li20, li21, li22, li23, li24, li25, li26, li27, li28, li29, li30, li31, li32, li33, li34, li35, li36, li37, li38, li39, li40, li41, li42, li43, li44, li45, li46, li47, li48, li49, li50, li51, li52, li53, li54, li55, li56, li57, li58, li59, li60, li64, li72, li87, li97, li98, li99, li100, li101, li102, li103, li104, li105, li108, li109, li110, li111, li112, li114, li115, li116, li117, li119, li120, li124, li126, li132, li139, li140, li148, li156, li1000, li1092, li1248, rf_gw_S, fX12_groundWithin_L31b, f1 i (by omega), ih r (i + 1)]
    have hk := key n m 0 (by omega) (by omega)
    rw [f0] at hk
    have hG := h.trial (τ := τ) fun c hc => by rw [q4 c (by omega), t3 c (by omega)]
    refine ⟨0, nI g, τ, nI g, _, ?_, ?_, Or.inl rfl, ?_, fun _ => rfl, hG.back (k := nI 0) (t := f n) fun c hc => (f2 n (Nat.le_refl _)).2.2 c hc⟩
    · unfold fX11_groundWithin
      simp (disch := omega) only [pu_OB, pu_LET, pu_OX0, pu_BND, pu_NZ, pu_BL, pu_m1, nI_add, pk_sub, pk_mul, pk_div, nI_clamp, pu_eq, pu_ne, pu_le_t, pu_le_f, pu_lt_t, pu_lt_f, pu_nm, pu_mm, pu_u2e, pu_u2n, ↓reduceIte, li0, li1, li2, li3, li4, li5, li6, li7, li8, li9, li10, li11, li12, li13, li14, li15, li16, li17, li18, li19, li20, li21, li22, li23, li24, li25, li26, li27, li28, li29, li30, li31, li32, li33, li34, li35, li36, li37, li38, li39, li40, li41, li42, li43, li44, li45, li46, li47, li48, li49, li50, li51, li52, li53, li54, li55, li56, li57, li58, li59, li60, li64, li72, li87, li97, li98, li99, li100, li101, li102, li103, li104, li105, li108, li109, li110, li111, li112, li114, li115, li116, li117, li119, li120, li124, li126, li132, li139, li140, li148, li156, li1000, li1092, li1248, t1, q1]
    · unfold fX12_groundWithin
      simp (disch := omega) only [pu_OB, pu_LET, pu_OX0, pu_BND, pu_NZ, pu_BL, pu_m1, nI_add, pk_sub, pk_mul, pk_div, nI_clamp, pu_eq, pu_ne, pu_le_t, pu_le_f, pu_lt_t, pu_lt_f, pu_nm, pu_mm, pu_u2e, pu_u2n, ↓reduceIte, li0, li1, li2, li3, li4, li5, li6, li7, li8, li9, li10, li11, li12, li13, li14, li15, li16, li17, li18, li19, li20, li21, li22, li23, li24, li25, li26, li27, li28, li29, li30, li31, li32, li33, li34, li35, li36, li37, li38, li39, li40, li41, li42, li43, li44, li45, li46, li47, li48, li49, li50, li51, li52, li53, li54, li55, li56, li57, li58, li59, li60, li64, li72, li87, li97, li98, li99, li100, li101, li102, li103, li104, li105, li108, li109, li110, li111, li112, li114, li115, li116, li117, li119, li120, li124, li126, li132, li139, li140, li148, li156, li1000, li1092, li1248, rf_in_good, ec1, hk]
    · rw [pu_u2e ⟨rfl, rfl⟩]
      decide +kernel
-- the rankings
def wbf (sc : Nat → Nat) (o w : Nat) : Bool := decide (sc (10 + w) < sc (10 + o)) || (sc (10 + o) == sc (10 + w) && (decide (sc (7 + w) < sc (7 + o)) || (sc (7 + o) == sc (7 + w) && decide (o < w))))
theorem wbf_t {sc : Nat → Nat} {o w : Nat} : wbf sc o w = true ↔ (sc (10 + w) < sc (10 + o) ∨ sc (10 + o) = sc (10 + w) ∧ (sc (7 + w) < sc (7 + o) ∨ sc (7 + o) = sc (7 + w) ∧ o < w)) := by simp [wbf]
theorem cl_wb {k o w : Nat} {A : AM} (hS : SR σ k A.1) {T' N' : Nat} (hs : IS A.1 0 T' N') (ho : o < 3) (hw : w < 3) : fX6_isWheelBefore k (nI o) (nI w) σ = some (nI (if wbf A.1 o w = true then 1 else 0), σ) := by
  have b1 := hs.2.1 o ho
  have b2 := hs.2.1 w hw
  have e1 := hS.wear ho
  have e2 := hS.wear hw
  have e3 := hS.gear ho
  have e4 := hS.gear hw
  have ht := wbf_t (sc := A.1) (o := o) (w := w)
  unfold fX6_isWheelBefore
  by_cases c : wbf A.1 o w = true
  · rw [if_pos c]
    have h := ht.mp c
    by_cases c1 : A.1 (10 + o) = A.1 (10 + w)
    · by_cases c2 : A.1 (7 + o) = A.1 (7 + w)
      · simp (disch := omega) only [pu_OB, pu_LET, pu_OX0, pu_BND, pu_NZ, pu_BL, pu_m1, nI_add, pk_sub, pk_mul, pk_div, nI_clamp, pu_eq, pu_ne, pu_le_t, pu_le_f, pu_lt_t, pu_lt_f, pu_nm, pu_mm, pu_u2e, pu_u2n, ↓reduceIte, li0, li1, li2, li3, li4, li5, li6, li7, li8, li9, li10, li11, li12, li13, li14, li15, li16, li17, li18, li19, li20, li21, li22, li23, li24, li25, li26, li27, li28, li29, li30, li31, li32, li33, li34, li35, li36, li37, li38, li39, li40, li41, li42, li43, li44, li45, li46, li47, li48, li49, li50, li51, li52, li53, li54, li55, li56, li57, li58, li59, li60, li64, li72, li87, li97, li98, li99, li100, li101, li102, li103, li104, li105, li108, li109, li110, li111, li112, li114, li115, li116, li117, li119, li120, li124, li126, li132, li139, li140, li148, li156, li1000, li1092, li1248, e1, e2, e3, e4]
      · simp (disch := omega) only [pu_OB, pu_LET, pu_OX0, pu_BND, pu_NZ, pu_BL, pu_m1, nI_add, pk_sub, pk_mul, pk_div, nI_clamp, pu_eq, pu_ne, pu_le_t, pu_le_f, pu_lt_t, pu_lt_f, pu_nm, pu_mm, pu_u2e, pu_u2n, ↓reduceIte, li0, li1, li2, li3, li4, li5, li6, li7, li8, li9, li10, li11, li12, li13, li14, li15, li16, li17, li18, li19, li20, li21, li22, li23, li24, li25, li26, li27, li28, li29, li30, li31, li32, li33, li34, li35, li36, li37, li38, li39, li40, li41, li42, li43, li44, li45, li46, li47, li48, li49, li50, li51, li52, li53, li54, li55, li56, li57, li58, li59, li60, li64, li72, li87, li97, li98, li99, li100, li101, li102, li103, li104, li105, li108, li109, li110, li111, li112, li114, li115, li116, li117, li119, li120, li124, li126, li132, li139, li140, li148, li156, li1000, li1092, li1248, e1, e2, e3, e4]
    · simp (disch := omega) only [pu_OB, pu_LET, pu_OX0, pu_BND, pu_NZ, pu_BL, pu_m1, nI_add, pk_sub, pk_mul, pk_div, nI_clamp, pu_eq, pu_ne, pu_le_t, pu_le_f, pu_lt_t, pu_lt_f, pu_nm, pu_mm, pu_u2e, pu_u2n, ↓reduceIte, li0, li1, li2, li3, li4, li5, li6, li7, li8, li9, li10, li11, li12, li13, li14, li15, li16, li17, li18, li19, li20, li21, li22, li23, li24, li25, li26, li27, li28, li29, li30, li31, li32, li33, li34, li35, li36, li37, li38, li39, li40, li41, li42, li43, li44, li45, li46, li47, li48, li49, li50, li51, li52, li53, li54, li55, li56, li57, li58, li59, li60, li64, li72, li87, li97, li98, li99, li100, li101, li102, li103, li104, li105, li108, li109, li110, li111, li112, li114, li115, li116, li117, li119, li120, li124, li126, li132, li139, li140, li148, li156, li1000, li1092, li1248, e1, e2, e3, e4]
  · rw [if_neg c]
    have h : ¬ _ := fun x => c (ht.mpr x)
    by_cases c1 : A.1 (10 + o) = A.1 (10 + w)
    · by_cases c2 : A.1 (7 + o) = A.1 (7 + w)
      · simp (disch := omega) only [pu_OB, pu_LET, pu_OX0, pu_BND, pu_NZ, pu_BL, pu_m1, nI_add, pk_sub, pk_mul, pk_div, nI_clamp, pu_eq, pu_ne, pu_le_t, pu_le_f, pu_lt_t, pu_lt_f, pu_nm, pu_mm, pu_u2e, pu_u2n, ↓reduceIte, li0, li1, li2, li3, li4, li5, li6, li7, li8, li9, li10, li11, li12, li13, li14, li15, li16, li17, li18, li19, li20, li21, li22, li23, li24, li25, li26, li27, li28, li29, li30, li31, li32, li33, li34, li35, li36, li37, li38, li39, li40, li41, li42, li43, li44, li45, li46, li47, li48, li49, li50, li51, li52, li53, li54, li55, li56, li57, li58, li59, li60, li64, li72, li87, li97, li98, li99, li100, li101, li102, li103, li104, li105, li108, li109, li110, li111, li112, li114, li115, li116, li117, li119, li120, li124, li126, li132, li139, li140, li148, li156, li1000, li1092, li1248, e1, e2, e3, e4]
      · simp (disch := omega) only [pu_OB, pu_LET, pu_OX0, pu_BND, pu_NZ, pu_BL, pu_m1, nI_add, pk_sub, pk_mul, pk_div, nI_clamp, pu_eq, pu_ne, pu_le_t, pu_le_f, pu_lt_t, pu_lt_f, pu_nm, pu_mm, pu_u2e, pu_u2n, ↓reduceIte, li0, li1, li2, li3, li4, li5, li6, li7, li8, li9, li10, li11, li12, li13, li14, li15, li16, li17, li18, li19, li20, li21, li22, li23, li24, li25, li26, li27, li28, li29, li30, li31, li32, li33, li34, li35, li36, li37, li38, li39, li40, li41, li42, li43, li44, li45, li46, li47, li48, li49, li50, li51, li52, li53, li54, li55, li56, li57, li58, li59, li60, li64, li72, li87, li97, li98, li99, li100, li101, li102, li103, li104, li105, li108, li109, li110, li111, li112, li114, li115, li116, li117, li119, li120, li124, li126, li132, li139, li140, li148, li156, li1000, li1092, li1248, e1, e2, e3, e4]
    · simp (disch := omega) only [pu_OB, pu_LET, pu_OX0, pu_BND, pu_NZ, pu_BL, pu_m1, nI_add, pk_sub, pk_mul, pk_div, nI_clamp, pu_eq, pu_ne, pu_le_t, pu_le_f, pu_lt_t, pu_lt_f, pu_nm, pu_mm, pu_u2e, pu_u2n, ↓reduceIte, li0, li1, li2, li3, li4, li5, li6, li7, li8, li9, li10, li11, li12, li13, li14, li15, li16, li17, li18, li19, li20, li21, li22, li23, li24, li25, li26, li27, li28, li29, li30, li31, li32, li33, li34, li35, li36, li37, li38, li39, li40, li41, li42, li43, li44, li45, li46, li47, li48, li49, li50, li51, li52, li53, li54, li55, li56, li57, li58, li59, li60, li64, li72, li87, li97, li98, li99, li100, li101, li102, li103, li104, li105, li108, li109, li110, li111, li112, li114, li115, li116, li117, li119, li120, li124, li126, li132, li139, li140, li148, li156, li1000, li1092, li1248, e1, e2, e3, e4]
theorem rf_wb {o w : Nat} {A : AM} (hS : SM s 1 A.1) {T' N' : Nat} (hs : IS A.1 0 T' N') (ho : o < 3) (hw : w < 3) : fX12_isWheelAhead (nI o) (nI w) s = some (nI (if wbf A.1 o w = true then 1 else 0), s) := by
  have b1 := hs.2.1 o ho
  have b2 := hs.2.1 w hw
  have e1 : s 1 (10 + o) = nI (A.1 (10 + o)) := hS _ (by omega) (by omega) (by omega)
  have e2 : s 1 (10 + w) = nI (A.1 (10 + w)) := hS _ (by omega) (by omega) (by omega)
  have e3 : s 1 (7 + o) = nI (A.1 (7 + o)) := hS _ (by omega) (by omega) (by omega)
  have e4 : s 1 (7 + w) = nI (A.1 (7 + w)) := hS _ (by omega) (by omega) (by omega)
  have ht := wbf_t (sc := A.1) (o := o) (w := w)
  unfold fX12_isWheelAhead
  by_cases c : wbf A.1 o w = true
  · rw [if_pos c]
    have h := ht.mp c
    by_cases c1 : A.1 (10 + o) = A.1 (10 + w)
    · by_cases c2 : A.1 (7 + o) = A.1 (7 + w)
      · simp (disch := omega) only [pu_OB, pu_LET, pu_OX0, pu_BND, pu_NZ, pu_BL, pu_m1, nI_add, pk_sub, pk_mul, pk_div, nI_clamp, pu_eq, pu_ne, pu_le_t, pu_le_f, pu_lt_t, pu_lt_f, pu_nm, pu_mm, pu_u2e, pu_u2n, ↓reduceIte, li0, li1, li2, li3, li4, li5, li6, li7, li8, li9, li10, li11, li12, li13, li14, li15, li16, li17, li18, li19, li20, li21, li22, li23, li24, li25, li26, li27, li28, li29, li30, li31, li32, li33, li34, li35, li36, li37, li38, li39, li40, li41, li42, li43, li44, li45, li46, li47, li48, li49, li50, li51, li52, li53, li54, li55, li56, li57, li58, li59, li60, li64, li72, li87, li97, li98, li99, li100, li101, li102, li103, li104, li105, li108, li109, li110, li111, li112, li114, li115, li116, li117, li119, li120, li124, li126, li132, li139, li140, li148, li156, li1000, li1092, li1248, e1, e2, e3, e4, fX12_isWheelAhead_B64]
      · simp (disch := omega) only [pu_OB, pu_LET, pu_OX0, pu_BND, pu_NZ, pu_BL, pu_m1, nI_add, pk_sub, pk_mul, pk_div, nI_clamp, pu_eq, pu_ne, pu_le_t, pu_le_f, pu_lt_t, pu_lt_f, pu_nm, pu_mm, pu_u2e, pu_u2n, ↓reduceIte, li0, li1, li2, li3, li4, li5, li6, li7, li8, li9, li10, li11, li12, li13, li14, li15, li16, li17, li18, li19, li20, li21, li22, li23, li24, li25, li26, li27, li28, li29, li30, li31, li32, li33, li34, li35, li36, li37, li38, li39, li40, li41, li42, li43, li44, li45, li46, li47, li48, li49, li50, li51, li52, li53, li54, li55, li56, li57, li58, li59, li60, li64, li72, li87, li97, li98, li99, li100, li101, li102, li103, li104, li105, li108, li109, li110, li111, li112, li114, li115, li116, li117, li119, li120, li124, li126, li132, li139, li140, li148, li156, li1000, li1092, li1248, e1, e2, e3, e4, fX12_isWheelAhead_B64]
    · simp (disch := omega) only [pu_OB, pu_LET, pu_OX0, pu_BND, pu_NZ, pu_BL, pu_m1, nI_add, pk_sub, pk_mul, pk_div, nI_clamp, pu_eq, pu_ne, pu_le_t, pu_le_f, pu_lt_t, pu_lt_f, pu_nm, pu_mm, pu_u2e, pu_u2n, ↓reduceIte, li0, li1, li2, li3, li4, li5, li6, li7, li8, li9, li10, li11, li12, li13, li14, li15, li16, li17, li18, li19, li20, li21, li22, li23, li24, li25, li26, li27, li28, li29, li30, li31, li32, li33, li34, li35, li36, li37, li38, li39, li40, li41, li42, li43, li44, li45, li46, li47, li48, li49, li50, li51, li52, li53, li54, li55, li56, li57, li58, li59, li60, li64, li72, li87, li97, li98, li99, li100, li101, li102, li103, li104, li105, li108, li109, li110, li111, li112, li114, li115, li116, li117, li119, li120, li124, li126, li132, li139, li140, li148, li156, li1000, li1092, li1248, e1, e2, e3, e4, fX12_isWheelAhead_B64]
  · rw [if_neg c]
    have h : ¬ _ := fun x => c (ht.mpr x)
    by_cases c1 : A.1 (10 + o) = A.1 (10 + w)
    · by_cases c2 : A.1 (7 + o) = A.1 (7 + w)
      · simp (disch := omega) only [pu_OB, pu_LET, pu_OX0, pu_BND, pu_NZ, pu_BL, pu_m1, nI_add, pk_sub, pk_mul, pk_div, nI_clamp, pu_eq, pu_ne, pu_le_t, pu_le_f, pu_lt_t, pu_lt_f, pu_nm, pu_mm, pu_u2e, pu_u2n, ↓reduceIte, li0, li1, li2, li3, li4, li5, li6, li7, li8, li9, li10, li11, li12, li13, li14, li15, li16, li17, li18, li19, li20, li21, li22, li23, li24, li25, li26, li27, li28, li29, li30, li31, li32, li33, li34, li35, li36, li37, li38, li39, li40, li41, li42, li43, li44, li45, li46, li47, li48, li49, li50, li51, li52, li53, li54, li55, li56, li57, li58, li59, li60, li64, li72, li87, li97, li98, li99, li100, li101, li102, li103, li104, li105, li108, li109, li110, li111, li112, li114, li115, li116, li117, li119, li120, li124, li126, li132, li139, li140, li148, li156, li1000, li1092, li1248, e1, e2, e3, e4, fX12_isWheelAhead_B64, pu_sn1, pu_sn2]
      · simp (disch := omega) only [pu_OB, pu_LET, pu_OX0, pu_BND, pu_NZ, pu_BL, pu_m1, nI_add, pk_sub, pk_mul, pk_div, nI_clamp, pu_eq, pu_ne, pu_le_t, pu_le_f, pu_lt_t, pu_lt_f, pu_nm, pu_mm, pu_u2e, pu_u2n, ↓reduceIte, li0, li1, li2, li3, li4, li5, li6, li7, li8, li9, li10, li11, li12, li13, li14, li15, li16, li17, li18, li19, li20, li21, li22, li23, li24, li25, li26, li27, li28, li29, li30, li31, li32, li33, li34, li35, li36, li37, li38, li39, li40, li41, li42, li43, li44, li45, li46, li47, li48, li49, li50, li51, li52, li53, li54, li55, li56, li57, li58, li59, li60, li64, li72, li87, li97, li98, li99, li100, li101, li102, li103, li104, li105, li108, li109, li110, li111, li112, li114, li115, li116, li117, li119, li120, li124, li126, li132, li139, li140, li148, li156, li1000, li1092, li1248, e1, e2, e3, e4, fX12_isWheelAhead_B64, pu_sn1, pu_sn2]
    · simp (disch := omega) only [pu_OB, pu_LET, pu_OX0, pu_BND, pu_NZ, pu_BL, pu_m1, nI_add, pk_sub, pk_mul, pk_div, nI_clamp, pu_eq, pu_ne, pu_le_t, pu_le_f, pu_lt_t, pu_lt_f, pu_nm, pu_mm, pu_u2e, pu_u2n, ↓reduceIte, li0, li1, li2, li3, li4, li5, li6, li7, li8, li9, li10, li11, li12, li13, li14, li15, li16, li17, li18, li19, li20, li21, li22, li23, li24, li25, li26, li27, li28, li29, li30, li31, li32, li33, li34, li35, li36, li37, li38, li39, li40, li41, li42, li43, li44, li45, li46, li47, li48, li49, li50, li51, li52, li53, li54, li55, li56, li57, li58, li59, li60, li64, li72, li87, li97, li98, li99, li100, li101, li102, li103, li104, li105, li108, li109, li110, li111, li112, li114, li115, li116, li117, li119, li120, li124, li126, li132, li139, li140, li148, li156, li1000, li1092, li1248, e1, e2, e3, e4, fX12_isWheelAhead_B64, pu_sn1, pu_sn2]
theorem cl_cw_S (k r : Nat) (x1 x2 x3 : Int32) (σ : St) : fX6_countWheelsBefore_L4 m k (r + 1) x1 x2 x3 σ = fX6_countWheelsBefore_L4b m k (fX6_countWheelsBefore_L4 m k r) x1 x2 x3 σ := rfl
theorem cl_cw {k w : Nat} {A : AM} (hF : 2000 ≤ m) (hS : SR σ k A.1) {T' N' : Nat} (hs : IS A.1 0 T' N') (hw : w < 3) : fX6_countWheelsBefore m k (nI w) σ = some (nI (0 + sumF (fun o => if wbf A.1 o w = true then 1 else 0) 0 3), σ) := by
  have key : ∀ d n i x, i + d = 3 → d < n → fX6_countWheelsBefore_L4 m k n (nI w) (nI x) (nI i) σ = some (nI (x + sumF (fun o => if wbf A.1 o w = true then 1 else 0) i d), σ) := by
    intro d
    induction d with
    | zero =>
      intro n i x h1 h2
      obtain ⟨n, rfl⟩ : ∃ q, n = q + 1 := ⟨n - 1, by omega⟩
      simp (disch := omega) only [pu_OB, pu_LET, pu_OX0, pu_BND, pu_NZ, pu_BL, pu_m1, nI_add, pk_sub, pk_mul, pk_div, nI_clamp, pu_eq, pu_ne, pu_le_t, pu_le_f, pu_lt_t, pu_lt_f, pu_nm, pu_mm, pu_u2e, pu_u2n, ↓reduceIte, li0, li1, li2, li3, li4, li5, li6, li7, li8, li9, li10, li11, li12, li13, li14, li15, li16, li17, li18, li19, li20, li21, li22, li23, li24, li25, li26, li27, li28, li29, li30, li31, li32, li33, li34, li35, li36, li37, li38, li39, li40, li41, li42, li43, li44, li45, li46, li47, li48, li49, li50, li51, li52, li53, li54, li55, li56, li57, li58, li59, li60, li64, li72, li87, li97, li98, li99, li100, li101, li102, li103, li104, li105, li108, li109, li110, li111, li112, li114, li115, li116, li117, li119, li120, li124, li126, li132, li139, li140, li148, li156, li1000, li1092, li1248, cl_cw_S, fX6_countWheelsBefore_L4b, sumF_0, Nat.add_zero]
    | succ d ih =>
      intro n i x h1 h2
      obtain ⟨n, rfl⟩ : ∃ q, n = q + 1 := ⟨n - 1, by omega⟩
      have e1 := cl_wb hS hs (show i < 3 by omega) hw
      rw [sumF_S]
      by_cases c : wbf A.1 i w = true
      · rw [if_pos c] at e1 ⊢
        simp (disch := omega) only [pu_OB, pu_LET, pu_OX0, pu_BND, pu_NZ, pu_BL, pu_m1, nI_add, pk_sub, pk_mul, pk_div, nI_clamp, pu_eq, pu_ne, pu_le_t, pu_le_f, pu_lt_t, pu_lt_f, pu_nm, pu_mm, pu_u2e, pu_u2n, ↓reduceIte, li0, li1, li2, li3, li4, li5, li6, li7, li8, li9, li10, li11, li12, li13, li14, li15, li16, li17, li18, li19, li20, li21, li22, li23, li24, li25, li26, li27, li28, li29, li30, li31, li32, li33, li34, li35, li36, li37, li38, li39, li40, li41, li42, li43, li44, li45, li46, li47, li48, li49, li50, li51, li52, li53, li54, li55, li56, li57, li58, li59, li60, li64, li72, li87, li97, li98, li99, li100, li101, li102, li103, li104, li105, li108, li109, li110, li111, li112, li114, li115, li116, li117, li119, li120, li124, li126, li132, li139, li140, li148, li156, li1000, li1092, li1248, cl_cw_S, fX6_countWheelsBefore_L4b, fX6_countWheelsBefore_B21, e1, ih n (i + 1), Nat.add_assoc]
      · rw [if_neg c] at e1 ⊢
        simp (disch := omega) only [pu_OB, pu_LET, pu_OX0, pu_BND, pu_NZ, pu_BL, pu_m1, nI_add, pk_sub, pk_mul, pk_div, nI_clamp, pu_eq, pu_ne, pu_le_t, pu_le_f, pu_lt_t, pu_lt_f, pu_nm, pu_mm, pu_u2e, pu_u2n, ↓reduceIte, li0, li1, li2, li3, li4, li5, li6, li7, li8, li9, li10, li11, li12, li13, li14, li15, li16, li17, li18, li19, li20, li21, li22, li23, li24, li25, li26, li27, li28, li29, li30, li31, li32, li33, li34, li35, li36, li37, li38, li39, li40, li41, li42, li43, li44, li45, li46, li47, li48, li49, li50, li51, li52, li53, li54, li55, li56, li57, li58, li59, li60, li64, li72, li87, li97, li98, li99, li100, li101, li102, li103, li104, li105, li108, li109, li110, li111, li112, li114, li115, li116, li117, li119, li120, li124, li126, li132, li139, li140, li148, li156, li1000, li1092, li1248, cl_cw_S, fX6_countWheelsBefore_L4b, fX6_countWheelsBefore_B21, e1, ih n (i + 1), Nat.zero_add]
  exact key 3 m 0 0 (by omega) (by omega)
theorem cl_wr_S (r : Nat) (x1 x2 : Int32) (σ : St) : fX11_wheelByWear_L2 m (r + 1) x1 x2 σ = fX11_wheelByWear_L2b m (fX11_wheelByWear_L2 m r) x1 x2 σ := rfl
theorem rf_wr_S (r : Nat) (x1 x2 : Int32) (s : St) : fX12_wheelByWear_L2 m (r + 1) x1 x2 s = fX12_wheelByWear_L2b m (fX12_wheelByWear_L2 m r) x1 x2 s := rfl
theorem rf_wr12_S (r : Nat) (K2 : Int32 → Int32 → St → Option (Int32 × St)) (x1 x2 x3 x4 : Int32) (s : St) : fX12_wheelByWear_L12 m K2 (r + 1) x1 x2 x3 x4 s = fX12_wheelByWear_L12b m K2 (fX12_wheelByWear_L12 m K2 r) x1 x2 x3 x4 s := rfl
theorem rf_cw {w : Nat} {x1 : Int32} {A : AM} (K2 : Int32 → Int32 → St → Option (Int32 × St)) (hS : SM s 1 A.1) {T' N' : Nat} (hs : IS A.1 0 T' N') (hw : w < 3) : ∀ d n i x, i + d = 3 → d < n → fX12_wheelByWear_L12 m K2 n x1 (nI w) (nI x) (nI i) s = if nI (x + sumF (fun o => if wbf A.1 o w = true then 1 else 0) i d) = x1 then some (nI w, u2 s 0 13 (nI 0)) else K2 x1 (nI (w + 1)) s := by
  intro d
  induction d with
  | zero =>
    intro n i x h1 h2
    obtain ⟨n, rfl⟩ : ∃ q, n = q + 1 := ⟨n - 1, by omega⟩
    simp (disch := omega) only [pu_OB, pu_LET, pu_OX0, pu_BND, pu_NZ, pu_BL, pu_m1, nI_add, pk_sub, pk_mul, pk_div, nI_clamp, pu_eq, pu_ne, pu_le_t, pu_le_f, pu_lt_t, pu_lt_f, pu_nm, pu_mm, pu_u2e, pu_u2n, ↓reduceIte, li0, li1, li2, li3, li4, li5, li6, li7, li8, li9, li10, li11, li12, li13, li14, li15, li16, li17, li18, li19, li20, li21, li22, li23, li24, li25, li26, li27, li28, li29, li30, li31, li32, li33, li34, li35, li36, li37, li38, li39, li40, li41, li42, li43, li44, li45, li46, li47, li48, li49, li50, li51, li52, li53, li54, li55, li56, li57, li58, li59, li60, li64, li72, li87, li97, li98, li99, li100, li101, li102, li103, li104, li105, li108, li109, li110, li111, li112, li114, li115, li116, li117, li119, li120, li124, li126, li132, li139, li140, li148, li156, li1000, li1092, li1248, rf_wr12_S, fX12_wheelByWear_L12b, sumF_0, Nat.add_zero, rf_done]
    rfl
  | succ d ih =>
    intro n i x h1 h2
    obtain ⟨n, rfl⟩ : ∃ q, n = q + 1 := ⟨n - 1, by omega⟩
    have e1 := rf_wb hS hs (show i < 3 by omega) hw
    rw [sumF_S, ← Nat.add_assoc]
    by_cases c : wbf A.1 i w = true
    · rw [if_pos c] at e1 ⊢
      simp (disch := omega) only [pu_OB, pu_LET, pu_OX0, pu_BND, pu_NZ, pu_BL, pu_m1, nI_add, pk_sub, pk_mul, pk_div, nI_clamp, pu_eq, pu_ne, pu_le_t, pu_le_f, pu_lt_t, pu_lt_f, pu_nm, pu_mm, pu_u2e, pu_u2n, ↓reduceIte, li0, li1, li2, li3, li4, li5, li6, li7, li8, li9, li10, li11, li12, li13, li14, li15, li16, li17, li18, li19, li20, li21, li22, li23, li24, li25, li26, li27, li28, li29, li30, li31, li32, li33, li34, li35, li36, li37, li38, li39, li40, li41, li42, li43, li44, li45, li46, li47, li48, li49, li50, li51, li52, li53, li54, li55, li56, li57, li58, li59, li60, li64, li72, li87, li97, li98, li99, li100, li101, li102, li103, li104, li105, li108, li109, li110, li111, li112, li114, li115, li116, li117, li119, li120, li124, li126, li132, li139, li140, li148, li156, li1000, li1092, li1248, rf_wr12_S, fX12_wheelByWear_L12b, fX12_wheelByWear_B34, e1, ih n (i + 1)]
    · rw [if_neg c] at e1 ⊢
      simp (disch := omega) only [pu_OB, pu_LET, pu_OX0, pu_BND, pu_NZ, pu_BL, pu_m1, nI_add, pk_sub, pk_mul, pk_div, nI_clamp, pu_eq, pu_ne, pu_le_t, pu_le_f, pu_lt_t, pu_lt_f, pu_nm, pu_mm, pu_u2e, pu_u2n, ↓reduceIte, li0, li1, li2, li3, li4, li5, li6, li7, li8, li9, li10, li11, li12, li13, li14, li15, li16, li17, li18, li19, li20, li21, li22, li23, li24, li25, li26, li27, li28, li29, li30, li31, li32, li33, li34, li35, li36, li37, li38, li39, li40, li41, li42, li43, li44, li45, li46, li47, li48, li49, li50, li51, li52, li53, li54, li55, li56, li57, li58, li59, li60, li64, li72, li87, li97, li98, li99, li100, li101, li102, li103, li104, li105, li108, li109, li110, li111, li112, li114, li115, li116, li117, li119, li120, li124, li126, li132, li139, li140, li148, li156, li1000, li1092, li1248, rf_wr12_S, fX12_wheelByWear_L12b, fX12_wheelByWear_B34, e1, ih n (i + 1), Nat.add_zero]
theorem ca_wheelByWear (hF : 2000 ≤ m) (h : GG σ s C T) (p : Int32) : CASE (fX11_wheelByWear m p σ) (fX12_wheelByWear m p s) [3] C T := by
  have h0 := h
  obtain ⟨A, H, S, B, er, fl, g1, g2, g3, g4, g5, g6, g7, g8, g9⟩ := h0
  have key : ∀ d i q r, i + d = 3 → d < q → d < r → (fX11_wheelByWear_L2 m q p (nI i) σ = some ((3, 0), σ) ∧ fX12_wheelByWear_L2 m r p (nI i) s = some (nI 0, u2 s 0 13 (nI 1))) ∨ ∃ w, fX11_wheelByWear_L2 m q p (nI i) σ = some ((0, nI w), σ) ∧ fX12_wheelByWear_L2 m r p (nI i) s = some (nI w, u2 s 0 13 (nI 0)) := by
    intro d
    induction d with
    | zero =>
      intro i q r h1 h2 h3
      obtain ⟨q, rfl⟩ : ∃ n, q = n + 1 := ⟨q - 1, by omega⟩
      obtain ⟨r, rfl⟩ : ∃ n, r = n + 1 := ⟨r - 1, by omega⟩
      refine Or.inl ⟨?_, ?_⟩
      · rw [cl_wr_S]
        exact if_pos (nI_le (a := 3) (by omega) (by omega))
      · simp (disch := omega) only [pu_OB, pu_LET, pu_OX0, pu_BND, pu_NZ, pu_BL, pu_m1, nI_add, pk_sub, pk_mul, pk_div, nI_clamp, pu_eq, pu_ne, pu_le_t, pu_le_f, pu_lt_t, pu_lt_f, pu_nm, pu_mm, pu_u2e, pu_u2n, ↓reduceIte, li0, li1, li2, li3, li4, li5, li6, li7, li8, li9, li10, li11, li12, li13, li14, li15, li16, li17, li18, li19, li20, li21, li22, li23, li24, li25, li26, li27, li28, li29, li30, li31, li32, li33, li34, li35, li36, li37, li38, li39, li40, li41, li42, li43, li44, li45, li46, li47, li48, li49, li50, li51, li52, li53, li54, li55, li56, li57, li58, li59, li60, li64, li72, li87, li97, li98, li99, li100, li101, li102, li103, li104, li105, li108, li109, li110, li111, li112, li114, li115, li116, li117, li119, li120, li124, li126, li132, li139, li140, li148, li156, li1000, li1092, li1248, rf_wr_S, fX12_wheelByWear_L2b, rf_fails]
    | succ d ih =>
      intro i q r h1 h2 h3
      obtain ⟨q, rfl⟩ : ∃ n, q = n + 1 := ⟨q - 1, by omega⟩
      obtain ⟨r, rfl⟩ : ∃ n, r = n + 1 := ⟨r - 1, by omega⟩
      have e1 := cl_cw (m := m) hF g1.1 g5.2 (show i < 3 by omega)
      have e2 := rf_cw (m := m) (x1 := p) (fX12_wheelByWear_L2 m r) g3.1 g5.2 (show i < 3 by omega) 3 m 0 0 (by omega) (by omega)
      by_cases c : nI (0 + sumF (fun o => if wbf A.1 o i = true then 1 else 0) 0 3) = p
      · rw [if_pos c] at e2
        refine Or.inr ⟨i, ?_, ?_⟩
        · simp (disch := omega) only [pu_OB, pu_LET, pu_OX0, pu_BND, pu_NZ, pu_BL, pu_m1, nI_add, pk_sub, pk_mul, pk_div, nI_clamp, pu_eq, pu_ne, pu_le_t, pu_le_f, pu_lt_t, pu_lt_f, pu_nm, pu_mm, pu_u2e, pu_u2n, ↓reduceIte, li0, li1, li2, li3, li4, li5, li6, li7, li8, li9, li10, li11, li12, li13, li14, li15, li16, li17, li18, li19, li20, li21, li22, li23, li24, li25, li26, li27, li28, li29, li30, li31, li32, li33, li34, li35, li36, li37, li38, li39, li40, li41, li42, li43, li44, li45, li46, li47, li48, li49, li50, li51, li52, li53, li54, li55, li56, li57, li58, li59, li60, li64, li72, li87, li97, li98, li99, li100, li101, li102, li103, li104, li105, li108, li109, li110, li111, li112, li114, li115, li116, li117, li119, li120, li124, li126, li132, li139, li140, li148, li156, li1000, li1092, li1248, cl_wr_S, fX11_wheelByWear_L2b, e1, if_pos c]
        · simp (disch := omega) only [pu_OB, pu_LET, pu_OX0, pu_BND, pu_NZ, pu_BL, pu_m1, nI_add, pk_sub, pk_mul, pk_div, nI_clamp, pu_eq, pu_ne, pu_le_t, pu_le_f, pu_lt_t, pu_lt_f, pu_nm, pu_mm, pu_u2e, pu_u2n, ↓reduceIte, li0, li1, li2, li3, li4, li5, li6, li7, li8, li9, li10, li11, li12, li13, li14, li15, li16, li17, li18, li19, li20, li21, li22, li23, li24, li25, li26, li27, li28, li29, li30, li31, li32, li33, li34, li35, li36, li37, li38, li39, li40, li41, li42, li43, li44, li45, li46, li47, li48, li49, li50, li51, li52, li53, li54, li55, li56, li57, li58, li59, li60, li64, li72, li87, li97, li98, li99, li100, li101, li102, li103, li104, li105, li108, li109, li110, li111, li112, li114, li115, li116, li117, li119, li120, li124, li126, li132, li139, li140, li148, li156, li1000, li1092, li1248, rf_wr_S, fX12_wheelByWear_L2b, e2]
      · rw [if_neg c] at e2
        have hz := ih (i + 1) q r (by omega) (by omega) (by omega)
        rw [cl_wr_S, rf_wr_S]
        unfold fX11_wheelByWear_L2b fX12_wheelByWear_L2b
        simp (disch := omega) only [pu_OB, pu_LET, pu_OX0, pu_BND, pu_NZ, pu_BL, pu_m1, nI_add, pk_sub, pk_mul, pk_div, nI_clamp, pu_eq, pu_ne, pu_le_t, pu_le_f, pu_lt_t, pu_lt_f, pu_nm, pu_mm, pu_u2e, pu_u2n, ↓reduceIte, li0, li1, li2, li3, li4, li5, li6, li7, li8, li9, li10, li11, li12, li13, li14, li15, li16, li17, li18, li19, li20, li21, li22, li23, li24, li25, li26, li27, li28, li29, li30, li31, li32, li33, li34, li35, li36, li37, li38, li39, li40, li41, li42, li43, li44, li45, li46, li47, li48, li49, li50, li51, li52, li53, li54, li55, li56, li57, li58, li59, li60, li64, li72, li87, li97, li98, li99, li100, li101, li102, li103, li104, li105, li108, li109, li110, li111, li112, li114, li115, li116, li117, li119, li120, li124, li126, li132, li139, li140, li148, li156, li1000, li1092, li1248, e1, if_neg c, e2]
        exact hz
  rcases key 3 0 m m (by omega) (by omega) (by omega) with ⟨a, b⟩ | ⟨w, a, b⟩
  · exact q_x (c := 3) (k := 1) (r := 0) (r' := nI 0) h a b (by decide) (by omega) (by decide +kernel)
  · exact q_ok (r := nI w) h a b
end PR
