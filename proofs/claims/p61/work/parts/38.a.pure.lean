-- ===== the questions about wheels, bands and grades =====
section QS
variable {σ s : St} {m C : Nat} {T : List Nat}
-- the loops of the accounts
theorem cl_rls_S (k r : Nat) (x1 x2 x3 : Int32) (σ : St) : fX9_recordedLessShipped_L4 m k (r + 1) x1 x2 x3 σ = fX9_recordedLessShipped_L4b m k (fX9_recordedLessShipped_L4 m k r) x1 x2 x3 σ := rfl
theorem cl_row {b g : Nat} : fX9_row (nI b) (nI g) σ = some (nI (4 * b + g), σ) := by
  have e : b * 4 + g = 4 * b + g := by omega
  unfold fX9_row
  simp (disch := omega) only [pu_OB, pu_LET, pu_OX0, pu_BND, pu_NZ, pu_BL, pu_m1, nI_add, pk_sub, pk_mul, pk_div, nI_clamp, pu_eq, pu_ne, pu_le_t, pu_le_f, pu_lt_t, pu_lt_f, pu_nm, pu_mm, pu_u2e, pu_u2n, ↓reduceIte, li0, li1, li2, li3, li4, li5, li6, li7, li8, li9, li10, li11, li12, li13, li14, li15, li16, li17, li18, li19, li20, li21, li22, li23, li24, li25, li26, li27, li28, li29, li30, li31, li32, li33, li34, li35, li36, li37, li38, li39, li40, li41, li42, li43, li44, li45, li46, li47, li48, li49, li50, li51, li52, li53, li54, li55, li56, li57, li58, li59, li60, li64, li72, li87, li97, li98, li99, li100, li101, li102, li103, li104, li105, li108, li109, li110, li111, li112, li114, li115, li116, li117, li119, li120, li124, li126, li132, li139, li140, li148, li156, li1000, li1092, li1248, e]
theorem cl_rls {k g : Nat} {A : AM} {T' N' : Nat} (hF : 2000 ≤ m) (hC : CR σ k A) (hs : IS A.1 0 T' N') (hg : g < 4) : fX9_recordedLessShipped m (k + 7) (nI g) σ = some (nI (A.1 (28 + g)), σ) := by
  have hsum := (hs.2.2.2.1 g hg).2
  have e2 := hC.1.shipped hg
  have key : ∀ d n i x, i + d = 8 → d < n → fX9_recordedLessShipped_L4 m (k + 7) n (nI g) (nI x) (nI i) σ = some (nI (x + sumF (fun b => A.1 (32 + 4 * b + g)) i d) - nI (A.1 (24 + g) * 20), σ) := by
    intro d
    induction d with
    | zero =>
      intro n i x h1 h2
      obtain ⟨n, rfl⟩ : ∃ q, n = q + 1 := ⟨n - 1, by omega⟩
      rw [cl_rls_S]
      unfold fX9_recordedLessShipped_L4b
      rw [sumF_0, Nat.add_zero]
      simp (disch := omega) only [li8, li4, li20, pu_le_t, ↓reduceIte, pu_BND, nI_clamp, e2, pk_mul, Nat.add_zero]
    | succ d ih =>
      intro n i x h1 h2
      obtain ⟨n, rfl⟩ : ∃ q, n = q + 1 := ⟨n - 1, by omega⟩
      have e1 := hC.1.rec (show 4 * i + g < 32 by omega)
      rw [← Nat.add_assoc] at e1
      have hi := ih n (i + 1) (x + A.1 (32 + 4 * i + g)) (by omega) (by omega)
      rw [cl_rls_S, sumF_S, ← Nat.add_assoc]
      rw [← hi]
      unfold fX9_recordedLessShipped_L4b
      simp (disch := omega) only [li8, li1, pu_le_f, ↓reduceIte, cl_row, pu_OB, pu_BND, nI_clamp, e1, pu_LET, nI_add]
  have hk := key 8 m 0 0 (by omega) (by omega)
  unfold fX9_recordedLessShipped
  have e3 : nI (0 + sumF (fun b => A.1 (32 + 4 * b + g)) 0 8) - nI (A.1 (24 + g) * 20) = nI (A.1 (28 + g)) := by
    rw [pk_sub (by omega)]
    exact congrArg nI (by omega)
  rw [e3] at hk
  exact hk
theorem cl_ral_S (k r : Nat) (x1 x2 : Int32) (σ : St) : fX9_recordedAndLost_L7 m k (r + 1) x1 x2 σ = fX9_recordedAndLost_L7b m k (fX9_recordedAndLost_L7 m k r) x1 x2 σ := rfl
theorem cl_ral {k : Nat} {A : AM} {T' N' : Nat} (hF : 2000 ≤ m) (hC : CR σ k A) (hs : IS A.1 0 T' N') : fX9_recordedAndLost m (k + 7) σ = some (nI (A.1 3), σ) := by
  have hsum := hs.2.2.2.2
  have e2 := hC.1.sieved
  have e3 := hC.1.spilt
  have key : ∀ d n i x, i + d = 32 → d < n → fX9_recordedAndLost_L7 m (k + 7) n (nI x) (nI i) σ = some (nI (x + sumF (fun r => A.1 (32 + r)) i d), σ) := by
    intro d
    induction d with
    | zero =>
      intro n i x h1 h2
      obtain ⟨n, rfl⟩ : ∃ q, n = q + 1 := ⟨n - 1, by omega⟩
      simp (disch := omega) only [pu_OB, pu_LET, pu_OX0, pu_BND, pu_NZ, pu_BL, pu_m1, nI_add, pk_sub, pk_mul, pk_div, nI_clamp, pu_eq, pu_ne, pu_le_t, pu_le_f, pu_lt_t, pu_lt_f, pu_nm, pu_mm, pu_u2e, pu_u2n, ↓reduceIte, li0, li1, li2, li3, li4, li5, li6, li7, li8, li9, li10, li11, li12, li13, li14, li15, li16, li17, li18, li19, li20, li21, li22, li23, li24, li25, li26, li27, li28, li29, li30, li31, li32, li33, li34, li35, li36, li37, li38, li39, li40, li41, li42, li43, li44, li45, li46, li47, li48, li49, li50, li51, li52, li53, li54, li55, li56, li57, li58, li59, li60, li64, li72, li87, li97, li98, li99, li100, li101, li102, li103, li104, li105, li108, li109, li110, li111, li112, li114, li115, li116, li117, li119, li120, li124, li126, li132, li139, li140, li148, li156, li1000, li1092, li1248, cl_ral_S, fX9_recordedAndLost_L7b, sumF_0, Nat.add_zero]
    | succ d ih =>
      intro n i x h1 h2
      obtain ⟨n, rfl⟩ : ∃ q, n = q + 1 := ⟨n - 1, by omega⟩
      have e1 := hC.1.rec (show i < 32 by omega)
      rw [sumF_S, ← Nat.add_assoc]
      simp (disch := omega) only [pu_OB, pu_LET, pu_OX0, pu_BND, pu_NZ, pu_BL, pu_m1, nI_add, pk_sub, pk_mul, pk_div, nI_clamp, pu_eq, pu_ne, pu_le_t, pu_le_f, pu_lt_t, pu_lt_f, pu_nm, pu_mm, pu_u2e, pu_u2n, ↓reduceIte, li0, li1, li2, li3, li4, li5, li6, li7, li8, li9, li10, li11, li12, li13, li14, li15, li16, li17, li18, li19, li20, li21, li22, li23, li24, li25, li26, li27, li28, li29, li30, li31, li32, li33, li34, li35, li36, li37, li38, li39, li40, li41, li42, li43, li44, li45, li46, li47, li48, li49, li50, li51, li52, li53, li54, li55, li56, li57, li58, li59, li60, li64, li72, li87, li97, li98, li99, li100, li101, li102, li103, li104, li105, li108, li109, li110, li111, li112, li114, li115, li116, li117, li119, li120, li124, li126, li132, li139, li140, li148, li156, li1000, li1092, li1248, cl_ral_S, fX9_recordedAndLost_L7b, e1, ih n (i + 1)]
  have hk := key 32 m 0 (A.1 4 + A.1 5) (by omega) (by omega)
  rw [show A.1 4 + A.1 5 + sumF (fun r => A.1 (32 + r)) 0 32 = A.1 3 by omega] at hk
  unfold fX9_recordedAndLost fX9_lost
  simp (disch := omega) only [pu_OB, pu_LET, pu_OX0, pu_BND, pu_NZ, pu_BL, pu_m1, nI_add, pk_sub, pk_mul, pk_div, nI_clamp, pu_eq, pu_ne, pu_le_t, pu_le_f, pu_lt_t, pu_lt_f, pu_nm, pu_mm, pu_u2e, pu_u2n, ↓reduceIte, li0, li1, li2, li3, li4, li5, li6, li7, li8, li9, li10, li11, li12, li13, li14, li15, li16, li17, li18, li19, li20, li21, li22, li23, li24, li25, li26, li27, li28, li29, li30, li31, li32, li33, li34, li35, li36, li37, li38, li39, li40, li41, li42, li43, li44, li45, li46, li47, li48, li49, li50, li51, li52, li53, li54, li55, li56, li57, li58, li59, li60, li64, li72, li87, li97, li98, li99, li100, li101, li102, li103, li104, li105, li108, li109, li110, li111, li112, li114, li115, li116, li117, li119, li120, li124, li126, li132, li139, li140, li148, li156, li1000, li1092, li1248, e2, e3]
  exact hk
-- the log
theorem cl_logRow {A : AM} {p : Int32} (hS : SR σ 0 A.1) (h6 : A.1 6 < 2 ^ 30) : (∃ r, r < 8 ∧ r < A.1 6 ∧ p = nI r ∧ fX11_requireEntry p σ = some ((0, nI ((A.1 6 - 1 - r) % 8)), σ)) ∨ ((p < 0 ∨ nI 8 ≤ p ∨ nI (A.1 6) ≤ p) ∧ fX11_requireEntry p σ = some ((3, 0), σ)) := by
  have e1 := hS.done
  unfold fX11_requireEntry fX5_rowOf
  rcases rng0 p (n := 8) (by omega) with hp | ⟨r, hr, rfl⟩
  · refine Or.inr ⟨hp.imp id Or.inl, ?_⟩
    by_cases c : p < 0
    · rw [if_pos c]
      rfl
    · rw [if_neg c, if_pos (show (8 : Int32) ≤ p from hp.resolve_left c)]
      rfl
  · by_cases c : r < A.1 6
    · refine Or.inl ⟨r, hr, c, rfl, ?_⟩
      simp (disch := omega) only [pu_OB, pu_LET, pu_OX0, pu_BND, pu_NZ, pu_BL, pu_m1, nI_add, pk_sub, pk_mul, pk_div, nI_clamp, pu_eq, pu_ne, pu_le_t, pu_le_f, pu_lt_t, pu_lt_f, pu_nm, pu_mm, pu_u2e, pu_u2n, ↓reduceIte, li0, li1, li2, li3, li4, li5, li6, li7, li8, li9, li10, li11, li12, li13, li14, li15, li16, li17, li18, li19, li20, li21, li22, li23, li24, li25, li26, li27, li28, li29, li30, li31, li32, li33, li34, li35, li36, li37, li38, li39, li40, li41, li42, li43, li44, li45, li46, li47, li48, li49, li50, li51, li52, li53, li54, li55, li56, li57, li58, li59, li60, li64, li72, li87, li97, li98, li99, li100, li101, li102, li103, li104, li105, li108, li109, li110, li111, li112, li114, li115, li116, li117, li119, li120, li124, li126, li132, li139, li140, li148, li156, li1000, li1092, li1248, e1, cl_floorMod]
    · refine Or.inr ⟨Or.inr (Or.inr (nI_le (by omega) (by omega))), ?_⟩
      simp (disch := omega) only [pu_OB, pu_LET, pu_OX0, pu_BND, pu_NZ, pu_BL, pu_m1, nI_add, pk_sub, pk_mul, pk_div, nI_clamp, pu_eq, pu_ne, pu_le_t, pu_le_f, pu_lt_t, pu_lt_f, pu_nm, pu_mm, pu_u2e, pu_u2n, ↓reduceIte, li0, li1, li2, li3, li4, li5, li6, li7, li8, li9, li10, li11, li12, li13, li14, li15, li16, li17, li18, li19, li20, li21, li22, li23, li24, li25, li26, li27, li28, li29, li30, li31, li32, li33, li34, li35, li36, li37, li38, li39, li40, li41, li42, li43, li44, li45, li46, li47, li48, li49, li50, li51, li52, li53, li54, li55, li56, li57, li58, li59, li60, li64, li72, li87, li97, li98, li99, li100, li101, li102, li103, li104, li105, li108, li109, li110, li111, li112, li114, li115, li116, li117, li119, li120, li124, li126, li132, li139, li140, li148, li156, li1000, li1092, li1248, e1]
end QS

