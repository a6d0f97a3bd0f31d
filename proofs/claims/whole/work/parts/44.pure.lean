-- ===== mean loudness, share of lost grains =====
theorem sumF_map (f : E4 → Nat) (L : List E4) : sumF (fun j => f (L.getD j z4)) 0 L.length = (L.map f).sum := by
  induction L with
  | nil => rfl
  | cons a L ih =>
    rw [List.length_cons, sumF_S, sumF_shift, List.map_cons, List.sum_cons, ← ih]
    simp only [List.getD_cons_zero, List.getD_cons_succ]
theorem sum_filter (q : E4 → Bool) (f : E4 → Nat) (L : List E4) : ((L.filter q).map f).sum = (L.map fun e => if q e = true then f e else 0).sum := by
  induction L with
  | nil => rfl
  | cons a L ih =>
    rw [List.filter_cons, List.map_cons, List.sum_cons, ← ih]
    by_cases h : q a = true
    · rw [if_pos h, if_pos h, List.map_cons, List.sum_cons]
    · rw [if_neg h, if_neg h, Nat.zero_add]
/-- a float's call also says that what it answers is a number -/
def CASF (fc : Option ((Nat × UInt32) × St)) (fr : Option (UInt32 × St)) (codes : List Nat) (C : Nat) (T : List Nat) : Prop :=
  ∃ (c : Nat) (r : UInt32) (σ' : St) (r' : UInt32) (s' : St), fc = some ((c, r), σ') ∧ fr = some (r', s') ∧ (c = 0 ∨ c ∈ codes) ∧ s' 0 13 = hix codes c ∧ (c = 0 → r = r' ∧ vf_n32 r) ∧ GG σ' s' (C + 1) T
def CASD (fc : Option ((Nat × UInt64) × St)) (fr : Option (UInt64 × St)) (codes : List Nat) (C : Nat) (T : List Nat) : Prop :=
  ∃ (c : Nat) (r : UInt64) (σ' : St) (r' : UInt64) (s' : St), fc = some ((c, r), σ') ∧ fr = some (r', s') ∧ (c = 0 ∨ c ∈ codes) ∧ s' 0 13 = hix codes c ∧ (c = 0 → r = r' ∧ vf_n64 r) ∧ GG σ' s' (C + 1) T
theorem pu_ND {α : Type} {i : UInt64} {K : Option α} (h : vf_n64 i) : ND i K = K := if_pos h
theorem pu_NF {α : Type} {i : UInt32} {K : Option α} (h : vf_n32 i) : NF i K = K := if_pos h
section PR
variable {σ s : St} {m C : Nat} {T : List Nat}
theorem cl_wl_S (k r : Nat) (x1 x2 : Int32) (σ : St) : fX7_waitingLoudness_L4 m k (r + 1) x1 x2 σ = fX7_waitingLoudness_L4b m k (fX7_waitingLoudness_L4 m k r) x1 x2 σ := rfl
theorem rf_ml_S (r : Nat) (x1 x2 : Int32) (s : St) : fX12_meanLoudness_L4 m (r + 1) x1 x2 s = fX12_meanLoudness_L4b m (fX12_meanLoudness_L4 m r) x1 x2 s := rfl
theorem cl_wl {sc : Nat → Nat} {L W : List E4} {n : Nat} (hF : 2000 ≤ m) (hn : NRW σ n sc L W) (hl : W.length ≤ 12) : fX7_waitingLoudness m n σ = some (nI (0 + (W.map (·.2.2.1)).sum), σ) := by
  have h5 := hn.2.1
  have key : ∀ d r i x, i + d = W.length → d < r → fX7_waitingLoudness_L4 m n r (nI x) (nI i) σ = some (nI (x + sumF (fun j => (W.getD j z4).2.2.1) i d), σ) := by
    intro d
    induction d with
    | zero =>
      intro r i x h1 h2
      obtain ⟨r, rfl⟩ : ∃ q, r = q + 1 := ⟨r - 1, by omega⟩
      simp (disch := omega) only [pu_OB, pu_LET, pu_OX0, pu_BND, pu_NZ, pu_BL, pu_m1, nI_add, pk_sub, pk_mul, pk_div, nI_clamp, pu_eq, pu_ne, pu_le_t, pu_le_f, pu_lt_t, pu_lt_f, pu_nm, pu_mm, pu_u2e, pu_u2n, ↓reduceIte, li0, li1, li2, li3, li4, li5, li6, li7, li8, li9, li10, li11, li12, li13, li14, li15, li16, li17, li18, li19, li20, li21, li22, li23, li24, li25, li26, li27, li28, li29, li30, li31, li32, li33, li34, li35, li36, li37, li38, li39, li40, li41, li42, li43, li44, li45, li46, li47, li48, li49, li50, li51, li52, li53, li54, li55, li56, li57, li58, li59, li60, li64, li72, li87, li97, li98, li99, li100, li101, li102, li103, li104, li105, li108, li109, li110, li111, li112, li114, li115, li116, li117, li119, li120, li124, li126, li132, li139, li140, li148, li156, li1000, li1092, li1248, cl_wl_S, fX7_waitingLoudness_L4b, h5, sumF_0, Nat.add_zero]
    | succ d ih =>
      intro r i x h1 h2
      obtain ⟨r, rfl⟩ : ∃ q, r = q + 1 := ⟨r - 1, by omega⟩
      have e1 := (hn.2.2.1 i (by omega)).2.2.1
      rw [sumF_S, ← Nat.add_assoc]
      simp (disch := omega) only [pu_OB, pu_LET, pu_OX0, pu_BND, pu_NZ, pu_BL, pu_m1, nI_add, pk_sub, pk_mul, pk_div, nI_clamp, pu_eq, pu_ne, pu_le_t, pu_le_f, pu_lt_t, pu_lt_f, pu_nm, pu_mm, pu_u2e, pu_u2n, ↓reduceIte, li0, li1, li2, li3, li4, li5, li6, li7, li8, li9, li10, li11, li12, li13, li14, li15, li16, li17, li18, li19, li20, li21, li22, li23, li24, li25, li26, li27, li28, li29, li30, li31, li32, li33, li34, li35, li36, li37, li38, li39, li40, li41, li42, li43, li44, li45, li46, li47, li48, li49, li50, li51, li52, li53, li54, li55, li56, li57, li58, li59, li60, li64, li72, li87, li97, li98, li99, li100, li101, li102, li103, li104, li105, li108, li109, li110, li111, li112, li114, li115, li116, li117, li119, li120, li124, li126, li132, li139, li140, li148, li156, li1000, li1092, li1248, cl_wl_S, fX7_waitingLoudness_L4b, h5, e1, ih r (i + 1)]
  have h := key W.length m 0 0 (by omega) (by omega)
  rw [sumF_map (fun e => e.2.2.1)] at h
  exact h
theorem ca_meanLoudness (hF : 2000 ≤ m) (hC : C < 512) (h : GG σ s C T) : CASD (fX11_meanLoudness m σ) (fX12_meanLoudness m s) [6] C T := by
  have h0 := h
  obtain ⟨A, H, S, B, er, fl, ⟨g0, W, hn⟩, g2, g3, g4, g5, g6, g7, g8, g9⟩ := h0
  have hB := g5.B (by omega)
  have hlen : W.length ≤ 12 := by rw [hn.len]; exact g5.1.2.2.1
  have hl := g5.1.len
  have h5 := hn.2.1
  have hwl := hn.len
  have ew := rf_waiting hF g3.1 g3.2 g5.1 hB
  rw [← hwl] at ew
  have hN1 := g3.2.1
  have hsum : (W.map (·.2.2.1)).sum = (A.2.map fun e => if wt A.1 e = true then e.2.2.1 else 0).sum := by
    rw [(hn.1.map (·.2.2.1)).sum_nat, sum_filter]
  have hbound : (W.map (·.2.2.1)).sum ≤ 9 * 12 := by
    rw [← sumF_map (fun e => e.2.2.1) W]
    have := sumF_le (f := fun j => (W.getD j z4).2.2.1) (M := 9) (d := W.length) (i := 0) fun j _ hj => (g5.1.2.1 _ (hn.at (show j < W.length by omega)).1).2.2.2.1
    exact Nat.le_trans this (Nat.mul_le_mul_left 9 hlen)
  have key : ∀ d r i x, i + d = A.2.length → d < r → fX12_meanLoudness_L4 m r (nI x) (nI i) s = if W.length = 0 then fX12_meanLoudness_B57 m (nI (x + sumF (fun j => if wt A.1 (A.2.getD j z4) = true then (A.2.getD j z4).2.2.1 else 0) i d)) (nI 1) s else fX12_meanLoudness_B57 m (nI (x + sumF (fun j => if wt A.1 (A.2.getD j z4) = true then (A.2.getD j z4).2.2.1 else 0) i d)) (nI 0) s := by
    intro d
    induction d with
    | zero =>
      intro r i x h1 h2
      obtain ⟨r, rfl⟩ : ∃ q, r = q + 1 := ⟨r - 1, by omega⟩
      by_cases c : W.length = 0
      · simp (disch := omega) only [pu_OB, pu_LET, pu_OX0, pu_BND, pu_NZ, pu_BL, pu_m1, nI_add, pk_sub, pk_mul, pk_div, nI_clamp, pu_eq, pu_ne, pu_le_t, pu_le_f, pu_lt_t, pu_lt_f, pu_nm, pu_mm, pu_u2e, pu_u2n, ↓reduceIte, li0, li1, li2, li3, li4, li5, li6, li7, li8, li9, li10, li11, li12, li13, li14, li15, li16, li17, li18, li19, li20, li21, li22, li23, li24, li25, li26, li27, li28, li29, li30, li31, li32, li33, li34, li35, li36, li37, li38, li39, li40, li41, li42, li43, li44, li45, li46, li47, li48, li49, li50, li51, li52, li53, li54, li55, li56, li57, li58, li59, li60, li64, li72, li87, li97, li98, li99, li100, li101, li102, li103, li104, li105, li108, li109, li110, li111, li112, li114, li115, li116, li117, li119, li120, li124, li126, li132, li139, li140, li148, li156, li1000, li1092, li1248, rf_ml_S, fX12_meanLoudness_L4b, hN1, ew, sumF_0, Nat.add_zero, if_pos c]
      · simp (disch := omega) only [pu_OB, pu_LET, pu_OX0, pu_BND, pu_NZ, pu_BL, pu_m1, nI_add, pk_sub, pk_mul, pk_div, nI_clamp, pu_eq, pu_ne, pu_le_t, pu_le_f, pu_lt_t, pu_lt_f, pu_nm, pu_mm, pu_u2e, pu_u2n, ↓reduceIte, li0, li1, li2, li3, li4, li5, li6, li7, li8, li9, li10, li11, li12, li13, li14, li15, li16, li17, li18, li19, li20, li21, li22, li23, li24, li25, li26, li27, li28, li29, li30, li31, li32, li33, li34, li35, li36, li37, li38, li39, li40, li41, li42, li43, li44, li45, li46, li47, li48, li49, li50, li51, li52, li53, li54, li55, li56, li57, li58, li59, li60, li64, li72, li87, li97, li98, li99, li100, li101, li102, li103, li104, li105, li108, li109, li110, li111, li112, li114, li115, li116, li117, li119, li120, li124, li126, li132, li139, li140, li148, li156, li1000, li1092, li1248, rf_ml_S, fX12_meanLoudness_L4b, hN1, ew, sumF_0, Nat.add_zero, if_neg c]
    | succ d ih =>
      intro r i x h1 h2
      obtain ⟨r, rfl⟩ : ∃ q, r = q + 1 := ⟨r - 1, by omega⟩
      have hi : i < A.2.length := by omega
      have e1 := (g3.2.2 i hi).2.2.1
      rw [sumF_S, ← Nat.add_assoc]
      by_cases hw : wt A.1 (A.2.getD i z4) = true
      · rw [if_pos hw]
        simp (disch := omega) only [pu_OB, pu_LET, pu_OX0, pu_BND, pu_NZ, pu_BL, pu_m1, nI_add, pk_sub, pk_mul, pk_div, nI_clamp, pu_eq, pu_ne, pu_le_t, pu_le_f, pu_lt_t, pu_lt_f, pu_nm, pu_mm, pu_u2e, pu_u2n, ↓reduceIte, li0, li1, li2, li3, li4, li5, li6, li7, li8, li9, li10, li11, li12, li13, li14, li15, li16, li17, li18, li19, li20, li21, li22, li23, li24, li25, li26, li27, li28, li29, li30, li31, li32, li33, li34, li35, li36, li37, li38, li39, li40, li41, li42, li43, li44, li45, li46, li47, li48, li49, li50, li51, li52, li53, li54, li55, li56, li57, li58, li59, li60, li64, li72, li87, li97, li98, li99, li100, li101, li102, li103, li104, li105, li108, li109, li110, li111, li112, li114, li115, li116, li117, li119, li120, li124, li126, li132, li139, li140, li148, li156, li1000, li1092, li1248, rf_ml_S, fX12_meanLoudness_L4b, fX12_meanLoudness_B36, hN1, rf_waits_t hF g3.1 g3.2 g5.1 hB hi hw, e1, ih r (i + 1)]
      · rw [if_neg hw]
        simp (disch := omega) only [pu_OB, pu_LET, pu_OX0, pu_BND, pu_NZ, pu_BL, pu_m1, nI_add, pk_sub, pk_mul, pk_div, nI_clamp, pu_eq, pu_ne, pu_le_t, pu_le_f, pu_lt_t, pu_lt_f, pu_nm, pu_mm, pu_u2e, pu_u2n, ↓reduceIte, li0, li1, li2, li3, li4, li5, li6, li7, li8, li9, li10, li11, li12, li13, li14, li15, li16, li17, li18, li19, li20, li21, li22, li23, li24, li25, li26, li27, li28, li29, li30, li31, li32, li33, li34, li35, li36, li37, li38, li39, li40, li41, li42, li43, li44, li45, li46, li47, li48, li49, li50, li51, li52, li53, li54, li55, li56, li57, li58, li59, li60, li64, li72, li87, li97, li98, li99, li100, li101, li102, li103, li104, li105, li108, li109, li110, li111, li112, li114, li115, li116, li117, li119, li120, li124, li126, li132, li139, li140, li148, li156, li1000, li1092, li1248, rf_ml_S, fX12_meanLoudness_L4b, fX12_meanLoudness_B36, hN1, rf_waits_f hF g3.1 g3.2 g5.1 hB hi (Bool.eq_false_iff.mpr hw), ih r (i + 1), Nat.add_zero]
  have hk := key A.2.length m 0 0 (by omega) (by omega)
  rw [sumF_map (fun e => if wt A.1 e = true then e.2.2.1 else 0), ← hsum] at hk
  have hc := cl_wl (m := m) hF hn hlen
  by_cases c : W.length = 0
  · rw [if_pos c] at hk
    rw [c] at h5
    refine ⟨6, 0, σ, 0, u2 s 0 13 (nI 1), ?_, ?_, Or.inr (by decide), ?_, fun h => by omega, h.th⟩
    · unfold fX11_meanLoudness
      simp (disch := omega) only [pu_OB, pu_LET, pu_OX0, pu_BND, pu_NZ, pu_BL, pu_m1, nI_add, pk_sub, pk_mul, pk_div, nI_clamp, pu_eq, pu_ne, pu_le_t, pu_le_f, pu_lt_t, pu_lt_f, pu_nm, pu_mm, pu_u2e, pu_u2n, ↓reduceIte, li0, li1, li2, li3, li4, li5, li6, li7, li8, li9, li10, li11, li12, li13, li14, li15, li16, li17, li18, li19, li20, li21, li22, li23, li24, li25, li26, li27, li28, li29, li30, li31, li32, li33, li34, li35, li36, li37, li38, li39, li40, li41, li42, li43, li44, li45, li46, li47, li48, li49, li50, li51, li52, li53, li54, li55, li56, li57, li58, li59, li60, li64, li72, li87, li97, li98, li99, li100, li101, li102, li103, li104, li105, li108, li109, li110, li111, li112, li114, li115, li116, li117, li119, li120, li124, li126, li132, li139, li140, li148, li156, li1000, li1092, li1248, h5]
    · refine hk.trans ?_
      unfold fX12_meanLoudness_B57
      simp (disch := omega) only [pu_OB, pu_LET, pu_OX0, pu_BND, pu_NZ, pu_BL, pu_m1, nI_add, pk_sub, pk_mul, pk_div, nI_clamp, pu_eq, pu_ne, pu_le_t, pu_le_f, pu_lt_t, pu_lt_f, pu_nm, pu_mm, pu_u2e, pu_u2n, ↓reduceIte, li0, li1, li2, li3, li4, li5, li6, li7, li8, li9, li10, li11, li12, li13, li14, li15, li16, li17, li18, li19, li20, li21, li22, li23, li24, li25, li26, li27, li28, li29, li30, li31, li32, li33, li34, li35, li36, li37, li38, li39, li40, li41, li42, li43, li44, li45, li46, li47, li48, li49, li50, li51, li52, li53, li54, li55, li56, li57, li58, li59, li60, li64, li72, li87, li97, li98, li99, li100, li101, li102, li103, li104, li105, li108, li109, li110, li111, li112, li114, li115, li116, li117, li119, li120, li124, li126, li132, li139, li140, li148, li156, li1000, li1092, li1248]
    · rw [pu_u2e ⟨rfl, rfl⟩]
      decide +kernel
  · rw [if_neg c] at hk
    have hnn := nn_ddiv (a := 0 + (W.map (·.2.2.1)).sum) (b := W.length) (by omega) (by omega) c
    have hS' : SM (u2 s 0 13 (nI 0)) 1 A.1 := g3.1.other (pu_u2r (by omega))
    have hN' : NM (u2 s 0 13 (nI 0)) 1 A.2 := g3.2.other (pu_u2r (by omega))
    have ew' := rf_waiting hF hS' hN' g5.1 hB
    rw [← hwl] at ew'
    refine ⟨0, _, σ, _, u2 s 0 13 (nI 0), ?_, ?_, Or.inl rfl, ?_, fun _ => ⟨rfl, hnn⟩, h.th⟩
    · unfold fX11_meanLoudness
      simp (disch := omega) only [pu_OB, pu_LET, pu_OX0, pu_BND, pu_NZ, pu_BL, pu_m1, nI_add, pk_sub, pk_mul, pk_div, nI_clamp, pu_eq, pu_ne, pu_le_t, pu_le_f, pu_lt_t, pu_lt_f, pu_nm, pu_mm, pu_u2e, pu_u2n, ↓reduceIte, li0, li1, li2, li3, li4, li5, li6, li7, li8, li9, li10, li11, li12, li13, li14, li15, li16, li17, li18, li19, li20, li21, li22, li23, li24, li25, li26, li27, li28, li29, li30, li31, li32, li33, li34, li35, li36, li37, li38, li39, li40, li41, li42, li43, li44, li45, li46, li47, li48, li49, li50, li51, li52, li53, li54, li55, li56, li57, li58, li59, li60, li64, li72, li87, li97, li98, li99, li100, li101, li102, li103, li104, li105, li108, li109, li110, li111, li112, li114, li115, li116, li117, li119, li120, li124, li126, li132, li139, li140, li148, li156, li1000, li1092, li1248, h5, hc]
      exact pu_ND hnn
    · refine hk.trans ?_
      unfold fX12_meanLoudness_B57
      simp (disch := omega) only [pu_OB, pu_LET, pu_OX0, pu_BND, pu_NZ, pu_BL, pu_m1, nI_add, pk_sub, pk_mul, pk_div, nI_clamp, pu_eq, pu_ne, pu_le_t, pu_le_f, pu_lt_t, pu_lt_f, pu_nm, pu_mm, pu_u2e, pu_u2n, ↓reduceIte, li0, li1, li2, li3, li4, li5, li6, li7, li8, li9, li10, li11, li12, li13, li14, li15, li16, li17, li18, li19, li20, li21, li22, li23, li24, li25, li26, li27, li28, li29, li30, li31, li32, li33, li34, li35, li36, li37, li38, li39, li40, li41, li42, li43, li44, li45, li46, li47, li48, li49, li50, li51, li52, li53, li54, li55, li56, li57, li58, li59, li60, li64, li72, li87, li97, li98, li99, li100, li101, li102, li103, li104, li105, li108, li109, li110, li111, li112, li114, li115, li116, li117, li119, li120, li124, li126, li132, li139, li140, li148, li156, li1000, li1092, li1248, ew']
      exact pu_ND hnn
    · rw [pu_u2e ⟨rfl, rfl⟩]
      decide +kernel
theorem ca_lostShare (hC : C < 512) (h : GG σ s C T) : CASF (fX11_lostShare σ) (fX12_lostShare s) [6] C T := by
  have h0 := h
  obtain ⟨A, H, S, B, er, fl, g1, g2, g3, g4, g5, g6, g7, g8, g9⟩ := h0
  have hb1 := g5.2.1
  have hb2 := g5.2.2.2.2.2
  have e3 := g1.1.ground
  have e4 := g1.1.sieved
  have e5 := g1.1.spilt
  have r3 : s 1 3 = nI (A.1 3) := g3.1 _ (by omega) (by omega) (by omega)
  have r4 : s 1 4 = nI (A.1 4) := g3.1 _ (by omega) (by omega) (by omega)
  have r5 : s 1 5 = nI (A.1 5) := g3.1 _ (by omega) (by omega) (by omega)
  by_cases c : A.1 3 = 0
  · refine ⟨6, 0, σ, 0, u2 s 0 13 (nI 1), ?_, ?_, Or.inr (by decide), ?_, fun h => by omega, h.th⟩
    · unfold fX11_lostShare
      simp (disch := omega) only [pu_OB, pu_LET, pu_OX0, pu_BND, pu_NZ, pu_BL, pu_m1, nI_add, pk_sub, pk_mul, pk_div, nI_clamp, pu_eq, pu_ne, pu_le_t, pu_le_f, pu_lt_t, pu_lt_f, pu_nm, pu_mm, pu_u2e, pu_u2n, ↓reduceIte, li0, li1, li2, li3, li4, li5, li6, li7, li8, li9, li10, li11, li12, li13, li14, li15, li16, li17, li18, li19, li20, li21, li22, li23, li24, li25, li26, li27, li28, li29, li30, li31, li32, li33, li34, li35, li36, li37, li38, li39, li40, li41, li42, li43, li44, li45, li46, li47, li48, li49, li50, li51, li52, li53, li54, li55, li56, li57, li58, li59, li60, li64, li72, li87, li97, li98, li99, li100, li101, li102, li103, li104, li105, li108, li109, li110, li111, li112, li114, li115, li116, li117, li119, li120, li124, li126, li132, li139, li140, li148, li156, li1000, li1092, li1248, e3]
    · unfold fX12_lostShare fX12_lostShare_B15
      simp (disch := omega) only [pu_OB, pu_LET, pu_OX0, pu_BND, pu_NZ, pu_BL, pu_m1, nI_add, pk_sub, pk_mul, pk_div, nI_clamp, pu_eq, pu_ne, pu_le_t, pu_le_f, pu_lt_t, pu_lt_f, pu_nm, pu_mm, pu_u2e, pu_u2n, ↓reduceIte, li0, li1, li2, li3, li4, li5, li6, li7, li8, li9, li10, li11, li12, li13, li14, li15, li16, li17, li18, li19, li20, li21, li22, li23, li24, li25, li26, li27, li28, li29, li30, li31, li32, li33, li34, li35, li36, li37, li38, li39, li40, li41, li42, li43, li44, li45, li46, li47, li48, li49, li50, li51, li52, li53, li54, li55, li56, li57, li58, li59, li60, li64, li72, li87, li97, li98, li99, li100, li101, li102, li103, li104, li105, li108, li109, li110, li111, li112, li114, li115, li116, li117, li119, li120, li124, li126, li132, li139, li140, li148, li156, li1000, li1092, li1248, r3]
    · rw [pu_u2e ⟨rfl, rfl⟩]
      decide +kernel
  · have hnn := nn_fdiv (a := A.1 4 + A.1 5) (b := A.1 3) (by omega) (by omega) c
    refine ⟨0, _, σ, _, u2 s 0 13 (nI 0), ?_, ?_, Or.inl rfl, ?_, fun _ => ⟨rfl, hnn⟩, h.th⟩
    · unfold fX11_lostShare fX9_lost
      simp (disch := omega) only [pu_OB, pu_LET, pu_OX0, pu_BND, pu_NZ, pu_BL, pu_m1, nI_add, pk_sub, pk_mul, pk_div, nI_clamp, pu_eq, pu_ne, pu_le_t, pu_le_f, pu_lt_t, pu_lt_f, pu_nm, pu_mm, pu_u2e, pu_u2n, ↓reduceIte, li0, li1, li2, li3, li4, li5, li6, li7, li8, li9, li10, li11, li12, li13, li14, li15, li16, li17, li18, li19, li20, li21, li22, li23, li24, li25, li26, li27, li28, li29, li30, li31, li32, li33, li34, li35, li36, li37, li38, li39, li40, li41, li42, li43, li44, li45, li46, li47, li48, li49, li50, li51, li52, li53, li54, li55, li56, li57, li58, li59, li60, li64, li72, li87, li97, li98, li99, li100, li101, li102, li103, li104, li105, li108, li109, li110, li111, li112, li114, li115, li116, li117, li119, li120, li124, li126, li132, li139, li140, li148, li156, li1000, li1092, li1248, e3, e4, e5]
      exact pu_NF hnn
    · unfold fX12_lostShare fX12_lostShare_B15
      simp (disch := omega) only [pu_OB, pu_LET, pu_OX0, pu_BND, pu_NZ, pu_BL, pu_m1, nI_add, pk_sub, pk_mul, pk_div, nI_clamp, pu_eq, pu_ne, pu_le_t, pu_le_f, pu_lt_t, pu_lt_f, pu_nm, pu_mm, pu_u2e, pu_u2n, ↓reduceIte, li0, li1, li2, li3, li4, li5, li6, li7, li8, li9, li10, li11, li12, li13, li14, li15, li16, li17, li18, li19, li20, li21, li22, li23, li24, li25, li26, li27, li28, li29, li30, li31, li32, li33, li34, li35, li36, li37, li38, li39, li40, li41, li42, li43, li44, li45, li46, li47, li48, li49, li50, li51, li52, li53, li54, li55, li56, li57, li58, li59, li60, li64, li72, li87, li97, li98, li99, li100, li101, li102, li103, li104, li105, li108, li109, li110, li111, li112, li114, li115, li116, li117, li119, li120, li124, li126, li132, li139, li140, li148, li156, li1000, li1092, li1248, r3, r4, r5]
      exact pu_NF hnn
    · rw [pu_u2e ⟨rfl, rfl⟩]
      decide +kernel
end PR
