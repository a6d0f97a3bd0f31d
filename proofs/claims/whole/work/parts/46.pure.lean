-- ===== a script's command carried out on both sides =====
/-- a change asked of a mill k and of the reference: both do it, or both refuse it -/
def EX (k : Nat) (fo opc opr : St → Option (Int32 × St)) (σ s : St) (X : AM) (T N : Nat) : Prop :=
  (fo σ = some (nI 0, σ) ∧ ∃ (Y : AM) (r : Int32) (τ : St), opc σ = some (r, τ) ∧ CR τ k Y ∧ (∀ c, c < k ∨ k + 19 ≤ c → τ c = σ c) ∧ (∃ r', RO (opr s) s r' 0 Y) ∧ IN Y.1 Y.2 ∧ IS Y.1 0 (T + 40) (N + 1)) ∨
  ∃ f j, 0 < f ∧ f < 6 ∧ 0 < j ∧ j < 100 ∧ fo σ = some (nI f, σ) ∧ RO (opr s) s (nI 0) j X
theorem IS.more {sc : Nat → Nat} {T N T' N' : Nat} (h : IS sc 0 T N) (hT : T ≤ T') (hN : N ≤ N') : IS sc 0 T' N' := ⟨by have := h.1; omega, h.2⟩
section EXS
variable {σ s : St} {m k : Nat} {X : AM} {T N : Nat}
theorem ex_gear (hC : CR σ k X) (hS : SM s 1 X.1) (hM : NM s 1 X.2) (hI : IN X.1 X.2) (hs : IS X.1 0 T N) (p q : Int32) : EX k (fX6_faultOfGear p q) (fX6_changeGear k p q) (fX12_gears p q) σ s X T N := by
  have hl := hI.len
  rcases rng0 p (n := 3) (by omega) with hp | ⟨w, hw, rfl⟩
  · refine Or.inr ⟨1, 1, by omega, by omega, by omega, by omega, ?_, rf_gears_x1 hS hM hp⟩
    unfold fX6_faultOfGear
    simp (disch := omega) only [pu_OB, pu_LET, pu_OX0, pu_BND, pu_NZ, pu_BL, pu_m1, nI_add, pk_sub, pk_mul, pk_div, nI_clamp, pu_eq, pu_ne, pu_le_t, pu_le_f, pu_lt_t, pu_lt_f, pu_nm, pu_mm, pu_u2e, pu_u2n, ↓reduceIte, li0, li1, li2, li3, li4, li5, li6, li7, li8, li9, li10, li11, li12, li13, li14, li15, li16, li17, li18, li19, li20, li21, li22, li23, li24, li25, li26, li27, li28, li29, li30, li31, li32, li33, li34, li35, li36, li37, li38, li39, li40, li41, li42, li43, li44, li45, li46, li47, li48, li49, li50, li51, li52, li53, li54, li55, li56, li57, li58, li59, li60, li64, li72, li87, li97, li98, li99, li100, li101, li102, li103, li104, li105, li108, li109, li110, li111, li112, li114, li115, li116, li117, li119, li120, li124, li126, li132, li139, li140, li148, li156, li1000, li1092, li1248, cl_isWheel_x hp]
  · rcases rng1 q (n := 5) (by omega) with hq | ⟨g, hg1, hg2, rfl⟩
    · refine Or.inr ⟨2, 2, by omega, by omega, by omega, by omega, ?_, rf_gears_x2 hS hM hw hq⟩
      have e : fX12_in q (nI 1) (nI 5) σ = some (nI 0, σ) := rf_in_bad (lo := 1) (hi := 5) hq (by omega)
      unfold fX6_faultOfGear
      simp (disch := omega) only [pu_OB, pu_LET, pu_OX0, pu_BND, pu_NZ, pu_BL, pu_m1, nI_add, pk_sub, pk_mul, pk_div, nI_clamp, pu_eq, pu_ne, pu_le_t, pu_le_f, pu_lt_t, pu_lt_f, pu_nm, pu_mm, pu_u2e, pu_u2n, ↓reduceIte, li0, li1, li2, li3, li4, li5, li6, li7, li8, li9, li10, li11, li12, li13, li14, li15, li16, li17, li18, li19, li20, li21, li22, li23, li24, li25, li26, li27, li28, li29, li30, li31, li32, li33, li34, li35, li36, li37, li38, li39, li40, li41, li42, li43, li44, li45, li46, li47, li48, li49, li50, li51, li52, li53, li54, li55, li56, li57, li58, li59, li60, li64, li72, li87, li97, li98, li99, li100, li101, li102, li103, li104, li105, li108, li109, li110, li111, li112, li114, li115, li116, li117, li119, li120, li124, li126, li132, li139, li140, li148, li156, li1000, li1092, li1248, cl_isWheel hw, cl_within, e]
    · have hv := vg_gear hI hs hw ⟨hg1, hg2⟩
      refine Or.inl ⟨?_, _, _, _, (cl_gear hC hw).1, (cl_gear hC hw).2, fun c hc => pu_u2r (by omega), ⟨_, rf_gears hS hM hl hw ⟨hg1, hg2⟩⟩, hv.1, hv.2.more (by omega) (by omega)⟩
      unfold fX6_faultOfGear
      simp (disch := omega) only [pu_OB, pu_LET, pu_OX0, pu_BND, pu_NZ, pu_BL, pu_m1, nI_add, pk_sub, pk_mul, pk_div, nI_clamp, pu_eq, pu_ne, pu_le_t, pu_le_f, pu_lt_t, pu_lt_f, pu_nm, pu_mm, pu_u2e, pu_u2n, ↓reduceIte, li0, li1, li2, li3, li4, li5, li6, li7, li8, li9, li10, li11, li12, li13, li14, li15, li16, li17, li18, li19, li20, li21, li22, li23, li24, li25, li26, li27, li28, li29, li30, li31, li32, li33, li34, li35, li36, li37, li38, li39, li40, li41, li42, li43, li44, li45, li46, li47, li48, li49, li50, li51, li52, li53, li54, li55, li56, li57, li58, li59, li60, li64, li72, li87, li97, li98, li99, li100, li101, li102, li103, li104, li105, li108, li109, li110, li111, li112, li114, li115, li116, li117, li119, li120, li124, li126, li132, li139, li140, li148, li156, li1000, li1092, li1248, cl_isWheel hw, cl_within, rf_in_good]
theorem ex_mesh (hC : CR σ k X) (hS : SM s 1 X.1) (hM : NM s 1 X.2) (hI : IN X.1 X.2) (hs : IS X.1 0 T N) (p q : Int32) : EX k (fX6_faultOfMesh p q) (fX6_changeMesh k p q) (fX12_meshes p q) σ s X T N := by
  have hl := hI.len
  rcases rng0 p (n := 8) (by omega) with hp | ⟨w, hw, rfl⟩
  · refine Or.inr ⟨2, 1, by omega, by omega, by omega, by omega, ?_, rf_meshes_x hS hM (Or.inl hp)⟩
    unfold fX6_faultOfMesh
    simp (disch := omega) only [pu_OB, pu_LET, pu_OX0, pu_BND, pu_NZ, pu_BL, pu_m1, nI_add, pk_sub, pk_mul, pk_div, nI_clamp, pu_eq, pu_ne, pu_le_t, pu_le_f, pu_lt_t, pu_lt_f, pu_nm, pu_mm, pu_u2e, pu_u2n, ↓reduceIte, li0, li1, li2, li3, li4, li5, li6, li7, li8, li9, li10, li11, li12, li13, li14, li15, li16, li17, li18, li19, li20, li21, li22, li23, li24, li25, li26, li27, li28, li29, li30, li31, li32, li33, li34, li35, li36, li37, li38, li39, li40, li41, li42, li43, li44, li45, li46, li47, li48, li49, li50, li51, li52, li53, li54, li55, li56, li57, li58, li59, li60, li64, li72, li87, li97, li98, li99, li100, li101, li102, li103, li104, li105, li108, li109, li110, li111, li112, li114, li115, li116, li117, li119, li120, li124, li126, li132, li139, li140, li148, li156, li1000, li1092, li1248, cl_isBand_x hp]
  · rcases rng0 q (n := 10) (by omega) with hq | ⟨g, hg, rfl⟩
    · refine Or.inr ⟨2, 1, by omega, by omega, by omega, by omega, ?_, rf_meshes_x hS hM (Or.inr hq)⟩
      have e : fX12_in q (nI 0) (nI 9) σ = some (nI 0, σ) := rf_in_bad (lo := 0) (hi := 9) hq (by omega)
      unfold fX6_faultOfMesh
      simp (disch := omega) only [pu_OB, pu_LET, pu_OX0, pu_BND, pu_NZ, pu_BL, pu_m1, nI_add, pk_sub, pk_mul, pk_div, nI_clamp, pu_eq, pu_ne, pu_le_t, pu_le_f, pu_lt_t, pu_lt_f, pu_nm, pu_mm, pu_u2e, pu_u2n, ↓reduceIte, li0, li1, li2, li3, li4, li5, li6, li7, li8, li9, li10, li11, li12, li13, li14, li15, li16, li17, li18, li19, li20, li21, li22, li23, li24, li25, li26, li27, li28, li29, li30, li31, li32, li33, li34, li35, li36, li37, li38, li39, li40, li41, li42, li43, li44, li45, li46, li47, li48, li49, li50, li51, li52, li53, li54, li55, li56, li57, li58, li59, li60, li64, li72, li87, li97, li98, li99, li100, li101, li102, li103, li104, li105, li108, li109, li110, li111, li112, li114, li115, li116, li117, li119, li120, li124, li126, li132, li139, li140, li148, li156, li1000, li1092, li1248, cl_isBand hw, cl_within, e]
    · have hv := vg_mesh hI hs hw hg
      refine Or.inl ⟨?_, _, _, _, (cl_mesh hC hw).1, (cl_mesh hC hw).2, fun c hc => pu_u2r (by omega), ⟨_, rf_meshes hS hM hl hw hg⟩, hv.1, hv.2.more (by omega) (by omega)⟩
      unfold fX6_faultOfMesh
      simp (disch := omega) only [pu_OB, pu_LET, pu_OX0, pu_BND, pu_NZ, pu_BL, pu_m1, nI_add, pk_sub, pk_mul, pk_div, nI_clamp, pu_eq, pu_ne, pu_le_t, pu_le_f, pu_lt_t, pu_lt_f, pu_nm, pu_mm, pu_u2e, pu_u2n, ↓reduceIte, li0, li1, li2, li3, li4, li5, li6, li7, li8, li9, li10, li11, li12, li13, li14, li15, li16, li17, li18, li19, li20, li21, li22, li23, li24, li25, li26, li27, li28, li29, li30, li31, li32, li33, li34, li35, li36, li37, li38, li39, li40, li41, li42, li43, li44, li45, li46, li47, li48, li49, li50, li51, li52, li53, li54, li55, li56, li57, li58, li59, li60, li64, li72, li87, li97, li98, li99, li100, li101, li102, li103, li104, li105, li108, li109, li110, li111, li112, li114, li115, li116, li117, li119, li120, li124, li126, li132, li139, li140, li148, li156, li1000, li1092, li1248, cl_isBand hw, cl_within, rf_in_good]
theorem ex_clear (hC : CR σ k X) (hS : SM s 1 X.1) (hM : NM s 1 X.2) (hI : IN X.1 X.2) (hs : IS X.1 0 T N) (p : Int32) : EX k (fX6_faultOfClearing p) (fX6_clear k p) (fX12_clears p) σ s X T N := by
  have hl := hI.len
  rcases rng0 p (n := 3) (by omega) with hp | ⟨w, hw, rfl⟩
  · refine Or.inr ⟨1, 1, by omega, by omega, by omega, by omega, ?_, rf_clears_x hS hM hp⟩
    unfold fX6_faultOfClearing
    simp (disch := omega) only [pu_OB, pu_LET, pu_OX0, pu_BND, pu_NZ, pu_BL, pu_m1, nI_add, pk_sub, pk_mul, pk_div, nI_clamp, pu_eq, pu_ne, pu_le_t, pu_le_f, pu_lt_t, pu_lt_f, pu_nm, pu_mm, pu_u2e, pu_u2n, ↓reduceIte, li0, li1, li2, li3, li4, li5, li6, li7, li8, li9, li10, li11, li12, li13, li14, li15, li16, li17, li18, li19, li20, li21, li22, li23, li24, li25, li26, li27, li28, li29, li30, li31, li32, li33, li34, li35, li36, li37, li38, li39, li40, li41, li42, li43, li44, li45, li46, li47, li48, li49, li50, li51, li52, li53, li54, li55, li56, li57, li58, li59, li60, li64, li72, li87, li97, li98, li99, li100, li101, li102, li103, li104, li105, li108, li109, li110, li111, li112, li114, li115, li116, li117, li119, li120, li124, li126, li132, li139, li140, li148, li156, li1000, li1092, li1248, cl_isWheel_x hp]
  · have hv := vg_wear hI hs hw
    refine Or.inl ⟨?_, _, _, _, (cl_clear hC hw).1, (cl_clear hC hw).2, fun c hc => pu_u2r (by omega), ⟨_, rf_clears hS hM hl hw⟩, hv.1, hv.2.more (by omega) (by omega)⟩
    unfold fX6_faultOfClearing
    simp (disch := omega) only [pu_OB, pu_LET, pu_OX0, pu_BND, pu_NZ, pu_BL, pu_m1, nI_add, pk_sub, pk_mul, pk_div, nI_clamp, pu_eq, pu_ne, pu_le_t, pu_le_f, pu_lt_t, pu_lt_f, pu_nm, pu_mm, pu_u2e, pu_u2n, ↓reduceIte, li0, li1, li2, li3, li4, li5, li6, li7, li8, li9, li10, li11, li12, li13, li14, li15, li16, li17, li18, li19, li20, li21, li22, li23, li24, li25, li26, li27, li28, li29, li30, li31, li32, li33, li34, li35, li36, li37, li38, li39, li40, li41, li42, li43, li44, li45, li46, li47, li48, li49, li50, li51, li52, li53, li54, li55, li56, li57, li58, li59, li60, li64, li72, li87, li97, li98, li99, li100, li101, li102, li103, li104, li105, li108, li109, li110, li111, li112, li114, li115, li116, li117, li119, li120, li124, li126, li132, li139, li140, li148, li156, li1000, li1092, li1248, cl_isWheel hw]
theorem ex_add (hF : 2000 ≤ m) (hC : CR σ k X) (hS : SM s 1 X.1) (hM : NM s 1 X.2) (hI : IN X.1 X.2) (hs : IS X.1 0 T N) (hNN : N < 10 ^ 7) (p q r : Int32) : EX k (fX6_faultOfAdding k p q r) (fX6_add k p q r) (fX12_adds m p q r) σ s X T N := by
  have bad : (p < 0 ∨ nI 8 ≤ p) ∨ (q < 1 ∨ nI 10 ≤ q) ∨ (r < 1 ∨ nI 61 ≤ r) → EX k (fX6_faultOfAdding k p q r) (fX6_add k p q r) (fX12_adds m p q r) σ s X T N := fun hbad => by
    refine Or.inr ⟨2, 1, by omega, by omega, by omega, by omega, ?_, rf_adds_x hS hM hbad⟩
    unfold fX6_faultOfAdding
    rcases rng0 p (n := 8) (by omega) with hp | ⟨b, hb9, rfl⟩
    · simp (disch := omega) only [pu_OB, pu_LET, pu_OX0, pu_BND, pu_NZ, pu_BL, pu_m1, nI_add, pk_sub, pk_mul, pk_div, nI_clamp, pu_eq, pu_ne, pu_le_t, pu_le_f, pu_lt_t, pu_lt_f, pu_nm, pu_mm, pu_u2e, pu_u2n, ↓reduceIte, li0, li1, li2, li3, li4, li5, li6, li7, li8, li9, li10, li11, li12, li13, li14, li15, li16, li17, li18, li19, li20, li21, li22, li23, li24, li25, li26, li27, li28, li29, li30, li31, li32, li33, li34, li35, li36, li37, li38, li39, li40, li41, li42, li43, li44, li45, li46, li47, li48, li49, li50, li51, li52, li53, li54, li55, li56, li57, li58, li59, li60, li64, li72, li87, li97, li98, li99, li100, li101, li102, li103, li104, li105, li108, li109, li110, li111, li112, li114, li115, li116, li117, li119, li120, li124, li126, li132, li139, li140, li148, li156, li1000, li1092, li1248, cl_isBand_x hp]
    · rcases rng1 q (n := 9) (by omega) with hq | ⟨l, hl1, hl2, rfl⟩
      · have e : fX12_in q (nI 1) (nI 9) σ = some (nI 0, σ) := rf_in_bad (lo := 1) (hi := 9) hq (by omega)
        simp (disch := omega) only [pu_OB, pu_LET, pu_OX0, pu_BND, pu_NZ, pu_BL, pu_m1, nI_add, pk_sub, pk_mul, pk_div, nI_clamp, pu_eq, pu_ne, pu_le_t, pu_le_f, pu_lt_t, pu_lt_f, pu_nm, pu_mm, pu_u2e, pu_u2n, ↓reduceIte, li0, li1, li2, li3, li4, li5, li6, li7, li8, li9, li10, li11, li12, li13, li14, li15, li16, li17, li18, li19, li20, li21, li22, li23, li24, li25, li26, li27, li28, li29, li30, li31, li32, li33, li34, li35, li36, li37, li38, li39, li40, li41, li42, li43, li44, li45, li46, li47, li48, li49, li50, li51, li52, li53, li54, li55, li56, li57, li58, li59, li60, li64, li72, li87, li97, li98, li99, li100, li101, li102, li103, li104, li105, li108, li109, li110, li111, li112, li114, li115, li116, li117, li119, li120, li124, li126, li132, li139, li140, li148, li156, li1000, li1092, li1248, cl_isBand hb9, cl_within, e]
      · have e3 : r < 1 ∨ nI 61 ≤ r := by
          rcases hbad with h | h | h
          · exact absurd rfl (in_bad (by omega) h hb9)
          · rcases h with h | h
            · exact absurd h (nI_nlt (b := 1) hl1 (by omega))
            · exact absurd h (nI_ge (show l < 10 by omega) (by omega))
          · exact h
        have e : fX12_in r (nI 1) (nI 60) σ = some (nI 0, σ) := rf_in_bad (lo := 1) (hi := 60) e3 (by omega)
        simp (disch := omega) only [pu_OB, pu_LET, pu_OX0, pu_BND, pu_NZ, pu_BL, pu_m1, nI_add, pk_sub, pk_mul, pk_div, nI_clamp, pu_eq, pu_ne, pu_le_t, pu_le_f, pu_lt_t, pu_lt_f, pu_nm, pu_mm, pu_u2e, pu_u2n, ↓reduceIte, li0, li1, li2, li3, li4, li5, li6, li7, li8, li9, li10, li11, li12, li13, li14, li15, li16, li17, li18, li19, li20, li21, li22, li23, li24, li25, li26, li27, li28, li29, li30, li31, li32, li33, li34, li35, li36, li37, li38, li39, li40, li41, li42, li43, li44, li45, li46, li47, li48, li49, li50, li51, li52, li53, li54, li55, li56, li57, li58, li59, li60, li64, li72, li87, li97, li98, li99, li100, li101, li102, li103, li104, li105, li108, li109, li110, li111, li112, li114, li115, li116, li117, li119, li120, li124, li126, li132, li139, li140, li148, li156, li1000, li1092, li1248, cl_isBand hb9, cl_within, rf_in_good, e]
  rcases rng0 p (n := 8) (by omega) with hp | ⟨b, hb9, rfl⟩
  · exact bad (Or.inl hp)
  · rcases rng1 q (n := 9) (by omega) with hq | ⟨l, hl1, hl2, rfl⟩
    · exact bad (Or.inr (Or.inl hq))
    · rcases rng1 r (n := 60) (by omega) with hr | ⟨a, ha1, ha2, rfl⟩
      · exact bad (Or.inr (Or.inr hr))
      · have hCW := hC
        obtain ⟨-, W, hn⟩ := hCW
        have hfl := cl_isFull hn (by rw [hn.len]; exact hI.2.2.1)
        rw [hn.len] at hfl
        by_cases c : X.2.countP (wt X.1) < 12
        · rw [if_pos c] at hfl
          obtain ⟨τ, t1, t2, t3⟩ := cl_add hC hI c ⟨hb9, hl1, hl2, ha1, ha2⟩
          have hv := vg_add hI hs c ⟨hb9, hl1, hl2, ha1, ha2⟩
          refine Or.inl ⟨?_, _, _, τ, t1, t2, t3, ⟨_, (rf_adds hF hS hM hI hs hNN hb9 ⟨hl1, hl2⟩ ⟨ha1, ha2⟩).2 c⟩, hv.1, hv.2.more (by omega) (by omega)⟩
          unfold fX6_faultOfAdding
          simp (disch := omega) only [pu_OB, pu_LET, pu_OX0, pu_BND, pu_NZ, pu_BL, pu_m1, nI_add, pk_sub, pk_mul, pk_div, nI_clamp, pu_eq, pu_ne, pu_le_t, pu_le_f, pu_lt_t, pu_lt_f, pu_nm, pu_mm, pu_u2e, pu_u2n, ↓reduceIte, li0, li1, li2, li3, li4, li5, li6, li7, li8, li9, li10, li11, li12, li13, li14, li15, li16, li17, li18, li19, li20, li21, li22, li23, li24, li25, li26, li27, li28, li29, li30, li31, li32, li33, li34, li35, li36, li37, li38, li39, li40, li41, li42, li43, li44, li45, li46, li47, li48, li49, li50, li51, li52, li53, li54, li55, li56, li57, li58, li59, li60, li64, li72, li87, li97, li98, li99, li100, li101, li102, li103, li104, li105, li108, li109, li110, li111, li112, li114, li115, li116, li117, li119, li120, li124, li126, li132, li139, li140, li148, li156, li1000, li1092, li1248, cl_isBand hb9, cl_within, rf_in_good, hfl]
        · rw [if_neg c] at hfl
          have hc9 := hI.2.2.1
          refine Or.inr ⟨4, 2, by omega, by omega, by omega, by omega, ?_, (rf_adds hF hS hM hI hs hNN hb9 ⟨hl1, hl2⟩ ⟨ha1, ha2⟩).1 (by omega)⟩
          unfold fX6_faultOfAdding
          simp (disch := omega) only [pu_OB, pu_LET, pu_OX0, pu_BND, pu_NZ, pu_BL, pu_m1, nI_add, pk_sub, pk_mul, pk_div, nI_clamp, pu_eq, pu_ne, pu_le_t, pu_le_f, pu_lt_t, pu_lt_f, pu_nm, pu_mm, pu_u2e, pu_u2n, ↓reduceIte, li0, li1, li2, li3, li4, li5, li6, li7, li8, li9, li10, li11, li12, li13, li14, li15, li16, li17, li18, li19, li20, li21, li22, li23, li24, li25, li26, li27, li28, li29, li30, li31, li32, li33, li34, li35, li36, li37, li38, li39, li40, li41, li42, li43, li44, li45, li46, li47, li48, li49, li50, li51, li52, li53, li54, li55, li56, li57, li58, li59, li60, li64, li72, li87, li97, li98, li99, li100, li101, li102, li103, li104, li105, li108, li109, li110, li111, li112, li114, li115, li116, li117, li119, li120, li124, li126, li132, li139, li140, li148, li156, li1000, li1092, li1248, cl_isBand hb9, cl_within, rf_in_good, hfl]
theorem ex_remove (hF : 2000 ≤ m) (hC : CR σ k X) (hS : SM s 1 X.1) (hM : NM s 1 X.2) (hI : IN X.1 X.2) (hs : IS X.1 0 T N) (hNN : N < 10 ^ 7) (p : Int32) : EX k (fX6_faultOfRemoving m k p) (fX6_remove m k p) (fX12_removes m p) σ s X T N := by
  have hB : X.1 1 < 2 ^ 30 := by have := hs.1; omega
  rcases rf_place_or (L := X.2) (x := p) with ⟨i, hi, rfl⟩ | hx
  · by_cases hw : wt X.1 (X.2.getD i z4) = true
    · obtain ⟨h1, τ, t1, t2, t3⟩ := cl_remove (m := m) hF hC hI hB hi hw
      have hv := vg_rem hI hs hi hw
      exact Or.inl ⟨h1, _, _, τ, t1, t2, t3, ⟨_, rf_removes hF hS hM hI hB hi hw⟩, hv.1, hv.2.more (by omega) (by omega)⟩
    · replace hw := Bool.eq_false_iff.mpr hw
      exact Or.inr ⟨4, 2, by omega, by omega, by omega, by omega, cl_remove_h hF hC hI hB hi hw, rf_removes_h hF hS hM hI hB hi hw⟩
  · exact Or.inr ⟨3, 1, by omega, by omega, by omega, by omega, cl_remove_x hF hC hI hB hx, rf_removes_x hF hS hM hI hx⟩
theorem ex_release (hF : 2000 ≤ m) (hC : CR σ k X) (hS : SM s 1 X.1) (hM : NM s 1 X.2) (hI : IN X.1 X.2) (hs : IS X.1 0 T N) (hNN : N < 10 ^ 7) (p : Int32) : EX k (fX6_faultOfReleasing k p) (fX6_release k p) (fX12_releases m p) σ s X T N := by
  have hB : X.1 1 < 2 ^ 30 := by have := hs.1; omega
  rcases rng0 p (n := 3) (by omega) with hp | ⟨w, hw, rfl⟩
  · refine Or.inr ⟨1, 1, by omega, by omega, by omega, by omega, ?_, rf_releases_x hS hM hp⟩
    unfold fX6_faultOfReleasing
    simp (disch := omega) only [pu_OB, pu_LET, pu_OX0, pu_BND, pu_NZ, pu_BL, pu_m1, nI_add, pk_sub, pk_mul, pk_div, nI_clamp, pu_eq, pu_ne, pu_le_t, pu_le_f, pu_lt_t, pu_lt_f, pu_nm, pu_mm, pu_u2e, pu_u2n, ↓reduceIte, li0, li1, li2, li3, li4, li5, li6, li7, li8, li9, li10, li11, li12, li13, li14, li15, li16, li17, li18, li19, li20, li21, li22, li23, li24, li25, li26, li27, li28, li29, li30, li31, li32, li33, li34, li35, li36, li37, li38, li39, li40, li41, li42, li43, li44, li45, li46, li47, li48, li49, li50, li51, li52, li53, li54, li55, li56, li57, li58, li59, li60, li64, li72, li87, li97, li98, li99, li100, li101, li102, li103, li104, li105, li108, li109, li110, li111, li112, li114, li115, li116, li117, li119, li120, li124, li126, li132, li139, li140, li148, li156, li1000, li1092, li1248, cl_isWheel_x hp]
  · have hCW := hC
    obtain ⟨-, W, hn⟩ := hCW
    have hfl := cl_isFull hn (by rw [hn.len]; exact hI.2.2.1)
    rw [hn.len] at hfl
    have hhd := cl_isHeld hn hw
    rcases hI.2.2.2.1 w hw with h0 | ⟨e, he, hh⟩
    · refine Or.inr ⟨3, 2, by omega, by omega, by omega, by omega, ?_, rf_releases_0 hS hM hw h0⟩
      rw [h0] at hhd
      have e0 : hflag 0 = 0 := rfl
      unfold fX6_faultOfReleasing
      simp (disch := omega) only [pu_OB, pu_LET, pu_OX0, pu_BND, pu_NZ, pu_BL, pu_m1, nI_add, pk_sub, pk_mul, pk_div, nI_clamp, pu_eq, pu_ne, pu_le_t, pu_le_f, pu_lt_t, pu_lt_f, pu_nm, pu_mm, pu_u2e, pu_u2n, ↓reduceIte, li0, li1, li2, li3, li4, li5, li6, li7, li8, li9, li10, li11, li12, li13, li14, li15, li16, li17, li18, li19, li20, li21, li22, li23, li24, li25, li26, li27, li28, li29, li30, li31, li32, li33, li34, li35, li36, li37, li38, li39, li40, li41, li42, li43, li44, li45, li46, li47, li48, li49, li50, li51, li52, li53, li54, li55, li56, li57, li58, li59, li60, li64, li72, li87, li97, li98, li99, li100, li101, li102, li103, li104, li105, li108, li109, li110, li111, li112, li114, li115, li116, li117, li119, li120, li124, li126, li132, li139, li140, li148, li156, li1000, li1092, li1248, cl_isWheel hw, hhd, e0]
    · have e1 : hflag (X.1 (13 + w)) = 1 := if_neg (by omega)
      by_cases c : X.2.countP (wt X.1) < 12
      · rw [if_pos c] at hfl
        obtain ⟨τ, t1, t2, t3⟩ := cl_release hC hI hw he hh c
        have hv := vg_free hI hs hw he hh c
        refine Or.inl ⟨?_, _, _, τ, t1, t2, t3, ⟨_, rf_releases hF hS hM hI hB hw hh c⟩, hv.1, hv.2.more (by omega) (by omega)⟩
        unfold fX6_faultOfReleasing
        simp (disch := omega) only [pu_OB, pu_LET, pu_OX0, pu_BND, pu_NZ, pu_BL, pu_m1, nI_add, pk_sub, pk_mul, pk_div, nI_clamp, pu_eq, pu_ne, pu_le_t, pu_le_f, pu_lt_t, pu_lt_f, pu_nm, pu_mm, pu_u2e, pu_u2n, ↓reduceIte, li0, li1, li2, li3, li4, li5, li6, li7, li8, li9, li10, li11, li12, li13, li14, li15, li16, li17, li18, li19, li20, li21, li22, li23, li24, li25, li26, li27, li28, li29, li30, li31, li32, li33, li34, li35, li36, li37, li38, li39, li40, li41, li42, li43, li44, li45, li46, li47, li48, li49, li50, li51, li52, li53, li54, li55, li56, li57, li58, li59, li60, li64, li72, li87, li97, li98, li99, li100, li101, li102, li103, li104, li105, li108, li109, li110, li111, li112, li114, li115, li116, li117, li119, li120, li124, li126, li132, li139, li140, li148, li156, li1000, li1092, li1248, cl_isWheel hw, hhd, e1, hfl]
      · rw [if_neg c] at hfl
        have hc9 := hI.2.2.1
        refine Or.inr ⟨4, 3, by omega, by omega, by omega, by omega, ?_, rf_releases_f hF hS hM hI hB hw (by omega) (by omega)⟩
        unfold fX6_faultOfReleasing
        simp (disch := omega) only [pu_OB, pu_LET, pu_OX0, pu_BND, pu_NZ, pu_BL, pu_m1, nI_add, pk_sub, pk_mul, pk_div, nI_clamp, pu_eq, pu_ne, pu_le_t, pu_le_f, pu_lt_t, pu_lt_f, pu_nm, pu_mm, pu_u2e, pu_u2n, ↓reduceIte, li0, li1, li2, li3, li4, li5, li6, li7, li8, li9, li10, li11, li12, li13, li14, li15, li16, li17, li18, li19, li20, li21, li22, li23, li24, li25, li26, li27, li28, li29, li30, li31, li32, li33, li34, li35, li36, li37, li38, li39, li40, li41, li42, li43, li44, li45, li46, li47, li48, li49, li50, li51, li52, li53, li54, li55, li56, li57, li58, li59, li60, li64, li72, li87, li97, li98, li99, li100, li101, li102, li103, li104, li105, li108, li109, li110, li111, li112, li114, li115, li116, li117, li119, li120, li124, li126, li132, li139, li140, li148, li156, li1000, li1092, li1248, cl_isWheel hw, hhd, e1, hfl]
theorem ex_ship (hC : CR σ k X) (hS : SM s 1 X.1) (hM : NM s 1 X.2) (hI : IN X.1 X.2) (hs : IS X.1 0 T N) (p q : Int32) : EX k (fX6_faultOfShipping k p q) (fX6_ship k p q) (fX12_ships p q) σ s X T N := by
  have hl := hI.len
  rcases rng0 p (n := 4) (by omega) with hp | ⟨g, hg, rfl⟩
  · refine Or.inr ⟨2, 1, by omega, by omega, by omega, by omega, ?_, rf_ships_x hS hM (Or.inl hp)⟩
    unfold fX6_faultOfShipping
    simp (disch := omega) only [pu_OB, pu_LET, pu_OX0, pu_BND, pu_NZ, pu_BL, pu_m1, nI_add, pk_sub, pk_mul, pk_div, nI_clamp, pu_eq, pu_ne, pu_le_t, pu_le_f, pu_lt_t, pu_lt_f, pu_nm, pu_mm, pu_u2e, pu_u2n, ↓reduceIte, li0, li1, li2, li3, li4, li5, li6, li7, li8, li9, li10, li11, li12, li13, li14, li15, li16, li17, li18, li19, li20, li21, li22, li23, li24, li25, li26, li27, li28, li29, li30, li31, li32, li33, li34, li35, li36, li37, li38, li39, li40, li41, li42, li43, li44, li45, li46, li47, li48, li49, li50, li51, li52, li53, li54, li55, li56, li57, li58, li59, li60, li64, li72, li87, li97, li98, li99, li100, li101, li102, li103, li104, li105, li108, li109, li110, li111, li112, li114, li115, li116, li117, li119, li120, li124, li126, li132, li139, li140, li148, li156, li1000, li1092, li1248, cl_isGrade_x hp]
  · rcases rng1 q (n := 6) (by omega) with hq | ⟨n, hn1, hn2, rfl⟩
    · refine Or.inr ⟨2, 1, by omega, by omega, by omega, by omega, ?_, rf_ships_x hS hM (Or.inr hq)⟩
      have e : fX12_in q (nI 1) (nI 6) σ = some (nI 0, σ) := rf_in_bad (lo := 1) (hi := 6) hq (by omega)
      unfold fX6_faultOfShipping
      simp (disch := omega) only [pu_OB, pu_LET, pu_OX0, pu_BND, pu_NZ, pu_BL, pu_m1, nI_add, pk_sub, pk_mul, pk_div, nI_clamp, pu_eq, pu_ne, pu_le_t, pu_le_f, pu_lt_t, pu_lt_f, pu_nm, pu_mm, pu_u2e, pu_u2n, ↓reduceIte, li0, li1, li2, li3, li4, li5, li6, li7, li8, li9, li10, li11, li12, li13, li14, li15, li16, li17, li18, li19, li20, li21, li22, li23, li24, li25, li26, li27, li28, li29, li30, li31, li32, li33, li34, li35, li36, li37, li38, li39, li40, li41, li42, li43, li44, li45, li46, li47, li48, li49, li50, li51, li52, li53, li54, li55, li56, li57, li58, li59, li60, li64, li72, li87, li97, li98, li99, li100, li101, li102, li103, li104, li105, li108, li109, li110, li111, li112, li114, li115, li116, li117, li119, li120, li124, li126, li132, li139, li140, li148, li156, li1000, li1092, li1248, cl_isGrade hg, cl_within, e]
    · have hf9 := (hs.2.2.2.1 g hg).1
      have efull := cl_full hC hg hf9
      by_cases c : n ≤ X.1 (28 + g) / 20
      · obtain ⟨τ, t1, t2, t3⟩ := cl_ship hC hg hf9 c
        have hv := vg_ship hI hs hg c
        refine Or.inl ⟨?_, _, _, τ, t1, t2, t3, ⟨_, (rf_ships hS hM hl hg ⟨hn1, hn2⟩ hf9).2 c⟩, hv.1, hv.2.more (by omega) (by omega)⟩
        unfold fX6_faultOfShipping
        simp (disch := omega) only [pu_OB, pu_LET, pu_OX0, pu_BND, pu_NZ, pu_BL, pu_m1, nI_add, pk_sub, pk_mul, pk_div, nI_clamp, pu_eq, pu_ne, pu_le_t, pu_le_f, pu_lt_t, pu_lt_f, pu_nm, pu_mm, pu_u2e, pu_u2n, ↓reduceIte, li0, li1, li2, li3, li4, li5, li6, li7, li8, li9, li10, li11, li12, li13, li14, li15, li16, li17, li18, li19, li20, li21, li22, li23, li24, li25, li26, li27, li28, li29, li30, li31, li32, li33, li34, li35, li36, li37, li38, li39, li40, li41, li42, li43, li44, li45, li46, li47, li48, li49, li50, li51, li52, li53, li54, li55, li56, li57, li58, li59, li60, li64, li72, li87, li97, li98, li99, li100, li101, li102, li103, li104, li105, li108, li109, li110, li111, li112, li114, li115, li116, li117, li119, li120, li124, li126, li132, li139, li140, li148, li156, li1000, li1092, li1248, cl_isGrade hg, cl_within, rf_in_good, efull]
      · refine Or.inr ⟨5, 2, by omega, by omega, by omega, by omega, ?_, (rf_ships hS hM hl hg ⟨hn1, hn2⟩ hf9).1 (by omega)⟩
        unfold fX6_faultOfShipping
        simp (disch := omega) only [pu_OB, pu_LET, pu_OX0, pu_BND, pu_NZ, pu_BL, pu_m1, nI_add, pk_sub, pk_mul, pk_div, nI_clamp, pu_eq, pu_ne, pu_le_t, pu_le_f, pu_lt_t, pu_lt_f, pu_nm, pu_mm, pu_u2e, pu_u2n, ↓reduceIte, li0, li1, li2, li3, li4, li5, li6, li7, li8, li9, li10, li11, li12, li13, li14, li15, li16, li17, li18, li19, li20, li21, li22, li23, li24, li25, li26, li27, li28, li29, li30, li31, li32, li33, li34, li35, li36, li37, li38, li39, li40, li41, li42, li43, li44, li45, li46, li47, li48, li49, li50, li51, li52, li53, li54, li55, li56, li57, li58, li59, li60, li64, li72, li87, li97, li98, li99, li100, li101, li102, li103, li104, li105, li108, li109, li110, li111, li112, li114, li115, li116, li117, li119, li120, li124, li126, li132, li139, li140, li148, li156, li1000, li1092, li1248, cl_isGrade hg, cl_within, rf_in_good, efull]
theorem ex_advance (hF : 2000 ≤ m) (hC : CR σ k X) (hS : SM s 1 X.1) (hM : NM s 1 X.2) (hI : IN X.1 X.2) (hs : IS X.1 0 T N) (hT : T + 40 < 10 ^ 7) (hNN : N < 10 ^ 7) (p : Int32) : EX k (fX6_faultOfAdvancing p) (fX6_pass m k p) (fX12_advances m p) σ s X T N := by
  rcases rng1 p (n := 40) (by omega) with hp | ⟨n, hn1, hn2, rfl⟩
  · refine Or.inr ⟨2, 1, by omega, by omega, by omega, by omega, ?_, rf_advances_x hS hM hp⟩
    have e : fX12_in p (nI 1) (nI 40) σ = some (nI 0, σ) := rf_in_bad (lo := 1) (hi := 40) hp (by omega)
    unfold fX6_faultOfAdvancing
    simp (disch := omega) only [pu_OB, pu_LET, pu_OX0, pu_BND, pu_NZ, pu_BL, pu_m1, nI_add, pk_sub, pk_mul, pk_div, nI_clamp, pu_eq, pu_ne, pu_le_t, pu_le_f, pu_lt_t, pu_lt_f, pu_nm, pu_mm, pu_u2e, pu_u2n, ↓reduceIte, li0, li1, li2, li3, li4, li5, li6, li7, li8, li9, li10, li11, li12, li13, li14, li15, li16, li17, li18, li19, li20, li21, li22, li23, li24, li25, li26, li27, li28, li29, li30, li31, li32, li33, li34, li35, li36, li37, li38, li39, li40, li41, li42, li43, li44, li45, li46, li47, li48, li49, li50, li51, li52, li53, li54, li55, li56, li57, li58, li59, li60, li64, li72, li87, li97, li98, li99, li100, li101, li102, li103, li104, li105, li108, li109, li110, li111, li112, li114, li115, li116, li117, li119, li120, li124, li126, li132, li139, li140, li148, li156, li1000, li1092, li1248, cl_within, e]
  · obtain ⟨τ, g, t1, t2, hg, t3⟩ := cl_pass (m := m) (n := n) hF hC hI hs (by omega) hNN (by omega)
    have hv := spN_inv (n := n) hI hs
    refine Or.inl ⟨?_, _, _, τ, t1, t2, t3, ⟨_, rf_advances hF hS hM hI hs (by omega) hNN ⟨hn1, hn2⟩ hg⟩, hv.1, hv.2.more (by omega) (by omega)⟩
    unfold fX6_faultOfAdvancing
    simp (disch := omega) only [pu_OB, pu_LET, pu_OX0, pu_BND, pu_NZ, pu_BL, pu_m1, nI_add, pk_sub, pk_mul, pk_div, nI_clamp, pu_eq, pu_ne, pu_le_t, pu_le_f, pu_lt_t, pu_lt_f, pu_nm, pu_mm, pu_u2e, pu_u2n, ↓reduceIte, li0, li1, li2, li3, li4, li5, li6, li7, li8, li9, li10, li11, li12, li13, li14, li15, li16, li17, li18, li19, li20, li21, li22, li23, li24, li25, li26, li27, li28, li29, li30, li31, li32, li33, li34, li35, li36, li37, li38, li39, li40, li41, li42, li43, li44, li45, li46, li47, li48, li49, li50, li51, li52, li53, li54, li55, li56, li57, li58, li59, li60, li64, li72, li87, li97, li98, li99, li100, li101, li102, li103, li104, li105, li108, li109, li110, li111, li112, li114, li115, li116, li117, li119, li120, li124, li126, li132, li139, li140, li148, li156, li1000, li1092, li1248, cl_within, rf_in_good]
end EXS
