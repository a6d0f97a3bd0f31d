-- ===== a script carried out =====
theorem EX.map {k : Nat} {fo opc opr fo' opc' opr' : St → Option (Int32 × St)} {σ s : St} {X : AM} {T N : Nat} (h : EX k fo opc opr σ s X T N) (h1 : ∀ f, f < 6 → fo σ = some (nI f, σ) → fo' σ = some (nI f, σ)) (h2 : ∀ r τ, opc σ = some (r, τ) → opc' σ = some (r, τ)) (h3 : ∀ r t, opr s = some (r, t) → opr' s = some (r, t)) : EX k fo' opc' opr' σ s X T N := by
  have ro : ∀ {r j Y}, RO (opr s) s r j Y → RO (opr' s) s r j Y := fun ⟨t, a, b⟩ => ⟨t, h3 _ _ a, b⟩
  rcases h with ⟨a, Y, r, τ, b, c, d, ⟨r', e⟩, f⟩ | ⟨f, j, a1, a2, a3, a4, a5, a6⟩
  · exact Or.inl ⟨h1 0 (by omega) a, Y, r, τ, h2 _ _ b, c, d, ⟨r', ro e⟩, f⟩
  · exact Or.inr ⟨f, j, a1, a2, a3, a4, h1 f a2 a5, ro a6⟩
theorem OB_eta {f : Option (Int32 × St)} : (OB f fun r s => some (r, s)) = f := by
  cases f <;> rfl
section TC
variable {m : Nat}
theorem ex_cmd {σ s : St} {X : AM} {T N i k : Nat} {v : Nat × Nat × Nat} (hF : 2000 ≤ m) (hi : i < 12) (hk : k < 8) (hC : CR σ 19 X) (hS : SM s 1 X.1) (hM : NM s 1 X.2) (hI : IN X.1 X.2) (hs : IS X.1 0 T N) (hT : T + 40 < 10 ^ 7) (hN : N < 10 ^ 7) (h1 : σ (217 + 2 * i) 0 = nI k) (h2 : s 8 (4 * i) = nI (lt k)) (h3 : ∀ a, a < na k → σ (217 + 2 * i + 1) a = nI (aN v a) ∧ s 8 (4 * i + 1 + a) = nI (aN v a)) : EX 19 (fX11_faultOfCommand m 19 (217 + 2 * i)) (fX11_perform m 19 (217 + 2 * i)) (fX12_carriesOut m (nI (4 * i))) σ s X T N := by
  rcases (show k = 0 ∨ k = 1 ∨ k = 2 ∨ k = 3 ∨ k = 4 ∨ k = 5 ∨ k = 6 ∨ k = 7 by omega) with rfl | rfl | rfl | rfl | rfl | rfl | rfl | rfl
  · have hO : kOrd.getD 0 (nI 0) = nI 0 := rfl
    have hW : swK.getD 0 (nI 0) = nI 1 := rfl
    have g2 : s 8 (4 * i) = nI 110 := h2
    have c0 : σ (217 + 2 * i + 1) 0 = nI (aN v 0) := (h3 0 (show 0 < 3 by omega)).1
    have r0 : s 8 (4 * i + 1) = nI (aN v 0) := (h3 0 (show 0 < 3 by omega)).2
    have c1 : σ (217 + 2 * i + 1) 1 = nI (aN v 1) := (h3 1 (show 1 < 3 by omega)).1
    have r1 : s 8 (4 * i + 2) = nI (aN v 1) := (h3 1 (show 1 < 3 by omega)).2
    have c2 : σ (217 + 2 * i + 1) 2 = nI (aN v 2) := (h3 2 (show 2 < 3 by omega)).1
    have r2 : s 8 (4 * i + 3) = nI (aN v 2) := (h3 2 (show 2 < 3 by omega)).2
    refine (ex_add hF hC hS hM hI hs hN (nI (aN v 0)) (nI (aN v 1)) (nI (aN v 2))).map (fun f hf e => ?_) (fun r τ e => ?_) (fun r t e => ?_)
    · unfold fX11_faultOfCommand
      simp (disch := omega) only [pu_OB, pu_LET, pu_OX0, pu_BND, pu_NZ, pu_BL, pu_m1, nI_add, pk_sub, pk_mul, pk_div, nI_clamp, pu_eq, pu_ne, pu_le_t, pu_le_f, pu_lt_t, pu_lt_f, pu_nm, pu_mm, pu_u2e, pu_u2n, ↓reduceIte, li0, li1, li2, li3, li4, li5, li6, li7, li8, li9, li10, li11, li12, li13, li14, li15, li16, li17, li18, li19, li20, li21, li22, li23, li24, li25, li26, li27, li28, li29, li30, li31, li32, li33, li34, li35, li36, li37, li38, li39, li40, li41, li42, li43, li44, li45, li46, li47, li48, li49, li50, li51, li52, li53, li54, li55, li56, li57, li58, li59, li60, li64, li72, li87, li97, li98, li99, li100, li101, li102, li103, li104, li105, li108, li109, li110, li111, li112, li114, li115, li116, li117, li119, li120, li124, li126, li132, li139, li140, li148, li156, li1000, li1092, li1248, h1, hO, hW, c0, c1, c2, e]
    · unfold fX11_perform
      simp (disch := omega) only [pu_OB, pu_LET, pu_OX0, pu_BND, pu_NZ, pu_BL, pu_m1, nI_add, pk_sub, pk_mul, pk_div, nI_clamp, pu_eq, pu_ne, pu_le_t, pu_le_f, pu_lt_t, pu_lt_f, pu_nm, pu_mm, pu_u2e, pu_u2n, ↓reduceIte, li0, li1, li2, li3, li4, li5, li6, li7, li8, li9, li10, li11, li12, li13, li14, li15, li16, li17, li18, li19, li20, li21, li22, li23, li24, li25, li26, li27, li28, li29, li30, li31, li32, li33, li34, li35, li36, li37, li38, li39, li40, li41, li42, li43, li44, li45, li46, li47, li48, li49, li50, li51, li52, li53, li54, li55, li56, li57, li58, li59, li60, li64, li72, li87, li97, li98, li99, li100, li101, li102, li103, li104, li105, li108, li109, li110, li111, li112, li114, li115, li116, li117, li119, li120, li124, li126, li132, li139, li140, li148, li156, li1000, li1092, li1248, h1, hO, hW, c0, c1, c2, e]
    · unfold fX12_carriesOut
      simp (disch := omega) only [pu_OB, pu_LET, pu_OX0, pu_BND, pu_NZ, pu_BL, pu_m1, nI_add, pk_sub, pk_mul, pk_div, nI_clamp, pu_eq, pu_ne, pu_le_t, pu_le_f, pu_lt_t, pu_lt_f, pu_nm, pu_mm, pu_u2e, pu_u2n, ↓reduceIte, li0, li1, li2, li3, li4, li5, li6, li7, li8, li9, li10, li11, li12, li13, li14, li15, li16, li17, li18, li19, li20, li21, li22, li23, li24, li25, li26, li27, li28, li29, li30, li31, li32, li33, li34, li35, li36, li37, li38, li39, li40, li41, li42, li43, li44, li45, li46, li47, li48, li49, li50, li51, li52, li53, li54, li55, li56, li57, li58, li59, li60, li64, li72, li87, li97, li98, li99, li100, li101, li102, li103, li104, li105, li108, li109, li110, li111, li112, li114, li115, li116, li117, li119, li120, li124, li126, li132, li139, li140, li148, li156, li1000, li1092, li1248, g2, r0, r1, r2, e]
  · have hO : kOrd.getD 1 (nI 0) = nI 1 := rfl
    have hW : swK.getD 1 (nI 0) = nI 2 := rfl
    have g2 : s 8 (4 * i) = nI 100 := h2
    have c0 : σ (217 + 2 * i + 1) 0 = nI (aN v 0) := (h3 0 (show 0 < 1 by omega)).1
    have r0 : s 8 (4 * i + 1) = nI (aN v 0) := (h3 0 (show 0 < 1 by omega)).2
    refine (ex_remove hF hC hS hM hI hs hN (nI (aN v 0))).map (fun f hf e => ?_) (fun r τ e => ?_) (fun r t e => ?_)
    · unfold fX11_faultOfCommand
      simp (disch := omega) only [pu_OB, pu_LET, pu_OX0, pu_BND, pu_NZ, pu_BL, pu_m1, nI_add, pk_sub, pk_mul, pk_div, nI_clamp, pu_eq, pu_ne, pu_le_t, pu_le_f, pu_lt_t, pu_lt_f, pu_nm, pu_mm, pu_u2e, pu_u2n, ↓reduceIte, li0, li1, li2, li3, li4, li5, li6, li7, li8, li9, li10, li11, li12, li13, li14, li15, li16, li17, li18, li19, li20, li21, li22, li23, li24, li25, li26, li27, li28, li29, li30, li31, li32, li33, li34, li35, li36, li37, li38, li39, li40, li41, li42, li43, li44, li45, li46, li47, li48, li49, li50, li51, li52, li53, li54, li55, li56, li57, li58, li59, li60, li64, li72, li87, li97, li98, li99, li100, li101, li102, li103, li104, li105, li108, li109, li110, li111, li112, li114, li115, li116, li117, li119, li120, li124, li126, li132, li139, li140, li148, li156, li1000, li1092, li1248, h1, hO, hW, c0, e]
    · unfold fX11_perform
      simp (disch := omega) only [pu_OB, pu_LET, pu_OX0, pu_BND, pu_NZ, pu_BL, pu_m1, nI_add, pk_sub, pk_mul, pk_div, nI_clamp, pu_eq, pu_ne, pu_le_t, pu_le_f, pu_lt_t, pu_lt_f, pu_nm, pu_mm, pu_u2e, pu_u2n, ↓reduceIte, li0, li1, li2, li3, li4, li5, li6, li7, li8, li9, li10, li11, li12, li13, li14, li15, li16, li17, li18, li19, li20, li21, li22, li23, li24, li25, li26, li27, li28, li29, li30, li31, li32, li33, li34, li35, li36, li37, li38, li39, li40, li41, li42, li43, li44, li45, li46, li47, li48, li49, li50, li51, li52, li53, li54, li55, li56, li57, li58, li59, li60, li64, li72, li87, li97, li98, li99, li100, li101, li102, li103, li104, li105, li108, li109, li110, li111, li112, li114, li115, li116, li117, li119, li120, li124, li126, li132, li139, li140, li148, li156, li1000, li1092, li1248, h1, hO, hW, c0, e]
    · unfold fX12_carriesOut
      simp (disch := omega) only [pu_OB, pu_LET, pu_OX0, pu_BND, pu_NZ, pu_BL, pu_m1, nI_add, pk_sub, pk_mul, pk_div, nI_clamp, pu_eq, pu_ne, pu_le_t, pu_le_f, pu_lt_t, pu_lt_f, pu_nm, pu_mm, pu_u2e, pu_u2n, ↓reduceIte, li0, li1, li2, li3, li4, li5, li6, li7, li8, li9, li10, li11, li12, li13, li14, li15, li16, li17, li18, li19, li20, li21, li22, li23, li24, li25, li26, li27, li28, li29, li30, li31, li32, li33, li34, li35, li36, li37, li38, li39, li40, li41, li42, li43, li44, li45, li46, li47, li48, li49, li50, li51, li52, li53, li54, li55, li56, li57, li58, li59, li60, li64, li72, li87, li97, li98, li99, li100, li101, li102, li103, li104, li105, li108, li109, li110, li111, li112, li114, li115, li116, li117, li119, li120, li124, li126, li132, li139, li140, li148, li156, li1000, li1092, li1248, g2, r0, e]
  · have hO : kOrd.getD 2 (nI 0) = nI 2 := rfl
    have hW : swK.getD 2 (nI 0) = nI 3 := rfl
    have g2 : s 8 (4 * i) = nI 103 := h2
    have c0 : σ (217 + 2 * i + 1) 0 = nI (aN v 0) := (h3 0 (show 0 < 2 by omega)).1
    have r0 : s 8 (4 * i + 1) = nI (aN v 0) := (h3 0 (show 0 < 2 by omega)).2
    have c1 : σ (217 + 2 * i + 1) 1 = nI (aN v 1) := (h3 1 (show 1 < 2 by omega)).1
    have r1 : s 8 (4 * i + 2) = nI (aN v 1) := (h3 1 (show 1 < 2 by omega)).2
    refine (ex_gear hC hS hM hI hs (nI (aN v 0)) (nI (aN v 1))).map (fun f hf e => ?_) (fun r τ e => ?_) (fun r t e => ?_)
    · unfold fX11_faultOfCommand
      simp (disch := omega) only [pu_OB, pu_LET, pu_OX0, pu_BND, pu_NZ, pu_BL, pu_m1, nI_add, pk_sub, pk_mul, pk_div, nI_clamp, pu_eq, pu_ne, pu_le_t, pu_le_f, pu_lt_t, pu_lt_f, pu_nm, pu_mm, pu_u2e, pu_u2n, ↓reduceIte, li0, li1, li2, li3, li4, li5, li6, li7, li8, li9, li10, li11, li12, li13, li14, li15, li16, li17, li18, li19, li20, li21, li22, li23, li24, li25, li26, li27, li28, li29, li30, li31, li32, li33, li34, li35, li36, li37, li38, li39, li40, li41, li42, li43, li44, li45, li46, li47, li48, li49, li50, li51, li52, li53, li54, li55, li56, li57, li58, li59, li60, li64, li72, li87, li97, li98, li99, li100, li101, li102, li103, li104, li105, li108, li109, li110, li111, li112, li114, li115, li116, li117, li119, li120, li124, li126, li132, li139, li140, li148, li156, li1000, li1092, li1248, h1, hO, hW, c0, c1, e]
    · unfold fX11_perform
      simp (disch := omega) only [pu_OB, pu_LET, pu_OX0, pu_BND, pu_NZ, pu_BL, pu_m1, nI_add, pk_sub, pk_mul, pk_div, nI_clamp, pu_eq, pu_ne, pu_le_t, pu_le_f, pu_lt_t, pu_lt_f, pu_nm, pu_mm, pu_u2e, pu_u2n, ↓reduceIte, li0, li1, li2, li3, li4, li5, li6, li7, li8, li9, li10, li11, li12, li13, li14, li15, li16, li17, li18, li19, li20, li21, li22, li23, li24, li25, li26, li27, li28, li29, li30, li31, li32, li33, li34, li35, li36, li37, li38, li39, li40, li41, li42, li43, li44, li45, li46, li47, li48, li49, li50, li51, li52, li53, li54, li55, li56, li57, li58, li59, li60, li64, li72, li87, li97, li98, li99, li100, li101, li102, li103, li104, li105, li108, li109, li110, li111, li112, li114, li115, li116, li117, li119, li120, li124, li126, li132, li139, li140, li148, li156, li1000, li1092, li1248, h1, hO, hW, c0, c1, e]
    · unfold fX12_carriesOut
      simp (disch := omega) only [pu_OB, pu_LET, pu_OX0, pu_BND, pu_NZ, pu_BL, pu_m1, nI_add, pk_sub, pk_mul, pk_div, nI_clamp, pu_eq, pu_ne, pu_le_t, pu_le_f, pu_lt_t, pu_lt_f, pu_nm, pu_mm, pu_u2e, pu_u2n, ↓reduceIte, li0, li1, li2, li3, li4, li5, li6, li7, li8, li9, li10, li11, li12, li13, li14, li15, li16, li17, li18, li19, li20, li21, li22, li23, li24, li25, li26, li27, li28, li29, li30, li31, li32, li33, li34, li35, li36, li37, li38, li39, li40, li41, li42, li43, li44, li45, li46, li47, li48, li49, li50, li51, li52, li53, li54, li55, li56, li57, li58, li59, li60, li64, li72, li87, li97, li98, li99, li100, li101, li102, li103, li104, li105, li108, li109, li110, li111, li112, li114, li115, li116, li117, li119, li120, li124, li126, li132, li139, li140, li148, li156, li1000, li1092, li1248, g2, r0, r1, e]
  · have hO : kOrd.getD 3 (nI 0) = nI 3 := rfl
    have hW : swK.getD 3 (nI 0) = nI 4 := rfl
    have g2 : s 8 (4 * i) = nI 109 := h2
    have c0 : σ (217 + 2 * i + 1) 0 = nI (aN v 0) := (h3 0 (show 0 < 2 by omega)).1
    have r0 : s 8 (4 * i + 1) = nI (aN v 0) := (h3 0 (show 0 < 2 by omega)).2
    have c1 : σ (217 + 2 * i + 1) 1 = nI (aN v 1) := (h3 1 (show 1 < 2 by omega)).1
    have r1 : s 8 (4 * i + 2) = nI (aN v 1) := (h3 1 (show 1 < 2 by omega)).2
    refine (ex_mesh hC hS hM hI hs (nI (aN v 0)) (nI (aN v 1))).map (fun f hf e => ?_) (fun r τ e => ?_) (fun r t e => ?_)
    · unfold fX11_faultOfCommand
      simp (disch := omega) only [pu_OB, pu_LET, pu_OX0, pu_BND, pu_NZ, pu_BL, pu_m1, nI_add, pk_sub, pk_mul, pk_div, nI_clamp, pu_eq, pu_ne, pu_le_t, pu_le_f, pu_lt_t, pu_lt_f, pu_nm, pu_mm, pu_u2e, pu_u2n, ↓reduceIte, li0, li1, li2, li3, li4, li5, li6, li7, li8, li9, li10, li11, li12, li13, li14, li15, li16, li17, li18, li19, li20, li21, li22, li23, li24, li25, li26, li27, li28, li29, li30, li31, li32, li33, li34, li35, li36, li37, li38, li39, li40, li41, li42, li43, li44, li45, li46, li47, li48, li49, li50, li51, li52, li53, li54, li55, li56, li57, li58, li59, li60, li64, li72, li87, li97, li98, li99, li100, li101, li102, li103, li104, li105, li108, li109, li110, li111, li112, li114, li115, li116, li117, li119, li120, li124, li126, li132, li139, li140, li148, li156, li1000, li1092, li1248, h1, hO, hW, c0, c1, e]
    · unfold fX11_perform
      simp (disch := omega) only [pu_OB, pu_LET, pu_OX0, pu_BND, pu_NZ, pu_BL, pu_m1, nI_add, pk_sub, pk_mul, pk_div, nI_clamp, pu_eq, pu_ne, pu_le_t, pu_le_f, pu_lt_t, pu_lt_f, pu_nm, pu_mm, pu_u2e, pu_u2n, ↓reduceIte, li0, li1, li2, li3, li4, li5, li6, li7, li8, li9, li10, li11, li12, li13, li14, li15, li16, li17, li18, li19, li20, li21, li22, li23, li24, li25, li26, li27, li28, li29, li30, li31, li32, li33, li34, li35, li36, li37, li38, li39, li40, li41, li42, li43, li44, li45, li46, li47, li48, li49, li50, li51, li52, li53, li54, li55, li56, li57, li58, li59, li60, li64, li72, li87, li97, li98, li99, li100, li101, li102, li103, li104, li105, li108, li109, li110, li111, li112, li114, li115, li116, li117, li119, li120, li124, li126, li132, li139, li140, li148, li156, li1000, li1092, li1248, h1, hO, hW, c0, c1, e]
    · unfold fX12_carriesOut
      simp (disch := omega) only [pu_OB, pu_LET, pu_OX0, pu_BND, pu_NZ, pu_BL, pu_m1, nI_add, pk_sub, pk_mul, pk_div, nI_clamp, pu_eq, pu_ne, pu_le_t, pu_le_f, pu_lt_t, pu_lt_f, pu_nm, pu_mm, pu_u2e, pu_u2n, ↓reduceIte, li0, li1, li2, li3, li4, li5, li6, li7, li8, li9, li10, li11, li12, li13, li14, li15, li16, li17, li18, li19, li20, li21, li22, li23, li24, li25, li26, li27, li28, li29, li30, li31, li32, li33, li34, li35, li36, li37, li38, li39, li40, li41, li42, li43, li44, li45, li46, li47, li48, li49, li50, li51, li52, li53, li54, li55, li56, li57, li58, li59, li60, li64, li72, li87, li97, li98, li99, li100, li101, li102, li103, li104, li105, li108, li109, li110, li111, li112, li114, li115, li116, li117, li119, li120, li124, li126, li132, li139, li140, li148, li156, li1000, li1092, li1248, g2, r0, r1, e]
  · have hO : kOrd.getD 4 (nI 0) = nI 4 := rfl
    have hW : swK.getD 4 (nI 0) = nI 5 := rfl
    have g2 : s 8 (4 * i) = nI 99 := h2
    have c0 : σ (217 + 2 * i + 1) 0 = nI (aN v 0) := (h3 0 (show 0 < 1 by omega)).1
    have r0 : s 8 (4 * i + 1) = nI (aN v 0) := (h3 0 (show 0 < 1 by omega)).2
    refine (ex_clear hC hS hM hI hs (nI (aN v 0))).map (fun f hf e => ?_) (fun r τ e => ?_) (fun r t e => ?_)
    · unfold fX11_faultOfCommand
      simp (disch := omega) only [pu_OB, pu_LET, pu_OX0, pu_BND, pu_NZ, pu_BL, pu_m1, nI_add, pk_sub, pk_mul, pk_div, nI_clamp, pu_eq, pu_ne, pu_le_t, pu_le_f, pu_lt_t, pu_lt_f, pu_nm, pu_mm, pu_u2e, pu_u2n, ↓reduceIte, li0, li1, li2, li3, li4, li5, li6, li7, li8, li9, li10, li11, li12, li13, li14, li15, li16, li17, li18, li19, li20, li21, li22, li23, li24, li25, li26, li27, li28, li29, li30, li31, li32, li33, li34, li35, li36, li37, li38, li39, li40, li41, li42, li43, li44, li45, li46, li47, li48, li49, li50, li51, li52, li53, li54, li55, li56, li57, li58, li59, li60, li64, li72, li87, li97, li98, li99, li100, li101, li102, li103, li104, li105, li108, li109, li110, li111, li112, li114, li115, li116, li117, li119, li120, li124, li126, li132, li139, li140, li148, li156, li1000, li1092, li1248, h1, hO, hW, c0, e]
    · unfold fX11_perform
      simp (disch := omega) only [pu_OB, pu_LET, pu_OX0, pu_BND, pu_NZ, pu_BL, pu_m1, nI_add, pk_sub, pk_mul, pk_div, nI_clamp, pu_eq, pu_ne, pu_le_t, pu_le_f, pu_lt_t, pu_lt_f, pu_nm, pu_mm, pu_u2e, pu_u2n, ↓reduceIte, li0, li1, li2, li3, li4, li5, li6, li7, li8, li9, li10, li11, li12, li13, li14, li15, li16, li17, li18, li19, li20, li21, li22, li23, li24, li25, li26, li27, li28, li29, li30, li31, li32, li33, li34, li35, li36, li37, li38, li39, li40, li41, li42, li43, li44, li45, li46, li47, li48, li49, li50, li51, li52, li53, li54, li55, li56, li57, li58, li59, li60, li64, li72, li87, li97, li98, li99, li100, li101, li102, li103, li104, li105, li108, li109, li110, li111, li112, li114, li115, li116, li117, li119, li120, li124, li126, li132, li139, li140, li148, li156, li1000, li1092, li1248, h1, hO, hW, c0, e]
    · unfold fX12_carriesOut
      simp (disch := omega) only [pu_OB, pu_LET, pu_OX0, pu_BND, pu_NZ, pu_BL, pu_m1, nI_add, pk_sub, pk_mul, pk_div, nI_clamp, pu_eq, pu_ne, pu_le_t, pu_le_f, pu_lt_t, pu_lt_f, pu_nm, pu_mm, pu_u2e, pu_u2n, ↓reduceIte, li0, li1, li2, li3, li4, li5, li6, li7, li8, li9, li10, li11, li12, li13, li14, li15, li16, li17, li18, li19, li20, li21, li22, li23, li24, li25, li26, li27, li28, li29, li30, li31, li32, li33, li34, li35, li36, li37, li38, li39, li40, li41, li42, li43, li44, li45, li46, li47, li48, li49, li50, li51, li52, li53, li54, li55, li56, li57, li58, li59, li60, li64, li72, li87, li97, li98, li99, li100, li101, li102, li103, li104, li105, li108, li109, li110, li111, li112, li114, li115, li116, li117, li119, li120, li124, li126, li132, li139, li140, li148, li156, li1000, li1092, li1248, g2, r0, e]
  · have hO : kOrd.getD 5 (nI 0) = nI 5 := rfl
    have hW : swK.getD 5 (nI 0) = nI 6 := rfl
    have g2 : s 8 (4 * i) = nI 114 := h2
    have c0 : σ (217 + 2 * i + 1) 0 = nI (aN v 0) := (h3 0 (show 0 < 1 by omega)).1
    have r0 : s 8 (4 * i + 1) = nI (aN v 0) := (h3 0 (show 0 < 1 by omega)).2
    refine (ex_release hF hC hS hM hI hs hN (nI (aN v 0))).map (fun f hf e => ?_) (fun r τ e => ?_) (fun r t e => ?_)
    · unfold fX11_faultOfCommand
      simp (disch := omega) only [pu_OB, pu_LET, pu_OX0, pu_BND, pu_NZ, pu_BL, pu_m1, nI_add, pk_sub, pk_mul, pk_div, nI_clamp, pu_eq, pu_ne, pu_le_t, pu_le_f, pu_lt_t, pu_lt_f, pu_nm, pu_mm, pu_u2e, pu_u2n, ↓reduceIte, li0, li1, li2, li3, li4, li5, li6, li7, li8, li9, li10, li11, li12, li13, li14, li15, li16, li17, li18, li19, li20, li21, li22, li23, li24, li25, li26, li27, li28, li29, li30, li31, li32, li33, li34, li35, li36, li37, li38, li39, li40, li41, li42, li43, li44, li45, li46, li47, li48, li49, li50, li51, li52, li53, li54, li55, li56, li57, li58, li59, li60, li64, li72, li87, li97, li98, li99, li100, li101, li102, li103, li104, li105, li108, li109, li110, li111, li112, li114, li115, li116, li117, li119, li120, li124, li126, li132, li139, li140, li148, li156, li1000, li1092, li1248, h1, hO, hW, c0, e]
    · unfold fX11_perform
      simp (disch := omega) only [pu_OB, pu_LET, pu_OX0, pu_BND, pu_NZ, pu_BL, pu_m1, nI_add, pk_sub, pk_mul, pk_div, nI_clamp, pu_eq, pu_ne, pu_le_t, pu_le_f, pu_lt_t, pu_lt_f, pu_nm, pu_mm, pu_u2e, pu_u2n, ↓reduceIte, li0, li1, li2, li3, li4, li5, li6, li7, li8, li9, li10, li11, li12, li13, li14, li15, li16, li17, li18, li19, li20, li21, li22, li23, li24, li25, li26, li27, li28, li29, li30, li31, li32, li33, li34, li35, li36, li37, li38, li39, li40, li41, li42, li43, li44, li45, li46, li47, li48, li49, li50, li51, li52, li53, li54, li55, li56, li57, li58, li59, li60, li64, li72, li87, li97, li98, li99, li100, li101, li102, li103, li104, li105, li108, li109, li110, li111, li112, li114, li115, li116, li117, li119, li120, li124, li126, li132, li139, li140, li148, li156, li1000, li1092, li1248, h1, hO, hW, c0, e]
    · unfold fX12_carriesOut
      simp (disch := omega) only [pu_OB, pu_LET, pu_OX0, pu_BND, pu_NZ, pu_BL, pu_m1, nI_add, pk_sub, pk_mul, pk_div, nI_clamp, pu_eq, pu_ne, pu_le_t, pu_le_f, pu_lt_t, pu_lt_f, pu_nm, pu_mm, pu_u2e, pu_u2n, ↓reduceIte, li0, li1, li2, li3, li4, li5, li6, li7, li8, li9, li10, li11, li12, li13, li14, li15, li16, li17, li18, li19, li20, li21, li22, li23, li24, li25, li26, li27, li28, li29, li30, li31, li32, li33, li34, li35, li36, li37, li38, li39, li40, li41, li42, li43, li44, li45, li46, li47, li48, li49, li50, li51, li52, li53, li54, li55, li56, li57, li58, li59, li60, li64, li72, li87, li97, li98, li99, li100, li101, li102, li103, li104, li105, li108, li109, li110, li111, li112, li114, li115, li116, li117, li119, li120, li124, li126, li132, li139, li140, li148, li156, li1000, li1092, li1248, g2, r0, e]
  · have hO : kOrd.getD 6 (nI 0) = nI 6 := rfl
    have hW : swK.getD 6 (nI 0) = nI 7 := rfl
    have g2 : s 8 (4 * i) = nI 104 := h2
    have c0 : σ (217 + 2 * i + 1) 0 = nI (aN v 0) := (h3 0 (show 0 < 2 by omega)).1
    have r0 : s 8 (4 * i + 1) = nI (aN v 0) := (h3 0 (show 0 < 2 by omega)).2
    have c1 : σ (217 + 2 * i + 1) 1 = nI (aN v 1) := (h3 1 (show 1 < 2 by omega)).1
    have r1 : s 8 (4 * i + 2) = nI (aN v 1) := (h3 1 (show 1 < 2 by omega)).2
    refine (ex_ship hC hS hM hI hs (nI (aN v 0)) (nI (aN v 1))).map (fun f hf e => ?_) (fun r τ e => ?_) (fun r t e => ?_)
    · unfold fX11_faultOfCommand
      simp (disch := omega) only [pu_OB, pu_LET, pu_OX0, pu_BND, pu_NZ, pu_BL, pu_m1, nI_add, pk_sub, pk_mul, pk_div, nI_clamp, pu_eq, pu_ne, pu_le_t, pu_le_f, pu_lt_t, pu_lt_f, pu_nm, pu_mm, pu_u2e, pu_u2n, ↓reduceIte, li0, li1, li2, li3, li4, li5, li6, li7, li8, li9, li10, li11, li12, li13, li14, li15, li16, li17, li18, li19, li20, li21, li22, li23, li24, li25, li26, li27, li28, li29, li30, li31, li32, li33, li34, li35, li36, li37, li38, li39, li40, li41, li42, li43, li44, li45, li46, li47, li48, li49, li50, li51, li52, li53, li54, li55, li56, li57, li58, li59, li60, li64, li72, li87, li97, li98, li99, li100, li101, li102, li103, li104, li105, li108, li109, li110, li111, li112, li114, li115, li116, li117, li119, li120, li124, li126, li132, li139, li140, li148, li156, li1000, li1092, li1248, h1, hO, hW, c0, c1, e]
    · unfold fX11_perform
      simp (disch := omega) only [pu_OB, pu_LET, pu_OX0, pu_BND, pu_NZ, pu_BL, pu_m1, nI_add, pk_sub, pk_mul, pk_div, nI_clamp, pu_eq, pu_ne, pu_le_t, pu_le_f, pu_lt_t, pu_lt_f, pu_nm, pu_mm, pu_u2e, pu_u2n, ↓reduceIte, li0, li1, li2, li3, li4, li5, li6, li7, li8, li9, li10, li11, li12, li13, li14, li15, li16, li17, li18, li19, li20, li21, li22, li23, li24, li25, li26, li27, li28, li29, li30, li31, li32, li33, li34, li35, li36, li37, li38, li39, li40, li41, li42, li43, li44, li45, li46, li47, li48, li49, li50, li51, li52, li53, li54, li55, li56, li57, li58, li59, li60, li64, li72, li87, li97, li98, li99, li100, li101, li102, li103, li104, li105, li108, li109, li110, li111, li112, li114, li115, li116, li117, li119, li120, li124, li126, li132, li139, li140, li148, li156, li1000, li1092, li1248, h1, hO, hW, c0, c1, e]
    · unfold fX12_carriesOut
      simp (disch := omega) only [pu_OB, pu_LET, pu_OX0, pu_BND, pu_NZ, pu_BL, pu_m1, nI_add, pk_sub, pk_mul, pk_div, nI_clamp, pu_eq, pu_ne, pu_le_t, pu_le_f, pu_lt_t, pu_lt_f, pu_nm, pu_mm, pu_u2e, pu_u2n, ↓reduceIte, li0, li1, li2, li3, li4, li5, li6, li7, li8, li9, li10, li11, li12, li13, li14, li15, li16, li17, li18, li19, li20, li21, li22, li23, li24, li25, li26, li27, li28, li29, li30, li31, li32, li33, li34, li35, li36, li37, li38, li39, li40, li41, li42, li43, li44, li45, li46, li47, li48, li49, li50, li51, li52, li53, li54, li55, li56, li57, li58, li59, li60, li64, li72, li87, li97, li98, li99, li100, li101, li102, li103, li104, li105, li108, li109, li110, li111, li112, li114, li115, li116, li117, li119, li120, li124, li126, li132, li139, li140, li148, li156, li1000, li1092, li1248, g2, r0, r1, e]
  · have hO : kOrd.getD 7 (nI 0) = nI 7 := rfl
    have hW : swK.getD 7 (nI 0) = nI 0 := rfl
    have g2 : s 8 (4 * i) = nI 115 := h2
    have c0 : σ (217 + 2 * i + 1) 0 = nI (aN v 0) := (h3 0 (show 0 < 1 by omega)).1
    have r0 : s 8 (4 * i + 1) = nI (aN v 0) := (h3 0 (show 0 < 1 by omega)).2
    refine (ex_advance hF hC hS hM hI hs hT hN (nI (aN v 0))).map (fun f hf e => ?_) (fun r τ e => ?_) (fun r t e => ?_)
    · unfold fX11_faultOfCommand
      simp (disch := omega) only [pu_OB, pu_LET, pu_OX0, pu_BND, pu_NZ, pu_BL, pu_m1, nI_add, pk_sub, pk_mul, pk_div, nI_clamp, pu_eq, pu_ne, pu_le_t, pu_le_f, pu_lt_t, pu_lt_f, pu_nm, pu_mm, pu_u2e, pu_u2n, ↓reduceIte, li0, li1, li2, li3, li4, li5, li6, li7, li8, li9, li10, li11, li12, li13, li14, li15, li16, li17, li18, li19, li20, li21, li22, li23, li24, li25, li26, li27, li28, li29, li30, li31, li32, li33, li34, li35, li36, li37, li38, li39, li40, li41, li42, li43, li44, li45, li46, li47, li48, li49, li50, li51, li52, li53, li54, li55, li56, li57, li58, li59, li60, li64, li72, li87, li97, li98, li99, li100, li101, li102, li103, li104, li105, li108, li109, li110, li111, li112, li114, li115, li116, li117, li119, li120, li124, li126, li132, li139, li140, li148, li156, li1000, li1092, li1248, h1, hO, hW, c0, e]
    · unfold fX11_perform
      simp (disch := omega) only [pu_OB, pu_LET, pu_OX0, pu_BND, pu_NZ, pu_BL, pu_m1, nI_add, pk_sub, pk_mul, pk_div, nI_clamp, pu_eq, pu_ne, pu_le_t, pu_le_f, pu_lt_t, pu_lt_f, pu_nm, pu_mm, pu_u2e, pu_u2n, ↓reduceIte, li0, li1, li2, li3, li4, li5, li6, li7, li8, li9, li10, li11, li12, li13, li14, li15, li16, li17, li18, li19, li20, li21, li22, li23, li24, li25, li26, li27, li28, li29, li30, li31, li32, li33, li34, li35, li36, li37, li38, li39, li40, li41, li42, li43, li44, li45, li46, li47, li48, li49, li50, li51, li52, li53, li54, li55, li56, li57, li58, li59, li60, li64, li72, li87, li97, li98, li99, li100, li101, li102, li103, li104, li105, li108, li109, li110, li111, li112, li114, li115, li116, li117, li119, li120, li124, li126, li132, li139, li140, li148, li156, li1000, li1092, li1248, h1, hO, hW, c0, e]
    · unfold fX12_carriesOut fX12_carriesOut_B158
      simp (disch := omega) only [pu_OB, pu_LET, pu_OX0, pu_BND, pu_NZ, pu_BL, pu_m1, nI_add, pk_sub, pk_mul, pk_div, nI_clamp, pu_eq, pu_ne, pu_le_t, pu_le_f, pu_lt_t, pu_lt_f, pu_nm, pu_mm, pu_u2e, pu_u2n, ↓reduceIte, li0, li1, li2, li3, li4, li5, li6, li7, li8, li9, li10, li11, li12, li13, li14, li15, li16, li17, li18, li19, li20, li21, li22, li23, li24, li25, li26, li27, li28, li29, li30, li31, li32, li33, li34, li35, li36, li37, li38, li39, li40, li41, li42, li43, li44, li45, li46, li47, li48, li49, li50, li51, li52, li53, li54, li55, li56, li57, li58, li59, li60, li64, li72, li87, li97, li98, li99, li100, li101, li102, li103, li104, li105, li108, li109, li110, li111, li112, li114, li115, li116, li117, li119, li120, li124, li126, li132, li139, li140, li148, li156, li1000, li1092, li1248, g2, r0, e]
theorem cl_tc_S (k : Nat) (x : Int32) (σ : St) : fX11_tryCommands_L13 m (k + 1) x σ = fX11_tryCommands_L13b m (fX11_tryCommands_L13 m k) x σ := rfl
theorem rf_tc_S (k : Nat) (x y : Int32) (s : St) : fX12_runScript_L130 m (k + 1) x y s = fX12_runScript_L130b m (fX12_runScript_L130 m k) x y s := rfl
theorem CM.of {σ s τ t : St} {Q : Nat → Nat × (Nat × Nat × Nat)} {J : Nat} (h : CM σ s Q J) (h1 : ∀ c, 217 ≤ c → τ c = σ c) (h2 : t 8 = s 8) : CM τ t Q J := fun i hi => by
  rw [h1 _ (by omega), h1 _ (by omega), h2]
  exact h i hi
/-- the commands carried out on a copy: all of them, or up to the first that is refused -/
theorem tc_loop {J : Nat} {Q : Nat → Nat × (Nat × Nat × Nat)} (hF : 2000 ≤ m) (hJ : J ≤ 12) : ∀ d i f1 f2 T N (σ s : St) X, d + i = J → d < f1 → d < f2 → T + 40 * d < 10 ^ 6 → N + d < 10 ^ 6 → CR σ 19 X → SM s 1 X.1 → NM s 1 X.2 → IN X.1 X.2 → IS X.1 0 T N → CM σ s Q J → σ 214 4 = nI J →
    ∃ (τ t : St) (Y : AM), (∀ c, c < 19 ∨ 38 ≤ c → τ c = σ c) ∧ SM t 1 Y.1 ∧ NM t 1 Y.2 ∧ (∀ k, 2 ≤ k → t k = s k) ∧ ((fX11_tryCommands_L13 m f1 (nI i) σ = some (mI, τ) ∧ CR τ 19 Y ∧ IN Y.1 Y.2 ∧ IS Y.1 0 (T + 40 * d) (N + d) ∧ t 0 13 = nI 0 ∧ (∀ j, j ≠ 13 → t 0 j = s 0 j) ∧ fX12_runScript_L130 m f2 (nI J) (nI i) s = fX12_kept m (nI J) t) ∨ ∃ i', i' < 12 ∧ fX11_tryCommands_L13 m f1 (nI i) σ = some (nI i', τ) ∧ t 0 13 = nI 2 ∧ t 0 10 = nI i' ∧ (∀ j, j ≠ 13 → j ≠ 10 → t 0 j = s 0 j) ∧ fX12_runScript_L130 m f2 (nI J) (nI i) s = fX12_kept m (nI 0) t) := by
  intro d
  induction d with
  | zero =>
    intro i f1 f2 T N σ s X h1 h2 h3 h4 h5 hC hS hM hI hs hQ hJ4
    obtain ⟨f1, rfl⟩ : ∃ q, f1 = q + 1 := ⟨f1 - 1, by omega⟩
    obtain ⟨f2, rfl⟩ : ∃ q, f2 = q + 1 := ⟨f2 - 1, by omega⟩
    obtain rfl : i = J := by omega
    refine ⟨σ, u2 s 0 13 (nI 0), X, fun _ _ => rfl, hS.other (pu_u2r (by omega)), hM.other (pu_u2r (by omega)), fun k hk => pu_u2r (by omega), Or.inl ⟨?_, hC, hI, hs.more (by omega) (by omega), pu_u2e ⟨rfl, rfl⟩, fun j hj => pu_u2n (by omega), ?_⟩⟩
    · rw [cl_tc_S]
      unfold fX11_tryCommands_L13b
      simp (disch := omega) only [pu_OB, pu_LET, pu_OX0, pu_BND, pu_NZ, pu_BL, pu_m1, nI_add, pk_sub, pk_mul, pk_div, nI_clamp, pu_eq, pu_ne, pu_le_t, pu_le_f, pu_lt_t, pu_lt_f, pu_nm, pu_mm, pu_u2e, pu_u2n, ↓reduceIte, li0, li1, li2, li3, li4, li5, li6, li7, li8, li9, li10, li11, li12, li13, li14, li15, li16, li17, li18, li19, li20, li21, li22, li23, li24, li25, li26, li27, li28, li29, li30, li31, li32, li33, li34, li35, li36, li37, li38, li39, li40, li41, li42, li43, li44, li45, li46, li47, li48, li49, li50, li51, li52, li53, li54, li55, li56, li57, li58, li59, li60, li64, li72, li87, li97, li98, li99, li100, li101, li102, li103, li104, li105, li108, li109, li110, li111, li112, li114, li115, li116, li117, li119, li120, li124, li126, li132, li139, li140, li148, li156, li1000, li1092, li1248, hJ4]
    · rw [rf_tc_S]
      unfold fX12_runScript_L130b
      simp (disch := omega) only [pu_OB, pu_LET, pu_OX0, pu_BND, pu_NZ, pu_BL, pu_m1, nI_add, pk_sub, pk_mul, pk_div, nI_clamp, pu_eq, pu_ne, pu_le_t, pu_le_f, pu_lt_t, pu_lt_f, pu_nm, pu_mm, pu_u2e, pu_u2n, ↓reduceIte, li0, li1, li2, li3, li4, li5, li6, li7, li8, li9, li10, li11, li12, li13, li14, li15, li16, li17, li18, li19, li20, li21, li22, li23, li24, li25, li26, li27, li28, li29, li30, li31, li32, li33, li34, li35, li36, li37, li38, li39, li40, li41, li42, li43, li44, li45, li46, li47, li48, li49, li50, li51, li52, li53, li54, li55, li56, li57, li58, li59, li60, li64, li72, li87, li97, li98, li99, li100, li101, li102, li103, li104, li105, li108, li109, li110, li111, li112, li114, li115, li116, li117, li119, li120, li124, li126, li132, li139, li140, li148, li156, li1000, li1092, li1248, rf_done]
      exact OB_eta
  | succ d ih =>
    intro i f1 f2 T N σ s X h1 h2 h3 h4 h5 hC hS hM hI hs hQ hJ4
    obtain ⟨f1, rfl⟩ : ∃ q, f1 = q + 1 := ⟨f1 - 1, by omega⟩
    obtain ⟨f2, rfl⟩ : ∃ q, f2 = q + 1 := ⟨f2 - 1, by omega⟩
    obtain ⟨q1, q2, q3, q4⟩ := hQ i (by omega)
    rcases ex_cmd (m := m) (i := i) hF (by omega) q1 hC hS hM hI hs (by omega) (by omega) q2 q3 q4 with ⟨a, Y, r, τ, b, c, e, ⟨r', t, g1, g2, g3, g4, g5, g6⟩, g7, g8⟩ | ⟨f, j, a1, a2, a3, a4, a5, t, g1, g2, g3, g4, g5, g6⟩
    · obtain ⟨υ, u, Z, k1, k2, k3, k4, k5⟩ := ih (i + 1) f1 f2 (T + 40) (N + 1) τ t Y (by omega) (by omega) (by omega) (by omega) (by omega) c g2 g3 g7 g8 (hQ.of (fun c hc => e c (by omega)) (g5 _ (by omega))) (by rw [e _ (by omega)]; exact hJ4)
      have eC : fX11_tryCommands_L13 m (f1 + 1) (nI i) σ = fX11_tryCommands_L13 m f1 (nI (i + 1)) τ := by
        rw [cl_tc_S]
        unfold fX11_tryCommands_L13b
        simp (disch := omega) only [pu_OB, pu_LET, pu_OX0, pu_BND, pu_NZ, pu_BL, pu_m1, nI_add, pk_sub, pk_mul, pk_div, nI_clamp, pu_eq, pu_ne, pu_le_t, pu_le_f, pu_lt_t, pu_lt_f, pu_nm, pu_mm, pu_u2e, pu_u2n, ↓reduceIte, li0, li1, li2, li3, li4, li5, li6, li7, li8, li9, li10, li11, li12, li13, li14, li15, li16, li17, li18, li19, li20, li21, li22, li23, li24, li25, li26, li27, li28, li29, li30, li31, li32, li33, li34, li35, li36, li37, li38, li39, li40, li41, li42, li43, li44, li45, li46, li47, li48, li49, li50, li51, li52, li53, li54, li55, li56, li57, li58, li59, li60, li64, li72, li87, li97, li98, li99, li100, li101, li102, li103, li104, li105, li108, li109, li110, li111, li112, li114, li115, li116, li117, li119, li120, li124, li126, li132, li139, li140, li148, li156, li1000, li1092, li1248, hJ4, a, b]
      have eR : fX12_runScript_L130 m (f2 + 1) (nI J) (nI i) s = fX12_runScript_L130 m f2 (nI J) (nI (i + 1)) t := by
        rw [rf_tc_S]
        unfold fX12_runScript_L130b
        simp (disch := omega) only [pu_OB, pu_LET, pu_OX0, pu_BND, pu_NZ, pu_BL, pu_m1, nI_add, pk_sub, pk_mul, pk_div, nI_clamp, pu_eq, pu_ne, pu_le_t, pu_le_f, pu_lt_t, pu_lt_f, pu_nm, pu_mm, pu_u2e, pu_u2n, ↓reduceIte, li0, li1, li2, li3, li4, li5, li6, li7, li8, li9, li10, li11, li12, li13, li14, li15, li16, li17, li18, li19, li20, li21, li22, li23, li24, li25, li26, li27, li28, li29, li30, li31, li32, li33, li34, li35, li36, li37, li38, li39, li40, li41, li42, li43, li44, li45, li46, li47, li48, li49, li50, li51, li52, li53, li54, li55, li56, li57, li58, li59, li60, li64, li72, li87, li97, li98, li99, li100, li101, li102, li103, li104, li105, li108, li109, li110, li111, li112, li114, li115, li116, li117, li119, li120, li124, li126, li132, li139, li140, li148, li156, li1000, li1092, li1248, g1, g4]
      rw [eC, eR]
      refine ⟨υ, u, Z, fun c hc => by rw [k1 c hc, e c hc], k2, k3, fun k hk => by rw [k4 k hk, g5 k hk], ?_⟩
      rcases k5 with ⟨l1, l2, l3, l4, l5, l6, l7⟩ | ⟨i', l1, l2, l3, l4, l5, l6⟩
      · exact Or.inl ⟨l1, l2, l3, l4.more (by omega) (by omega), l5, fun j hj => by rw [l6 j hj, g6 j hj], l7⟩
      · exact Or.inr ⟨i', l1, l2, l3, l4, fun j hj hj2 => by rw [l5 j hj hj2, g6 j hj], l6⟩
    · refine ⟨σ, u2 (u2 t 0 10 (nI i)) 0 13 (nI 2), X, fun _ _ => rfl, (g2.other (pu_u2r (by omega))).other (pu_u2r (by omega)), (g3.other (pu_u2r (by omega))).other (pu_u2r (by omega)), fun k hk => by rw [pu_u2r (by omega), pu_u2r (by omega), g5 k hk], Or.inr ⟨i, by omega, ?_, pu_u2e ⟨rfl, rfl⟩, by rw [pu_u2n (by omega), pu_u2e ⟨rfl, rfl⟩], fun j x y => by rw [pu_u2n (by omega), pu_u2n (by omega), g6 j x], ?_⟩⟩
      · rw [cl_tc_S]
        unfold fX11_tryCommands_L13b
        simp (disch := omega) only [pu_OB, pu_LET, pu_OX0, pu_BND, pu_NZ, pu_BL, pu_m1, nI_add, pk_sub, pk_mul, pk_div, nI_clamp, pu_eq, pu_ne, pu_le_t, pu_le_f, pu_lt_t, pu_lt_f, pu_nm, pu_mm, pu_u2e, pu_u2n, ↓reduceIte, li0, li1, li2, li3, li4, li5, li6, li7, li8, li9, li10, li11, li12, li13, li14, li15, li16, li17, li18, li19, li20, li21, li22, li23, li24, li25, li26, li27, li28, li29, li30, li31, li32, li33, li34, li35, li36, li37, li38, li39, li40, li41, li42, li43, li44, li45, li46, li47, li48, li49, li50, li51, li52, li53, li54, li55, li56, li57, li58, li59, li60, li64, li72, li87, li97, li98, li99, li100, li101, li102, li103, li104, li105, li108, li109, li110, li111, li112, li114, li115, li116, li117, li119, li120, li124, li126, li132, li139, li140, li148, li156, li1000, li1092, li1248, hJ4, a5]
        exact if_neg (by omega)
      · rw [rf_tc_S]
        unfold fX12_runScript_L130b
        simp (disch := omega) only [pu_OB, pu_LET, pu_OX0, pu_BND, pu_NZ, pu_BL, pu_m1, nI_add, pk_sub, pk_mul, pk_div, nI_clamp, pu_eq, pu_ne, pu_le_t, pu_le_f, pu_lt_t, pu_lt_f, pu_nm, pu_mm, pu_u2e, pu_u2n, ↓reduceIte, li0, li1, li2, li3, li4, li5, li6, li7, li8, li9, li10, li11, li12, li13, li14, li15, li16, li17, li18, li19, li20, li21, li22, li23, li24, li25, li26, li27, li28, li29, li30, li31, li32, li33, li34, li35, li36, li37, li38, li39, li40, li41, li42, li43, li44, li45, li46, li47, li48, li49, li50, li51, li52, li53, li54, li55, li56, li57, li58, li59, li60, li64, li72, li87, li97, li98, li99, li100, li101, li102, li103, li104, li105, li108, li109, li110, li111, li112, li114, li115, li116, li117, li119, li120, li124, li126, li132, li139, li140, li148, li156, li1000, li1092, li1248, g1, g4]
        exact OB_eta
end TC
section CA
variable {σ s : St} {m C : Nat} {T : List Nat}
theorem CX.of2 {σ τ : St} {H : List AM} {S : Option AM} {B B' : List Nat} {er fl er' fl' : Option Nat} (h : CX σ H S B er fl) (hc : ∀ c, 38 ≤ c → c < 211 → c ≠ 209 → τ c = σ c) (h3 : τ 209 3 = σ 209 3) (h1 : τ 214 1 = nI B'.length ∧ B'.length ≤ 60 ∧ ∀ j, j < B'.length → τ 215 j = nI (B'.getD j 0)) (h8 : τ 209 8 = oI er') (h9 : τ 209 9 = oI fl') : CX τ H S B' er' fl' := by
  obtain ⟨⟨a1, a2⟩, ⟨nx, b1, b2, b3, b4, b5⟩, -, d1, d2⟩ := h
  exact ⟨⟨by rw [h3]; exact a1, fun X hX => (a2 X hX).of fun c hc9 => hc _ (by omega) (by omega) (by omega)⟩, ⟨nx, b1, by rw [hc _ (by omega) (by omega) (by omega)]; exact b2, by rw [hc _ (by omega) (by omega) (by omega)]; exact b3, b4, fun i hi => (b5 i hi).of fun c hc9 => hc _ (by omega) (by omega) (by omega)⟩, h1, h8, h9⟩
theorem RX.of2 {s t : St} {H : List AM} {S : Option AM} {B : List Nat} {er fl er' fl' : Option Nat} {T : List Nat} (h : RX s H S B er fl T) (hc : ∀ c, 4 ≤ c → c ≤ 7 → t c = s c) (h0 : ∀ j, j = 4 ∨ j = 6 ∨ j = 8 ∨ j = 12 → t 0 j = s 0 j) (h8 : t 0 9 = oI er') (h9 : t 0 10 = oI fl') : RX t H S B er' fl' T := by
  obtain ⟨⟨a1, a2⟩, ⟨b1, b2, b3⟩, ⟨c1, c2, c3⟩, d1, d2, d3, d4, d5⟩ := h
  refine ⟨⟨by rw [h0 _ (by omega)]; exact a1, fun X hX => ⟨(a2 X hX).1.other (hc _ (by omega) (by omega)), (a2 X hX).2.other (hc _ (by omega) (by omega))⟩⟩, ⟨by rw [h0 _ (by omega)]; exact b1, b2, ?_⟩, ⟨by rw [h0 _ (by omega)]; exact c1, c2, fun j hj => by rw [hc _ (by omega) (by omega)]; exact c3 j hj⟩, h8, h9, by rw [h0 _ (by omega)]; exact d3, d4, fun j hj => by rw [hc _ (by omega) (by omega)]; exact d5 j hj⟩
  rw [hc 4 (by omega) (by omega)]
  exact b3
theorem ca_runScript (hF : 2000 ≤ m) (hC : C < 512) (h : GG σ s C T) : CASE (fX11_runScript m σ) (fX12_runScript m s) [1, 4] C T := by
  obtain ⟨A, H, S, B, er, fl, g1, g2, g3, g4, g5, g6, g7, g8, g9⟩ := h
  have hSB : SB σ B := g2.2.2.1
  have hl9 := g5.1.len
  have hlH : ∀ i, i < H.length → (H.getD i A0).2.length ≤ 15 := fun i hi => (g6 i hi).1.len
  have hRP : RP (u2 (u2 s 0 14 (nI 0)) 0 15 (nI 0)) B (true, 0) := by
    obtain ⟨r1, r2, r3⟩ := g4.2.2.1
    exact ⟨⟨by rw [pu_u2n (by omega), pu_u2n (by omega)]; exact r1, r2, fun j hj => by rw [pu_u2n (by omega), pu_u2n (by omega)]; exact r3 j hj⟩, pu_u2e ⟨rfl, rfl⟩, by rw [pu_u2n (by omega), pu_u2e ⟨rfl, rfl⟩]⟩
  obtain ⟨τ, ok, s', p1, p2, p3, p4, p5⟩ := pr_loop (m := m) hF g8 12 0 m m 0 (u2 (u2 σ 214 2 (nI 0)) 214 4 (nI 0)) (u2 (u2 s 0 14 (nI 0)) 0 15 (nI 0)) (fun _ => (0, (0, 0, 0))) (by omega) (by omega) (by omega) (by omega) (by omega) (hSB.of (by rw [pu_u2n (by omega), pu_u2n (by omega)]) (by rw [pu_u2r (by omega), pu_u2r (by omega)])) hRP (by rw [pu_u2n (by omega), pu_u2e ⟨rfl, rfl⟩]) (fun i hi => absurd hi (by omega))
  have hτ : ∀ c, c < 214 → τ c = σ c := fun c hc => by
    funext j
    rw [p2 c j (by omega) (by omega), pu_u2n (by omega), pu_u2n (by omega)]
  have hs0 : ∀ j, j ≠ 14 → j ≠ 15 → s' 0 j = s 0 j := fun j a b => by rw [p3 0 j (by omega) (by omega) (by omega), pu_u2n (by omega), pu_u2n (by omega)]
  have hs8 : ∀ i, 0 < i → i ≠ 8 → s' i = s i := fun i a b => by
    funext j
    rw [p3 i j (by omega) (by omega) b, pu_u2n (by omega), pu_u2n (by omega)]
  have hc0 : fX8_parse m σ = some (nI (if ok = true then 1 else 0), τ) := p1
  have he : fX8_empty τ = some (nI 0, u2 τ 214 1 (nI 0)) := rfl
  -- the object once its buffer is emptied
  have hCt : CR (u2 τ 214 1 (nI 0)) 0 A := g1.of fun c hc => by rw [pu_u2r (by omega), hτ _ (by omega)]
  have hXt : CX (u2 τ 214 1 (nI 0)) H S [] er fl := by
    obtain ⟨⟨a1, a2⟩, ⟨nx, b1, b2, b3, b4, b5⟩, -, d1, d2⟩ := g2
    have hc : ∀ c, c < 214 → (u2 τ 214 1 (nI 0)) c = σ c := fun c h => by rw [pu_u2r (by omega), hτ _ (by omega)]
    exact ⟨⟨by rw [hc _ (by omega)]; exact a1, fun X hX => (a2 X hX).of fun c hc9 => hc _ (by omega)⟩, ⟨nx, b1, by rw [hc _ (by omega)]; exact b2, by rw [hc _ (by omega)]; exact b3, b4, fun i hi => (b5 i hi).of fun c hc9 => hc _ (by omega)⟩, ⟨pu_u2e ⟨rfl, rfl⟩, by show 0 ≤ 60; omega, fun j hj => absurd hj (Nat.not_lt_zero j)⟩, by rw [hc _ (by omega)]; exact d1, by rw [hc _ (by omega)]; exact d2⟩
  have hRt : ∀ {z : Int32}, RX (u2 (u2 s' 0 15 z) 0 8 (nI 0)) H S [] er fl T := fun {z} => by
    obtain ⟨⟨a1, a2⟩, ⟨b1, b2, b3⟩, -, d1, d2, d3, d4, d5⟩ := g4
    have hc : ∀ c, 4 ≤ c → c ≤ 7 → (u2 (u2 s' 0 15 z) 0 8 (nI 0)) c = s c := fun c h1 h2 => by rw [pu_u2r (by omega), pu_u2r (by omega), hs8 _ (by omega) (by omega)]
    have h0 : ∀ j, j ≤ 12 → j ≠ 8 → (u2 (u2 s' 0 15 z) 0 8 (nI 0)) 0 j = s 0 j := fun j h1 h2 => by rw [pu_u2n (by omega), pu_u2n (by omega), hs0 _ (by omega) (by omega)]
    refine ⟨⟨by rw [h0 _ (by omega) (by omega)]; exact a1, fun X hX => ⟨(a2 X hX).1.other (hc _ (by omega) (by omega)), (a2 X hX).2.other (hc _ (by omega) (by omega))⟩⟩, ⟨by rw [h0 _ (by omega) (by omega)]; exact b1, b2, ?_⟩, ⟨pu_u2e ⟨rfl, rfl⟩, by show 0 ≤ 60; omega, fun j hj => absurd hj (Nat.not_lt_zero j)⟩, by rw [h0 _ (by omega) (by omega)]; exact d1, by rw [h0 _ (by omega) (by omega)]; exact d2, by rw [h0 _ (by omega) (by omega)]; exact d3, d4, fun j hj => by rw [hc _ (by omega) (by omega)]; exact d5 j hj⟩
    rw [hc 4 (by omega) (by omega)]
    exact b3
  have hMt : ∀ {z : Int32}, SM (u2 (u2 s' 0 15 z) 0 8 (nI 0)) 1 A.1 ∧ NM (u2 (u2 s' 0 15 z) 0 8 (nI 0)) 1 A.2 := fun {z} => by
    have e : (u2 (u2 s' 0 15 z) 0 8 (nI 0)) 1 = s 1 := by rw [pu_u2r (by omega), pu_u2r (by omega), hs8 _ (by omega) (by omega)]
    exact ⟨g3.1.other e, g3.2.other e⟩
  have hB0 : bOk [] := fun b hb => absurd hb List.not_mem_nil
  have g7m : ∀ X, S = some X → VG X (C + 1) := fun X hX => (g7 X hX).mono (by omega)
  have g6m : ∀ i, i < H.length → VG (H.getD i A0) (C + 1) := fun i hi => (g6 i hi).mono (by omega)
  cases ok with
  | false =>
    obtain ⟨x1, e, e1, e2, e3, e4⟩ := p4 rfl
    have hsr : fX12_runScript m s = fX12_runScript_B95 m x1 (nI 1) s' := e4
    rw [hsr]
    have h14 : (u2 (u2 s' 0 15 (nI 1)) 0 8 (nI 0)) 0 14 = nI e := by rw [pu_u2n (by omega), pu_u2n (by omega)]; exact e3
    refine ⟨1, 0, u2 (u2 τ 214 1 (nI 0)) 209 8 (nI e), nI 0, u2 (u2 (u2 (u2 s' 0 15 (nI 1)) 0 8 (nI 0)) 0 9 (nI e)) 0 13 (nI 1), ?_, ?_, Or.inr (by decide), pu_u2e ⟨rfl, rfl⟩, fun h => absurd h (by decide), A, H, S, [], some e, fl, hCt.of fun c hc => pu_u2r (by omega), ?_, ⟨(hMt.1.other (pu_u2r (by omega))).other (pu_u2r (by omega)), (hMt.2.other (pu_u2r (by omega))).other (pu_u2r (by omega))⟩, ?_, g5.mono (by omega), g6m, g7m, hB0, g9⟩
    · unfold fX11_runScript
      rw [hc0, pu_OB, he, pu_OB]
      simp (disch := omega) only [pu_OB, pu_LET, pu_OX0, pu_BND, pu_NZ, pu_BL, pu_m1, nI_add, pk_sub, pk_mul, pk_div, nI_clamp, pu_eq, pu_ne, pu_le_t, pu_le_f, pu_lt_t, pu_lt_f, pu_nm, pu_mm, pu_u2e, pu_u2n, ↓reduceIte, li0, li1, li2, li3, li4, li5, li6, li7, li8, li9, li10, li11, li12, li13, li14, li15, li16, li17, li18, li19, li20, li21, li22, li23, li24, li25, li26, li27, li28, li29, li30, li31, li32, li33, li34, li35, li36, li37, li38, li39, li40, li41, li42, li43, li44, li45, li46, li47, li48, li49, li50, li51, li52, li53, li54, li55, li56, li57, li58, li59, li60, li64, li72, li87, li97, li98, li99, li100, li101, li102, li103, li104, li105, li108, li109, li110, li111, li112, li114, li115, li116, li117, li119, li120, li124, li126, li132, li139, li140, li148, li156, li1000, li1092, li1248, e2]
      rfl
    · unfold fX12_runScript_B95
      simp (disch := omega) only [pu_OB, pu_LET, pu_OX0, pu_BND, pu_NZ, pu_BL, pu_m1, nI_add, pk_sub, pk_mul, pk_div, nI_clamp, pu_eq, pu_ne, pu_le_t, pu_le_f, pu_lt_t, pu_lt_f, pu_nm, pu_mm, pu_u2e, pu_u2n, ↓reduceIte, li0, li1, li2, li3, li4, li5, li6, li7, li8, li9, li10, li11, li12, li13, li14, li15, li16, li17, li18, li19, li20, li21, li22, li23, li24, li25, li26, li27, li28, li29, li30, li31, li32, li33, li34, li35, li36, li37, li38, li39, li40, li41, li42, li43, li44, li45, li46, li47, li48, li49, li50, li51, li52, li53, li54, li55, li56, li57, li58, li59, li60, li64, li72, li87, li97, li98, li99, li100, li101, li102, li103, li104, li105, li108, li109, li110, li111, li112, li114, li115, li116, li117, li119, li120, li124, li126, li132, li139, li140, li148, li156, li1000, li1092, li1248, e3, rf_fails]
    · exact hXt.of2 (fun c h1 h2 h3 => pu_u2r (by omega)) (pu_u2n (by omega)) ⟨pu_u2n (by omega), by show 0 ≤ 60; omega, fun j hj => absurd hj (Nat.not_lt_zero j)⟩ (pu_u2e ⟨rfl, rfl⟩) (by rw [pu_u2n (by omega)]; exact hXt.2.2.2.2)
    · exact hRt.of2 (fun c h1 h2 => by rw [pu_u2r (by omega), pu_u2r (by omega)]) (fun j h => by rw [pu_u2n (by omega), pu_u2n (by omega)]) (by rw [pu_u2n (by omega), pu_u2e ⟨rfl, rfl⟩]; rfl) (by rw [pu_u2n (by omega), pu_u2n (by omega)]; exact hRt.2.2.2.2.1)
  | true =>
    obtain ⟨Q, J, e1, e2, e3, e4, e5⟩ := p5 rfl
    have hsr : fX12_runScript m s = fX12_runScript_B95 m (nI J) (nI 0) s' := e5
    rw [hsr]
    generalize hσ2 : u2 τ 214 1 (nI 0) = σ2 at *
    have h2r : ∀ c, c ≠ 214 → σ2 c = τ c := fun c hc => by rw [← hσ2]; exact pu_u2r hc
    have h24 : σ2 214 4 = nI J := by rw [← hσ2, pu_u2n (by omega)]; exact e4
    have hs28 : ∀ {z : Int32}, (u2 (u2 s' 0 15 z) 0 8 (nI 0)) 8 = s' 8 := fun {z} => by rw [pu_u2r (by omega), pu_u2r (by omega)]
    have hs15 : (u2 (u2 s' 0 15 (nI 0)) 0 8 (nI 0)) 0 15 = nI 0 := by rw [pu_u2n (by omega), pu_u2e ⟨rfl, rfl⟩]
    have hR2 := hRt (z := nI 0)
    have hM2 := hMt (z := nI 0)
    have h28 := hs28 (z := nI 0)
    have hun : fX12_runScript_B95 m (nI J) (nI 0) s' = OB (fX12_begin m (u2 (u2 s' 0 15 (nI 0)) 0 8 (nI 0))) fun _ s2 => fX12_runScript_L130 m m (nI J) 0 s2 := by
      unfold fX12_runScript_B95
      simp (disch := omega) only [pu_OB, pu_LET, pu_OX0, pu_BND, pu_NZ, pu_BL, pu_m1, nI_add, pk_sub, pk_mul, pk_div, nI_clamp, pu_eq, pu_ne, pu_le_t, pu_le_f, pu_lt_t, pu_lt_f, pu_nm, pu_mm, pu_u2e, pu_u2n, ↓reduceIte, li0, li1, li2, li3, li4, li5, li6, li7, li8, li9, li10, li11, li12, li13, li14, li15, li16, li17, li18, li19, li20, li21, li22, li23, li24, li25, li26, li27, li28, li29, li30, li31, li32, li33, li34, li35, li36, li37, li38, li39, li40, li41, li42, li43, li44, li45, li46, li47, li48, li49, li50, li51, li52, li53, li54, li55, li56, li57, li58, li59, li60, li64, li72, li87, li97, li98, li99, li100, li101, li102, li103, li104, li105, li108, li109, li110, li111, li112, li114, li115, li116, li117, li119, li120, li124, li126, li132, li139, li140, li148, li156, li1000, li1092, li1248]
    generalize u2 (u2 s' 0 15 (nI 0)) 0 8 (nI 0) = s2 at *
    rw [rf_begin hF, pu_OB] at hun
    have q1 : cpS s2 1 0 2 0 0 1 = s2 1 := cpS_row (by omega)
    have q2 : ∀ j, j < 156 → cpS s2 1 0 2 0 0 2 j = s2 1 j := fun j hj => by
      have := cpS_in (s := s2) (p := 1) (a := 0) (q := 2) (b := 0) hj
      rw [Nat.zero_add] at this
      exact this
    have q3 : ∀ i, i ≠ 2 → cpS s2 1 0 2 0 0 i = s2 i := fun i hi => cpS_row hi
    have hA2 : SM (cpS s2 1 0 2 0 0) 2 A.1 ∧ NM (cpS s2 1 0 2 0 0) 2 A.2 := ⟨hM2.1.ext q2, hM2.2.ext hl9 q2⟩
    obtain ⟨σ3, a1, a2, a3⟩ := cl_copy (k := 19) hF hCt g5.1 g5.2 (by omega)
    have hQ3 : CM σ3 (cpS s2 1 0 2 0 0) Q J := e3.of (fun c hc => by rw [a3 _ (by omega), h2r _ (by omega)]) (by rw [q3 _ (by omega), h28])
    obtain ⟨σ4, t, Y, b1, b2, b3, b4, b5⟩ := tc_loop (m := m) hF e2 J 0 m m (480 * C) (12 * C) σ3 (cpS s2 1 0 2 0 0) A (by omega) (by omega) (by omega) (by omega) (by omega) a2 (hM2.1.other q1) (hM2.2.other q1) g5.1 g5.2 hQ3 (by rw [a3 _ (by omega)]; exact h24)
    have hC4 : CR σ4 0 A := hCt.of fun c hc => by rw [b1 _ (by omega), a3 _ (by omega)]
    have hX4 : CX σ4 H S [] er fl := hXt.of (fun c h1 h2 => by rw [b1 _ (by omega), a3 _ (by omega)]) (by rw [b1 _ (by omega), a3 _ (by omega)]) (by rw [b1 _ (by omega), a3 _ (by omega)])
    have h44 : σ4 214 4 = nI J := by rw [b1 _ (by omega), a3 _ (by omega)]; exact h24
    have hA4 : SM t 2 A.1 ∧ NM t 2 A.2 := ⟨hA2.1.other (b4 _ (by omega)), hA2.2.other (b4 _ (by omega))⟩
    have hrow : ∀ c, 4 ≤ c → c ≤ 7 → t c = s2 c := fun c h1 h2 => by rw [b4 _ (by omega), q3 _ (by omega)]
    rcases b5 with ⟨c1, c2, c3, c4, c5, c6, c7⟩ | ⟨i', c0, c1, c2, c3, c4, c5⟩
    · have hRx : RX t H S [] er fl T := hR2.of hrow fun j hj => by rw [c6 _ (by omega)]; exact cpS_out (by omega)
      obtain ⟨u, d1, d2, d3, d4, d5⟩ := rf_kept (r := nI J) (c := 0) hF hRx ⟨b2, b3⟩ hA4 hl9 hlH (by omega) c5
      rw [if_pos rfl] at d1 d2 d3 d4
      obtain ⟨σ5, f1, f2, f3, f4⟩ := cl_push hF hC4 hX4 g5
      obtain ⟨σ6, k1, k2, k3⟩ := cl_copy (k := 0) hF (c2.of (τ := σ5) fun c hc => f4 _ (by omega)) c3 c4 (by omega)
      refine ⟨0, nI J, σ6, nI J, u, ?_, ?_, Or.inl rfl, d5, fun _ => rfl, Y, pushH H A, S, [], er, fl, k2, f3.of (fun c h1 h2 => k3 _ (by omega)) (by rw [k3 _ (by omega)]) (k3 _ (by omega)), ⟨d2, d3⟩, d4, VG.up (A := Y) ⟨c3, c4⟩ (by omega) (by omega), vg_push g5 g6, g7m, hB0, g9⟩
      · have h64 : σ6 214 4 = nI J := by rw [k3 _ (by omega), f4 _ (by omega)]; exact h44
        have eT : fX11_tryCommands m σ2 = some (mI, σ4) := by
          unfold fX11_tryCommands
          rw [a1, pu_OB]
          exact c1
        unfold fX11_runScript
        rw [hc0, pu_OB, he, pu_OB]
        rw [if_neg (show ¬ nI (if true = true then 1 else 0) = 0 by decide +kernel), eT, pu_OB, if_pos (show mI = -1 from rfl), f1, pu_OB, k1, pu_OB, h64]
      · rw [hun]
        exact c7.trans d1
    · have hRx : RX t H S [] er (some i') T := hR2.of2 hrow (fun j hj => by rw [c4 _ (by omega) (by omega)]; exact cpS_out (by omega)) (by rw [c4 _ (by omega) (by omega), cpS_out (by omega)]; exact hR2.2.2.2.1) c3
      obtain ⟨u, d1, d2, d3, d4, d5⟩ := rf_kept (r := nI 0) (c := 2) hF hRx ⟨b2, b3⟩ hA4 hl9 hlH (by omega) c2
      rw [if_neg (by omega)] at d1 d2 d3 d4
      refine ⟨4, 0, u2 σ4 209 9 (nI i'), nI 0, u, ?_, ?_, Or.inr (by decide), d5, fun h => absurd h (by decide), A, H, S, [], er, some i', hC4.of fun c hc => pu_u2r (by omega), ?_, ⟨d2, d3⟩, d4, g5.mono (by omega), g6m, g7m, hB0, g9⟩
      · have eT : fX11_tryCommands m σ2 = some (nI i', σ4) := by
          unfold fX11_tryCommands
          rw [a1, pu_OB]
          exact c1
        unfold fX11_runScript
        rw [hc0, pu_OB, he, pu_OB]
        rw [if_neg (show ¬ nI (if true = true then 1 else 0) = 0 by decide +kernel), eT, pu_OB, if_neg (show ¬ nI i' = -1 from of_eq_false (pu_nm (by omega)))]
        rfl
      · rw [hun]
        exact c5.trans d1
      · exact hX4.of2 (fun c h1 h2 h3 => pu_u2r (by omega)) (pu_u2n (by omega)) ⟨by rw [pu_u2n (by omega)]; exact hX4.2.2.1.1, by show 0 ≤ 60; omega, fun j hj => absurd hj (Nat.not_lt_zero j)⟩ (by rw [pu_u2n (by omega)]; exact hX4.2.2.2.1) (pu_u2e ⟨rfl, rfl⟩)
end CA
