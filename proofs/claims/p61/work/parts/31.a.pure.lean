-- ===== the mill lets steps pass =====
theorem spGrind_3 {A : AM} {w p : Nat} (hw : w < 3) (hb9 : (A.2.getD p z4).2.1 < 8) (hm : A.1 (16 + (A.2.getD p z4).2.1) ≤ 9) : (spGrind A w p).1 3 = A.1 3 + grA A.1 w (A.2.getD p z4) := by
  have hG : saG (gdSc A.1 w (A.2.getD p z4)) (A.2.getD p z4).2.1 < 4 := by
    unfold saG
    rw [gdSc_o (by omega)]
    omega
  have h3 : saSc (gdSc A.1 w (A.2.getD p z4)) (A.2.getD p z4).2.1 (grA A.1 w (A.2.getD p z4)) 3 = A.1 3 + grA A.1 w (A.2.getD p z4) := by
    rw [saSc_o (by omega)]
    unfold gdSc
    rw [upN_n (by omega), upN_e rfl]
  unfold spGrind
  by_cases c : (A.2.getD p z4).2.2.2 ≤ 2 * A.1 (7 + w)
  · rw [if_pos c]
    show fiSc _ _ _ 3 = _
    rw [fiSc_o hw (by omega), h3]
  · rw [if_neg c]
    exact h3
section CL
variable {σ : St} {k m : Nat}
theorem cl_isStuck {A : AM} {w : Nat} (hS : SR σ k A.1) (hw : w < 3) (hj : A.1 (10 + w) < 2 ^ 30) : fX6_isStuck k (nI w) σ = some (nI (if A.1 (10 + w) < 12 then 0 else 1), σ) := by
  have e := hS.wear hw
  unfold fX6_isStuck
  by_cases c : A.1 (10 + w) < 12
  · simp (disch := omega) only [pu_OB, pu_LET, pu_OX0, pu_BND, pu_NZ, pu_BL, pu_m1, nI_add, pk_sub, pk_mul, pk_div, nI_clamp, pu_eq, pu_ne, pu_le_t, pu_le_f, pu_lt_t, pu_lt_f, pu_nm, pu_mm, pu_u2e, pu_u2n, ↓reduceIte, li0, li1, li2, li3, li4, li5, li6, li7, li8, li9, li10, li11, li12, li13, li14, li15, li16, li17, li18, li19, li20, li21, li22, li23, li24, li25, li26, li27, li28, li29, li30, li31, li32, li33, li34, li35, li36, li37, li38, li39, li40, li41, li42, li43, li44, li45, li46, li47, li48, li49, li50, li51, li52, li53, li54, li55, li56, li57, li58, li59, li60, li64, li72, li87, li97, li98, li99, li100, li101, li102, li103, li104, li105, li108, li109, li110, li111, li112, li114, li115, li116, li117, li119, li120, li124, li126, li132, li139, li140, li148, li156, li1000, li1092, li1248, e, if_pos c]
  · simp (disch := omega) only [pu_OB, pu_LET, pu_OX0, pu_BND, pu_NZ, pu_BL, pu_m1, nI_add, pk_sub, pk_mul, pk_div, nI_clamp, pu_eq, pu_ne, pu_le_t, pu_le_f, pu_lt_t, pu_lt_f, pu_nm, pu_mm, pu_u2e, pu_u2n, ↓reduceIte, li0, li1, li2, li3, li4, li5, li6, li7, li8, li9, li10, li11, li12, li13, li14, li15, li16, li17, li18, li19, li20, li21, li22, li23, li24, li25, li26, li27, li28, li29, li30, li31, li32, li33, li34, li35, li36, li37, li38, li39, li40, li41, li42, li43, li44, li45, li46, li47, li48, li49, li50, li51, li52, li53, li54, li55, li56, li57, li58, li59, li60, li64, li72, li87, li97, li98, li99, li100, li101, li102, li103, li104, li105, li108, li109, li110, li111, li112, li114, li115, li116, li117, li119, li120, li124, li126, li132, li139, li140, li148, li156, li1000, li1092, li1248, e, if_neg c]
theorem cl_p22_S (r : Nat) (K4 : Int32 → Int32 → Int32 → St → Option (Int32 × St)) (x1 x2 x3 x4 : Int32) (σ : St) : fX6_pass_L22 m k K4 (r + 1) x1 x2 x3 x4 σ = fX6_pass_L22b m k K4 (fX6_pass_L22 m k K4 r) x1 x2 x3 x4 σ := rfl
theorem cl_act {A : AM} {u T N w : Nat} (hF : 2000 ≤ m) (hC : CR σ k A) (hI : IN A.1 A.2) (hs : IS A.1 (u + 1) T N) (hT : T < 10 ^ 7) (hNN : N < 10 ^ 7) (hw : w < 3) :
    ∃ τ g, (∀ (K4 : Int32 → Int32 → Int32 → St → Option (Int32 × St)) (r : Nat) (x1 x3 : Int32) (x2 : Nat), fX6_pass_L22 m k K4 (r + 1) x1 (nI x2) x3 (nI w) σ = fX6_pass_L22 m k K4 r x1 (nI (x2 + g)) x3 (nI (w + 1)) τ) ∧ CR τ k (spAct A w) ∧ (spAct A w).1 3 = A.1 3 + g ∧ ∀ c, c < k ∨ k + 19 ≤ c → τ c = σ c := by
  obtain ⟨hS, W, hn⟩ := hC
  have hb1 := hs.1
  have hB : A.1 1 < 2 ^ 30 := by omega
  have hg := hs.2.1 w hw
  have est := cl_isStuck hS hw (by omega)
  have ehd := cl_isHeld hn hw
  rcases spAct_cases hI hw with ⟨c1, e⟩ | ⟨c1, c2, c3, e⟩ | ⟨c1, c2, p, hp, hwt, hr, e⟩ | ⟨c1, p, hp, hh, e⟩
  · rw [e]
    refine ⟨σ, 0, fun K4 r x1 x3 x2 => ?_, ⟨hS, W, hn⟩, rfl, fun c hc => rfl⟩
    rw [if_neg (by omega)] at est
    simp (disch := omega) only [pu_OB, pu_LET, pu_OX0, pu_BND, pu_NZ, pu_BL, pu_m1, nI_add, pk_sub, pk_mul, pk_div, nI_clamp, pu_eq, pu_ne, pu_le_t, pu_le_f, pu_lt_t, pu_lt_f, pu_nm, pu_mm, pu_u2e, pu_u2n, ↓reduceIte, li0, li1, li2, li3, li4, li5, li6, li7, li8, li9, li10, li11, li12, li13, li14, li15, li16, li17, li18, li19, li20, li21, li22, li23, li24, li25, li26, li27, li28, li29, li30, li31, li32, li33, li34, li35, li36, li37, li38, li39, li40, li41, li42, li43, li44, li45, li46, li47, li48, li49, li50, li51, li52, li53, li54, li55, li56, li57, li58, li59, li60, li64, li72, li87, li97, li98, li99, li100, li101, li102, li103, li104, li105, li108, li109, li110, li111, li112, li114, li115, li116, li117, li119, li120, li124, li126, li132, li139, li140, li148, li156, li1000, li1092, li1248, cl_p22_S, fX6_pass_L22b, est, fX6_pass_B82, Nat.add_zero]
  · rw [e]
    refine ⟨σ, 0, fun K4 r x1 x3 x2 => ?_, ⟨hS, W, hn⟩, rfl, fun c hc => rfl⟩
    rw [if_pos c1] at est
    rw [c2] at ehd
    have e0 : hflag 0 = 0 := rfl
    have hf := cl_first_none (m := m) hn (by rw [hn.len]; exact c3) hF
    have et : fX7_takeFirst m (k + 1) (nI w) σ = some (nI 0, σ) := by
      unfold fX7_takeFirst
      simp (disch := omega) only [pu_OB, pu_LET, pu_OX0, pu_BND, pu_NZ, pu_BL, pu_m1, nI_add, pk_sub, pk_mul, pk_div, nI_clamp, pu_eq, pu_ne, pu_le_t, pu_le_f, pu_lt_t, pu_lt_f, pu_nm, pu_mm, pu_u2e, pu_u2n, ↓reduceIte, li0, li1, li2, li3, li4, li5, li6, li7, li8, li9, li10, li11, li12, li13, li14, li15, li16, li17, li18, li19, li20, li21, li22, li23, li24, li25, li26, li27, li28, li29, li30, li31, li32, li33, li34, li35, li36, li37, li38, li39, li40, li41, li42, li43, li44, li45, li46, li47, li48, li49, li50, li51, li52, li53, li54, li55, li56, li57, li58, li59, li60, li64, li72, li87, li97, li98, li99, li100, li101, li102, li103, li104, li105, li108, li109, li110, li111, li112, li114, li115, li116, li117, li119, li120, li124, li126, li132, li139, li140, li148, li156, li1000, li1092, li1248, hf]
    simp (disch := omega) only [pu_OB, pu_LET, pu_OX0, pu_BND, pu_NZ, pu_BL, pu_m1, nI_add, pk_sub, pk_mul, pk_div, nI_clamp, pu_eq, pu_ne, pu_le_t, pu_le_f, pu_lt_t, pu_lt_f, pu_nm, pu_mm, pu_u2e, pu_u2n, ↓reduceIte, li0, li1, li2, li3, li4, li5, li6, li7, li8, li9, li10, li11, li12, li13, li14, li15, li16, li17, li18, li19, li20, li21, li22, li23, li24, li25, li26, li27, li28, li29, li30, li31, li32, li33, li34, li35, li36, li37, li38, li39, li40, li41, li42, li43, li44, li45, li46, li47, li48, li49, li50, li51, li52, li53, li54, li55, li56, li57, li58, li59, li60, li64, li72, li87, li97, li98, li99, li100, li101, li102, li103, li104, li105, li108, li109, li110, li111, li112, li114, li115, li116, li117, li119, li120, li124, li126, li132, li139, li140, li148, li156, li1000, li1092, li1248, cl_p22_S, fX6_pass_L22b, est, ehd, e0, et, fX6_pass_B61, fX6_pass_B82, Nat.add_zero]
  · rw [e]
    have h0 : 0 < W.length := by
      rw [hn.len]
      exact List.countP_pos_iff.mpr ⟨_, getD_mem hp, hwt⟩
    obtain ⟨q, hq, hf, hrq⟩ := cl_first hn hI hB h0 hF
    have heq : W.getD q z4 = A.2.getD p z4 := rk_inj hI.1 (hn.at hq).1 (getD_mem hp) (hn.at hq).2 hwt (by omega)
    obtain ⟨τ1, t1, t2, t3, t4⟩ := cl_take (m := m) hn hI hF hw c2 hq hf
    rw [heq] at t2
    have he := hI.at hp
    have hS1 : SR τ1 k (upN A.1 (13 + w) ((A.2.getD p z4).1 + 1)) := (hS.of (fun c hc => t3 _ (by omega)) t4).sc fun j hj => by
      have := scOk_t.mp hj
      exact upN_n (by omega)
    have hI1 := (IN_hold hI (getD_mem hp) hw c2 hwt).1
    have hs1 : IS (upN A.1 (13 + w) ((A.2.getD p z4).1 + 1)) (u + 1) T N := hs.sc fun j hj => upN_n (by omega)
    obtain ⟨τ, r1, r2, r3, r4⟩ := cl_grind (A := (upN A.1 (13 + w) ((A.2.getD p z4).1 + 1), A.2)) hS1 t2 hI1 hs1 hT hNN hw (by show upN A.1 (13 + w) _ (10 + w) < 12; rw [upN_n (by omega)]; exact c1) hp (upN_e rfl)
    refine ⟨τ, grA (upN A.1 (13 + w) ((A.2.getD p z4).1 + 1)) w (A.2.getD p z4), fun K4 r x1 x3 x2 => ?_, ⟨r2, _, r3⟩, ?_, fun c hc => by rw [r4 c hc, t3 c (by omega)]⟩
    · rw [if_pos c1] at est
      rw [c2] at ehd
      have e0 : hflag 0 = 0 := rfl
      have ehd1 := cl_isHeld t2 hw
      rw [upN_e rfl] at ehd1
      have e1 : hflag ((A.2.getD p z4).1 + 1) = 1 := if_neg (by omega)
      have r1 : fX6_grind k (nI w) τ1 = some (nI (grA (upN A.1 (13 + w) ((A.2.getD p z4).1 + 1)) w (A.2.getD p z4)), τ) := r1
      simp (disch := omega) only [pu_OB, pu_LET, pu_OX0, pu_BND, pu_NZ, pu_BL, pu_m1, nI_add, pk_sub, pk_mul, pk_div, nI_clamp, pu_eq, pu_ne, pu_le_t, pu_le_f, pu_lt_t, pu_lt_f, pu_nm, pu_mm, pu_u2e, pu_u2n, ↓reduceIte, li0, li1, li2, li3, li4, li5, li6, li7, li8, li9, li10, li11, li12, li13, li14, li15, li16, li17, li18, li19, li20, li21, li22, li23, li24, li25, li26, li27, li28, li29, li30, li31, li32, li33, li34, li35, li36, li37, li38, li39, li40, li41, li42, li43, li44, li45, li46, li47, li48, li49, li50, li51, li52, li53, li54, li55, li56, li57, li58, li59, li60, li64, li72, li87, li97, li98, li99, li100, li101, li102, li103, li104, li105, li108, li109, li110, li111, li112, li114, li115, li116, li117, li119, li120, li124, li126, li132, li139, li140, li148, li156, li1000, li1092, li1248, cl_p22_S, fX6_pass_L22b, est, ehd, e0, t1, fX6_pass_B61, ehd1, e1, r1, fX6_pass_B82]
    · rw [spGrind_3 (A := (upN A.1 (13 + w) ((A.2.getD p z4).1 + 1), A.2)) hw he.2.1 (hs1.2.2.1 _ he.2.1).1]
      show upN A.1 (13 + w) _ 3 + _ = _
      rw [upN_n (by omega)]
  · rw [e]
    have he := hI.at hp
    obtain ⟨τ, r1, r2, r3, r4⟩ := cl_grind hS hn hI hs hT hNN hw c1 hp hh
    refine ⟨τ, grA A.1 w (A.2.getD p z4), fun K4 r x1 x3 x2 => ?_, ⟨r2, _, r3⟩, spGrind_3 hw he.2.1 (hs.2.2.1 _ he.2.1).1, r4⟩
    rw [if_pos c1] at est
    rw [hh] at ehd
    have e1 : hflag ((A.2.getD p z4).1 + 1) = 1 := if_neg (by omega)
    simp (disch := omega) only [pu_OB, pu_LET, pu_OX0, pu_BND, pu_NZ, pu_BL, pu_m1, nI_add, pk_sub, pk_mul, pk_div, nI_clamp, pu_eq, pu_ne, pu_le_t, pu_le_f, pu_lt_t, pu_lt_f, pu_nm, pu_mm, pu_u2e, pu_u2n, ↓reduceIte, li0, li1, li2, li3, li4, li5, li6, li7, li8, li9, li10, li11, li12, li13, li14, li15, li16, li17, li18, li19, li20, li21, li22, li23, li24, li25, li26, li27, li28, li29, li30, li31, li32, li33, li34, li35, li36, li37, li38, li39, li40, li41, li42, li43, li44, li45, li46, li47, li48, li49, li50, li51, li52, li53, li54, li55, li56, li57, li58, li59, li60, li64, li72, li87, li97, li98, li99, li100, li101, li102, li103, li104, li105, li108, li109, li110, li111, li112, li114, li115, li116, li117, li119, li120, li124, li126, li132, li139, li140, li148, li156, li1000, li1092, li1248, cl_p22_S, fX6_pass_L22b, est, ehd, e1, fX6_pass_B61, r1, fX6_pass_B82]
theorem cl_p4_S (r : Nat) (x1 x2 x3 : Int32) (σ : St) : fX6_pass_L4 m k (r + 1) x1 x2 x3 σ = fX6_pass_L4b m k (fX6_pass_L4 m k r) x1 x2 x3 σ := rfl
theorem CR.tick {A : AM} (hC : CR σ k A) : CR (u2 σ k 6 (nI (A.1 0 + 1))) k (upN A.1 0 (A.1 0 + 1), A.2) := by
  obtain ⟨hS, W, hn⟩ := hC
  exact ⟨hS.upd (j := 0) rfl rfl rfl rfl rfl, W, hn.congr (pu_u2n (by omega)) (fun c h1 h2 => pu_u2r (by omega)) fun w hw => upN_n (by omega)⟩
theorem cl_step {A : AM} {T N : Nat} (hF : 2000 ≤ m) (hC : CR σ k A) (hI : IN A.1 A.2) (hs : IS A.1 0 T N) (hT : T + 1 < 10 ^ 7) (hNN : N < 10 ^ 7) :
    ∃ τ g, (∀ (r n i x2 : Nat), i < n → n < 2 ^ 30 → fX6_pass_L4 m k (r + 1) (nI n) (nI x2) (nI i) σ = fX6_pass_L4 m k r (nI n) (nI (x2 + g)) (nI (i + 1)) τ) ∧ CR τ k (spStep A) ∧ (spStep A).1 3 = A.1 3 + g ∧ ∀ c, c < k ∨ k + 19 ≤ c → τ c = σ c := by
  have e0 := hC.1.time
  have t0 := tick_inv hI hs
  have t1 := spAct_inv (A := (upN A.1 0 (A.1 0 + 1), A.2)) (w := 0) t0.1 t0.2 (by omega)
  have t2 := spAct_inv (w := 1) t1.1 t1.2 (by omega)
  obtain ⟨s1, g1, a1, a2, a3, a4⟩ := cl_act (m := m) (A := (upN A.1 0 (A.1 0 + 1), A.2)) (w := 0) hF hC.tick t0.1 t0.2 hT hNN (by omega)
  obtain ⟨s2, g2, b1, b2, b3, b4⟩ := cl_act (m := m) (w := 1) hF a2 t1.1 t1.2 hT hNN (by omega)
  obtain ⟨s3, g3, c1, c2, c3, c4⟩ := cl_act (m := m) (w := 2) hF b2 t2.1 t2.2 hT hNN (by omega)
  refine ⟨s3, g1 + g2 + g3, fun r n i x2 hin hn => ?_, c2, ?_, fun c hc => by rw [c4 c hc, b4 c hc, a4 c hc, pu_u2r (by omega)]⟩
  · have key : ∀ q, 4 ≤ q → fX6_pass_L22 m k (fX6_pass_L4 m k r) q (nI n) (nI x2) (nI i) (nI 0) (u2 σ k 6 (nI (A.1 0 + 1))) = fX6_pass_L4 m k r (nI n) (nI (x2 + (g1 + g2 + g3))) (nI (i + 1)) s3 := by
      intro q hq
      obtain ⟨q, rfl⟩ : ∃ r, q = r + 4 := ⟨q - 4, by omega⟩
      rw [a1, b1, c1, cl_p22_S]
      simp (disch := omega) only [pu_OB, pu_LET, pu_OX0, pu_BND, pu_NZ, pu_BL, pu_m1, nI_add, pk_sub, pk_mul, pk_div, nI_clamp, pu_eq, pu_ne, pu_le_t, pu_le_f, pu_lt_t, pu_lt_f, pu_nm, pu_mm, pu_u2e, pu_u2n, ↓reduceIte, li0, li1, li2, li3, li4, li5, li6, li7, li8, li9, li10, li11, li12, li13, li14, li15, li16, li17, li18, li19, li20, li21, li22, li23, li24, li25, li26, li27, li28, li29, li30, li31, li32, li33, li34, li35, li36, li37, li38, li39, li40, li41, li42, li43, li44, li45, li46, li47, li48, li49, li50, li51, li52, li53, li54, li55, li56, li57, li58, li59, li60, li64, li72, li87, li97, li98, li99, li100, li101, li102, li103, li104, li105, li108, li109, li110, li111, li112, li114, li115, li116, li117, li119, li120, li124, li126, li132, li139, li140, li148, li156, li1000, li1092, li1248, fX6_pass_L22b]
      rw [show x2 + g1 + g2 + g3 = x2 + (g1 + g2 + g3) by omega]
    simp (disch := omega) only [pu_OB, pu_LET, pu_OX0, pu_BND, pu_NZ, pu_BL, pu_m1, nI_add, pk_sub, pk_mul, pk_div, nI_clamp, pu_eq, pu_ne, pu_le_t, pu_le_f, pu_lt_t, pu_lt_f, pu_nm, pu_mm, pu_u2e, pu_u2n, ↓reduceIte, li0, li1, li2, li3, li4, li5, li6, li7, li8, li9, li10, li11, li12, li13, li14, li15, li16, li17, li18, li19, li20, li21, li22, li23, li24, li25, li26, li27, li28, li29, li30, li31, li32, li33, li34, li35, li36, li37, li38, li39, li40, li41, li42, li43, li44, li45, li46, li47, li48, li49, li50, li51, li52, li53, li54, li55, li56, li57, li58, li59, li60, li64, li72, li87, li97, li98, li99, li100, li101, li102, li103, li104, li105, li108, li109, li110, li111, li112, li114, li115, li116, li117, li119, li120, li124, li126, li132, li139, li140, li148, li156, li1000, li1092, li1248, cl_p4_S, fX6_pass_L4b, e0, key m (by omega)]
  · show (spAct (spAct (spAct (upN A.1 0 (A.1 0 + 1), A.2) 0) 1) 2).1 3 = _
    rw [c3, b3, a3]
    show upN A.1 0 (A.1 0 + 1) 3 + _ + _ + _ = _
    rw [upN_n (by omega)]
    omega
theorem spN_S (n : Nat) (A : AM) : spN (n + 1) A = spN n (spStep A) := rfl
theorem cl_pass {A : AM} {T N n : Nat} (hF : 2000 ≤ m) (hC : CR σ k A) (hI : IN A.1 A.2) (hs : IS A.1 0 T N) (hT : T + n < 10 ^ 7) (hNN : N < 10 ^ 7) (hn : n < 1000) :
    ∃ τ g, fX6_pass m k (nI n) σ = some (nI g, τ) ∧ CR τ k (spN n A) ∧ (spN n A).1 3 = A.1 3 + g ∧ ∀ c, c < k ∨ k + 19 ≤ c → τ c = σ c := by
  have key : ∀ d (r i x2 T : Nat) (A : AM) (σ : St), CR σ k A → IN A.1 A.2 → IS A.1 0 T N → T + d < 10 ^ 7 → i + d = n → d < r → ∃ τ g, fX6_pass_L4 m k r (nI n) (nI x2) (nI i) σ = some (nI (x2 + g), τ) ∧ CR τ k (spN d A) ∧ (spN d A).1 3 = A.1 3 + g ∧ ∀ c, c < k ∨ k + 19 ≤ c → τ c = σ c := by
    intro d
    induction d with
    | zero =>
      intro r i x2 T A σ hC hI hs hT h1 h2
      obtain ⟨r, rfl⟩ : ∃ q, r = q + 1 := ⟨r - 1, by omega⟩
      refine ⟨σ, 0, ?_, hC, rfl, fun c hc => rfl⟩
      simp (disch := omega) only [pu_OB, pu_LET, pu_OX0, pu_BND, pu_NZ, pu_BL, pu_m1, nI_add, pk_sub, pk_mul, pk_div, nI_clamp, pu_eq, pu_ne, pu_le_t, pu_le_f, pu_lt_t, pu_lt_f, pu_nm, pu_mm, pu_u2e, pu_u2n, ↓reduceIte, li0, li1, li2, li3, li4, li5, li6, li7, li8, li9, li10, li11, li12, li13, li14, li15, li16, li17, li18, li19, li20, li21, li22, li23, li24, li25, li26, li27, li28, li29, li30, li31, li32, li33, li34, li35, li36, li37, li38, li39, li40, li41, li42, li43, li44, li45, li46, li47, li48, li49, li50, li51, li52, li53, li54, li55, li56, li57, li58, li59, li60, li64, li72, li87, li97, li98, li99, li100, li101, li102, li103, li104, li105, li108, li109, li110, li111, li112, li114, li115, li116, li117, li119, li120, li124, li126, li132, li139, li140, li148, li156, li1000, li1092, li1248, cl_p4_S, fX6_pass_L4b, Nat.add_zero]
    | succ d ih =>
      intro r i x2 T A σ hC hI hs hT h1 h2
      obtain ⟨r, rfl⟩ : ∃ q, r = q + 1 := ⟨r - 1, by omega⟩
      obtain ⟨τ, g, a1, a2, a3, a4⟩ := cl_step (m := m) hF hC hI hs (by omega) hNN
      have hv := spStep_inv hI hs
      obtain ⟨τ', g', b1, b2, b3, b4⟩ := ih r (i + 1) (x2 + g) (T + 1) (spStep A) τ a2 hv.1 hv.2 (by omega) (by omega) (by omega)
      refine ⟨τ', g + g', ?_, b2, ?_, fun c hc => by rw [b4 c hc, a4 c hc]⟩
      · rw [a1 r n i x2 (by omega) (by omega), b1, Nat.add_assoc]
      · rw [spN_S, b3, a3, Nat.add_assoc]
  obtain ⟨τ, g, h1, h2, h3, h4⟩ := key n m 0 0 T A σ hC hI hs hT (by omega) (by omega)
  rw [Nat.zero_add] at h1
  exact ⟨τ, g, h1, h2, h3, h4⟩
end CL
section RF
variable {s : St} {m : Nat}
end RF

