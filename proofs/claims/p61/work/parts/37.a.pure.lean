-- ===== the questions =====
section QS
variable {σ s : St} {m C : Nat} {T : List Nat}
-- simple ones
-- a noise looked up
theorem cl_slot_or {A : AM} (hF : 2000 ≤ m) (hC : CR σ 0 A) (hI : IN A.1 A.2) (hB : A.1 1 < 2 ^ 30) {p : Nat} (hp : p < A.2.length) : ∃ q, q < 15 ∧ fX7_slotOf m (0 + 1) (nI (A.2.getD p z4).1) σ = some (nI q, σ) ∧ slotE σ (0 + 1) q (A.2.getD p z4) ∧ ((q < 12 ∧ wt A.1 (A.2.getD p z4) = true) ∨ ∃ w, w < 3 ∧ q = 12 + w ∧ A.1 (13 + w) = (A.2.getD p z4).1 + 1 ∧ wt A.1 (A.2.getD p z4) = false) := by
  obtain ⟨hS, W, hn⟩ := hC
  by_cases hw : wt A.1 (A.2.getD p z4) = true
  · obtain ⟨q, hq, heq⟩ := mem_getD (hn.mem.mpr ⟨getD_mem hp, hw⟩)
    have hlen : W.length ≤ 12 := by rw [hn.len]; exact hI.2.2.1
    have h1 := cl_slotOf_w (m := m) hn hI hB hF hq
    have h2 := hn.2.2.1 q hq
    rw [heq] at h1 h2
    exact ⟨q, by omega, h1, h2, Or.inl ⟨by omega, hw⟩⟩
  · replace hw := Bool.eq_false_iff.mpr hw
    obtain ⟨w, hw3, hh⟩ := wt_f_ex hw
    exact ⟨12 + w, by omega, cl_slotOf_h (m := m) hn hI hB hF hw3 (getD_mem hp) hh, (hn.2.2.2 w hw3).2 _ (getD_mem hp) hh, Or.inr ⟨w, hw3, rfl, hh, hw⟩⟩
theorem cl_slot_x {A : AM} {x : Int32} (hF : 2000 ≤ m) (hC : CR σ 0 A) (hI : IN A.1 A.2) (hB : A.1 1 < 2 ^ 30) (hx : ∀ j, j < A.2.length → nI (A.2.getD j z4).1 ≠ x) : fX7_slotOf m (0 + 1) x σ = some (mI, σ) := by
  obtain ⟨hS, W, hn⟩ := hC
  exact cl_slotOf_x (m := m) hn hI hB hF (x := x) fun e he => by
    obtain ⟨p, hp, rfl⟩ := mem_getD he
    exact hx p hp
theorem cl_reqN_x {x : Int32} (h : fX7_slotOf m (0 + 1) x σ = some (mI, σ)) : fX11_requireNoise m x σ = some ((3, 0), σ) := by
  unfold fX11_requireNoise
  simp (disch := omega) only [pu_OB, pu_LET, pu_OX0, pu_BND, pu_NZ, pu_BL, pu_m1, nI_add, pk_sub, pk_mul, pk_div, nI_clamp, pu_eq, pu_ne, pu_le_t, pu_le_f, pu_lt_t, pu_lt_f, pu_nm, pu_mm, pu_u2e, pu_u2n, ↓reduceIte, li0, li1, li2, li3, li4, li5, li6, li7, li8, li9, li10, li11, li12, li13, li14, li15, li16, li17, li18, li19, li20, li21, li22, li23, li24, li25, li26, li27, li28, li29, li30, li31, li32, li33, li34, li35, li36, li37, li38, li39, li40, li41, li42, li43, li44, li45, li46, li47, li48, li49, li50, li51, li52, li53, li54, li55, li56, li57, li58, li59, li60, li64, li72, li87, li97, li98, li99, li100, li101, li102, li103, li104, li105, li108, li109, li110, li111, li112, li114, li115, li116, li117, li119, li120, li124, li126, li132, li139, li140, li148, li156, li1000, li1092, li1248, h]
theorem cl_reqN {x : Int32} {q : Nat} (h : fX7_slotOf m (0 + 1) x σ = some (nI q, σ)) (hq : q < 15) : fX11_requireNoise m x σ = some ((0, nI q), σ) := by
  unfold fX11_requireNoise
  simp (disch := omega) only [pu_OB, pu_LET, pu_OX0, pu_BND, pu_NZ, pu_BL, pu_m1, nI_add, pk_sub, pk_mul, pk_div, nI_clamp, pu_eq, pu_ne, pu_le_t, pu_le_f, pu_lt_t, pu_lt_f, pu_nm, pu_mm, pu_u2e, pu_u2n, ↓reduceIte, li0, li1, li2, li3, li4, li5, li6, li7, li8, li9, li10, li11, li12, li13, li14, li15, li16, li17, li18, li19, li20, li21, li22, li23, li24, li25, li26, li27, li28, li29, li30, li31, li32, li33, li34, li35, li36, li37, li38, li39, li40, li41, li42, li43, li44, li45, li46, li47, li48, li49, li50, li51, li52, li53, li54, li55, li56, li57, li58, li59, li60, li64, li72, li87, li97, li98, li99, li100, li101, li102, li103, li104, li105, li108, li109, li110, li111, li112, li114, li115, li116, li117, li119, li120, li124, li126, li132, li139, li140, li148, li156, li1000, li1092, li1248, h]
theorem cl_isW {q : Nat} (h : q < 15) : fX7_isWaitingSlot (nI q) σ = some (nI (if q < 12 then 1 else 0), σ) := by
  unfold fX7_isWaitingSlot
  by_cases c : q < 12
  · simp (disch := omega) only [pu_OB, pu_LET, pu_OX0, pu_BND, pu_NZ, pu_BL, pu_m1, nI_add, pk_sub, pk_mul, pk_div, nI_clamp, pu_eq, pu_ne, pu_le_t, pu_le_f, pu_lt_t, pu_lt_f, pu_nm, pu_mm, pu_u2e, pu_u2n, ↓reduceIte, li0, li1, li2, li3, li4, li5, li6, li7, li8, li9, li10, li11, li12, li13, li14, li15, li16, li17, li18, li19, li20, li21, li22, li23, li24, li25, li26, li27, li28, li29, li30, li31, li32, li33, li34, li35, li36, li37, li38, li39, li40, li41, li42, li43, li44, li45, li46, li47, li48, li49, li50, li51, li52, li53, li54, li55, li56, li57, li58, li59, li60, li64, li72, li87, li97, li98, li99, li100, li101, li102, li103, li104, li105, li108, li109, li110, li111, li112, li114, li115, li116, li117, li119, li120, li124, li126, li132, li139, li140, li148, li156, li1000, li1092, li1248, if_pos c]
  · simp (disch := omega) only [pu_OB, pu_LET, pu_OX0, pu_BND, pu_NZ, pu_BL, pu_m1, nI_add, pk_sub, pk_mul, pk_div, nI_clamp, pu_eq, pu_ne, pu_le_t, pu_le_f, pu_lt_t, pu_lt_f, pu_nm, pu_mm, pu_u2e, pu_u2n, ↓reduceIte, li0, li1, li2, li3, li4, li5, li6, li7, li8, li9, li10, li11, li12, li13, li14, li15, li16, li17, li18, li19, li20, li21, li22, li23, li24, li25, li26, li27, li28, li29, li30, li31, li32, li33, li34, li35, li36, li37, li38, li39, li40, li41, li42, li43, li44, li45, li46, li47, li48, li49, li50, li51, li52, li53, li54, li55, li56, li57, li58, li59, li60, li64, li72, li87, li97, li98, li99, li100, li101, li102, li103, li104, li105, li108, li109, li110, li111, li112, li114, li115, li116, li117, li119, li120, li124, li126, li132, li139, li140, li148, li156, li1000, li1092, li1248, if_neg c]
theorem hw_at {sc : Nat → Nat} {L : List E4} {w n : Nat} (hI : IN sc L) (hw : w < 3) (h : sc (13 + w) = n + 1) : hwI sc n = nI w := by
  unfold hwI
  have f := fun v (hv : v < 3) (hne : w ≠ v) => hI.2.2.2.2.1 w v hw hv hne
  rcases (show w = 0 ∨ w = 1 ∨ w = 2 by omega) with rfl | rfl | rfl
  · exact if_pos h
  · have k1 : sc 14 = 0 ∨ sc 14 ≠ sc 13 := f 0 (by omega) (by omega)
    have h : sc 14 = n + 1 := h
    rw [if_neg (by omega), if_pos h]
  · have k1 : sc 15 = 0 ∨ sc 15 ≠ sc 13 := f 0 (by omega) (by omega)
    have k2 : sc 15 = 0 ∨ sc 15 ≠ sc 14 := f 1 (by omega) (by omega)
    have h : sc 15 = n + 1 := h
    rw [if_neg (by omega), if_neg (by omega), if_pos h]
theorem rk_wlt {A : AM} {W : List E4} (hn : NRW σ (0 + 1) A.1 A.2 W) {e : E4} : rk A.1 A.2 e ≤ W.length := by
  rw [← hn.rk]
  exact List.countP_le_length
-- wheels, bands, grades
theorem cl_reqW {w : Nat} (h : w < 3) : fX11_requireWheel (nI w) σ = some ((0, 0), σ) := by
  unfold fX11_requireWheel
  simp (disch := omega) only [pu_OB, pu_LET, pu_OX0, pu_BND, pu_NZ, pu_BL, pu_m1, nI_add, pk_sub, pk_mul, pk_div, nI_clamp, pu_eq, pu_ne, pu_le_t, pu_le_f, pu_lt_t, pu_lt_f, pu_nm, pu_mm, pu_u2e, pu_u2n, ↓reduceIte, li0, li1, li2, li3, li4, li5, li6, li7, li8, li9, li10, li11, li12, li13, li14, li15, li16, li17, li18, li19, li20, li21, li22, li23, li24, li25, li26, li27, li28, li29, li30, li31, li32, li33, li34, li35, li36, li37, li38, li39, li40, li41, li42, li43, li44, li45, li46, li47, li48, li49, li50, li51, li52, li53, li54, li55, li56, li57, li58, li59, li60, li64, li72, li87, li97, li98, li99, li100, li101, li102, li103, li104, li105, li108, li109, li110, li111, li112, li114, li115, li116, li117, li119, li120, li124, li126, li132, li139, li140, li148, li156, li1000, li1092, li1248, cl_isWheel h]
theorem cl_reqW_x {p : Int32} (h : p < 0 ∨ nI 3 ≤ p) : fX11_requireWheel p σ = some ((2, 0), σ) := by
  unfold fX11_requireWheel
  simp (disch := omega) only [pu_OB, pu_LET, pu_OX0, pu_BND, pu_NZ, pu_BL, pu_m1, nI_add, pk_sub, pk_mul, pk_div, nI_clamp, pu_eq, pu_ne, pu_le_t, pu_le_f, pu_lt_t, pu_lt_f, pu_nm, pu_mm, pu_u2e, pu_u2n, ↓reduceIte, li0, li1, li2, li3, li4, li5, li6, li7, li8, li9, li10, li11, li12, li13, li14, li15, li16, li17, li18, li19, li20, li21, li22, li23, li24, li25, li26, li27, li28, li29, li30, li31, li32, li33, li34, li35, li36, li37, li38, li39, li40, li41, li42, li43, li44, li45, li46, li47, li48, li49, li50, li51, li52, li53, li54, li55, li56, li57, li58, li59, li60, li64, li72, li87, li97, li98, li99, li100, li101, li102, li103, li104, li105, li108, li109, li110, li111, li112, li114, li115, li116, li117, li119, li120, li124, li126, li132, li139, li140, li148, li156, li1000, li1092, li1248, cl_isWheel_x h]
theorem cl_reqB {w : Nat} (h : w < 8) : fX11_requireBand (nI w) σ = some ((0, 0), σ) := by
  unfold fX11_requireBand
  simp (disch := omega) only [pu_OB, pu_LET, pu_OX0, pu_BND, pu_NZ, pu_BL, pu_m1, nI_add, pk_sub, pk_mul, pk_div, nI_clamp, pu_eq, pu_ne, pu_le_t, pu_le_f, pu_lt_t, pu_lt_f, pu_nm, pu_mm, pu_u2e, pu_u2n, ↓reduceIte, li0, li1, li2, li3, li4, li5, li6, li7, li8, li9, li10, li11, li12, li13, li14, li15, li16, li17, li18, li19, li20, li21, li22, li23, li24, li25, li26, li27, li28, li29, li30, li31, li32, li33, li34, li35, li36, li37, li38, li39, li40, li41, li42, li43, li44, li45, li46, li47, li48, li49, li50, li51, li52, li53, li54, li55, li56, li57, li58, li59, li60, li64, li72, li87, li97, li98, li99, li100, li101, li102, li103, li104, li105, li108, li109, li110, li111, li112, li114, li115, li116, li117, li119, li120, li124, li126, li132, li139, li140, li148, li156, li1000, li1092, li1248, cl_isBand h]
theorem cl_reqB_x {p : Int32} (h : p < 0 ∨ nI 8 ≤ p) : fX11_requireBand p σ = some ((1, 0), σ) := by
  unfold fX11_requireBand
  simp (disch := omega) only [pu_OB, pu_LET, pu_OX0, pu_BND, pu_NZ, pu_BL, pu_m1, nI_add, pk_sub, pk_mul, pk_div, nI_clamp, pu_eq, pu_ne, pu_le_t, pu_le_f, pu_lt_t, pu_lt_f, pu_nm, pu_mm, pu_u2e, pu_u2n, ↓reduceIte, li0, li1, li2, li3, li4, li5, li6, li7, li8, li9, li10, li11, li12, li13, li14, li15, li16, li17, li18, li19, li20, li21, li22, li23, li24, li25, li26, li27, li28, li29, li30, li31, li32, li33, li34, li35, li36, li37, li38, li39, li40, li41, li42, li43, li44, li45, li46, li47, li48, li49, li50, li51, li52, li53, li54, li55, li56, li57, li58, li59, li60, li64, li72, li87, li97, li98, li99, li100, li101, li102, li103, li104, li105, li108, li109, li110, li111, li112, li114, li115, li116, li117, li119, li120, li124, li126, li132, li139, li140, li148, li156, li1000, li1092, li1248, cl_isBand_x h]
theorem cl_reqG {w : Nat} (h : w < 4) : fX11_requireGrade (nI w) σ = some ((0, 0), σ) := by
  unfold fX11_requireGrade
  simp (disch := omega) only [pu_OB, pu_LET, pu_OX0, pu_BND, pu_NZ, pu_BL, pu_m1, nI_add, pk_sub, pk_mul, pk_div, nI_clamp, pu_eq, pu_ne, pu_le_t, pu_le_f, pu_lt_t, pu_lt_f, pu_nm, pu_mm, pu_u2e, pu_u2n, ↓reduceIte, li0, li1, li2, li3, li4, li5, li6, li7, li8, li9, li10, li11, li12, li13, li14, li15, li16, li17, li18, li19, li20, li21, li22, li23, li24, li25, li26, li27, li28, li29, li30, li31, li32, li33, li34, li35, li36, li37, li38, li39, li40, li41, li42, li43, li44, li45, li46, li47, li48, li49, li50, li51, li52, li53, li54, li55, li56, li57, li58, li59, li60, li64, li72, li87, li97, li98, li99, li100, li101, li102, li103, li104, li105, li108, li109, li110, li111, li112, li114, li115, li116, li117, li119, li120, li124, li126, li132, li139, li140, li148, li156, li1000, li1092, li1248, cl_isGrade h]
theorem cl_reqG_x {p : Int32} (h : p < 0 ∨ nI 4 ≤ p) : fX11_requireGrade p σ = some ((1, 0), σ) := by
  unfold fX11_requireGrade
  simp (disch := omega) only [pu_OB, pu_LET, pu_OX0, pu_BND, pu_NZ, pu_BL, pu_m1, nI_add, pk_sub, pk_mul, pk_div, nI_clamp, pu_eq, pu_ne, pu_le_t, pu_le_f, pu_lt_t, pu_lt_f, pu_nm, pu_mm, pu_u2e, pu_u2n, ↓reduceIte, li0, li1, li2, li3, li4, li5, li6, li7, li8, li9, li10, li11, li12, li13, li14, li15, li16, li17, li18, li19, li20, li21, li22, li23, li24, li25, li26, li27, li28, li29, li30, li31, li32, li33, li34, li35, li36, li37, li38, li39, li40, li41, li42, li43, li44, li45, li46, li47, li48, li49, li50, li51, li52, li53, li54, li55, li56, li57, li58, li59, li60, li64, li72, li87, li97, li98, li99, li100, li101, li102, li103, li104, li105, li108, li109, li110, li111, li112, li114, li115, li116, li117, li119, li120, li124, li126, li132, li139, li140, li148, li156, li1000, li1092, li1248, cl_isGrade_x h]
end QS

