-- ===== the questions =====
section QS
variable {σ s : St} {m C : Nat} {T : List Nat}
/-- a call that changes nothing but what is rebuilt at each use -/
theorem GG.keep {σ' s' : St} (h : GG σ s C T) (hσ : ∀ c, c < 19 ∨ 38 ≤ c ∧ c < 212 ∨ c = 214 ∨ c = 215 → σ' c = σ c) (h1 : ∀ c, c = 1 ∨ 4 ≤ c ∧ c ≤ 7 → s' c = s c) (h0 : ∀ j, j = 4 ∨ j = 6 ∨ 8 ≤ j ∧ j ≤ 12 → s' 0 j = s 0 j) : GG σ' s' (C + 1) T := by
  obtain ⟨A, H, S, B, er, fl, g1, g2, g3, g4, g5, g6, g7, g8, g9⟩ := h
  exact ⟨A, H, S, B, er, fl, g1.of fun c hc => hσ _ (by omega), g2.of (fun c a b => hσ c (by omega)) (by rw [hσ _ (by omega)]) (hσ _ (by omega)), ⟨g3.1.other (h1 1 (by omega)), g3.2.other (h1 1 (by omega))⟩, g4.of (fun c a b => h1 c (by omega)) h0, g5.mono (by omega), fun i hi => (g6 i hi).mono (by omega), fun X hX => (g7 X hX).mono (by omega), g8, g9⟩
theorem GG.th {k : Int32} (h : GG σ s C T) : GG σ (u2 s 0 13 k) (C + 1) T := h.keep (fun c hc => rfl) (fun c hc => pu_u2r (by omega)) fun j hj => pu_u2n (by omega)
theorem q_ok {α : Type} {fc : Option ((Nat × α) × St)} {fr : Option (α × St)} {codes : List Nat} {r : α} (h : GG σ s C T) (hc : fc = some ((0, r), σ)) (hr : fr = some (r, u2 s 0 13 (nI 0))) : CASE fc fr codes C T :=
  ⟨0, r, σ, r, _, hc, hr, Or.inl rfl, pu_u2e ⟨rfl, rfl⟩, fun _ => rfl, h.th⟩
theorem q_x {α : Type} {fc : Option ((Nat × α) × St)} {fr : Option (α × St)} {codes : List Nat} {c k : Nat} {r r' : α} (h : GG σ s C T) (hc : fc = some ((c, r), σ)) (hr : fr = some (r', u2 s 0 13 (nI k))) (hm : c ∈ codes) (h0 : c ≠ 0) (hk : nI k = hix codes c) : CASE fc fr codes C T :=
  ⟨c, r, σ, r', _, hc, hr, Or.inr hm, by rw [pu_u2e ⟨rfl, rfl⟩]; exact hk, fun q => absurd q h0, h.th⟩
theorem q_i {fc fr : Option (Int32 × St)} {r : Int32} (h : GG σ s C T) (hc : fc = some (r, σ)) (hr : fr = some (r, u2 s 0 13 (nI 0))) : CASI fc fr C T := ⟨r, σ, _, hc, hr, h.th⟩
-- simple ones
theorem ca_time (h : GG σ s C T) : CASI (fX11_time σ) (fX12_time s) C T := by
  have h0 := h
  obtain ⟨A, H, S, B, er, fl, g1, g2, g3, g4, g5, g6, g7, g8, g9⟩ := h0
  have e1 := g1.1.time
  have e2 : s 1 0 = nI (A.1 0) := g3.1 _ (by omega) (by omega) (by omega)
  refine q_i (r := nI (A.1 0)) h ?_ ?_
  · unfold fX11_time
    rw [e1]
  · unfold fX12_time
    simp (disch := omega) only [pu_OB, pu_LET, pu_OX0, pu_BND, pu_NZ, pu_BL, pu_m1, nI_add, pk_sub, pk_mul, pk_div, nI_clamp, pu_eq, pu_ne, pu_le_t, pu_le_f, pu_lt_t, pu_lt_f, pu_nm, pu_mm, pu_u2e, pu_u2n, ↓reduceIte, li0, li1, li2, li3, li4, li5, li6, li7, li8, li9, li10, li11, li12, li13, li14, li15, li16, li17, li18, li19, li20, li21, li22, li23, li24, li25, li26, li27, li28, li29, li30, li31, li32, li33, li34, li35, li36, li37, li38, li39, li40, li41, li42, li43, li44, li45, li46, li47, li48, li49, li50, li51, li52, li53, li54, li55, li56, li57, li58, li59, li60, li64, li72, li87, li97, li98, li99, li100, li101, li102, li103, li104, li105, li108, li109, li110, li111, li112, li114, li115, li116, li117, li119, li120, li124, li126, li132, li139, li140, li148, li156, li1000, li1092, li1248, e2, rf_done]
theorem ca_scal {A : AM} {fr : Option (Int32 × St)} {fc : Option (Int32 × St)} {j : Nat} (h : GG σ s C T) (hc : fc = some (nI (A.1 j), σ)) (hr : fr = some (nI (A.1 j), u2 s 0 13 (nI 0))) : CASI fc fr C T := q_i h hc hr
theorem ca_groundTotal (h : GG σ s C T) : CASI (fX11_groundTotal σ) (fX12_groundTotal s) C T := by
  have h0 := h
  obtain ⟨A, H, S, B, er, fl, g1, g2, g3, g4, g5, g6, g7, g8, g9⟩ := h0
  have e1 := g1.1.ground
  have e2 : s 1 3 = nI (A.1 3) := g3.1 _ (by omega) (by omega) (by omega)
  refine q_i (r := nI (A.1 3)) h ?_ ?_
  · unfold fX11_groundTotal
    rw [e1]
  · unfold fX12_groundTotal
    simp (disch := omega) only [pu_OB, pu_LET, pu_OX0, pu_BND, pu_NZ, pu_BL, pu_m1, nI_add, pk_sub, pk_mul, pk_div, nI_clamp, pu_eq, pu_ne, pu_le_t, pu_le_f, pu_lt_t, pu_lt_f, pu_nm, pu_mm, pu_u2e, pu_u2n, ↓reduceIte, li0, li1, li2, li3, li4, li5, li6, li7, li8, li9, li10, li11, li12, li13, li14, li15, li16, li17, li18, li19, li20, li21, li22, li23, li24, li25, li26, li27, li28, li29, li30, li31, li32, li33, li34, li35, li36, li37, li38, li39, li40, li41, li42, li43, li44, li45, li46, li47, li48, li49, li50, li51, li52, li53, li54, li55, li56, li57, li58, li59, li60, li64, li72, li87, li97, li98, li99, li100, li101, li102, li103, li104, li105, li108, li109, li110, li111, li112, li114, li115, li116, li117, li119, li120, li124, li126, li132, li139, li140, li148, li156, li1000, li1092, li1248, e2, rf_done]
theorem ca_lostInSieves (h : GG σ s C T) : CASI (fX11_lostInSieves σ) (fX12_lostInSieves s) C T := by
  have h0 := h
  obtain ⟨A, H, S, B, er, fl, g1, g2, g3, g4, g5, g6, g7, g8, g9⟩ := h0
  have e1 := g1.1.sieved
  have e2 : s 1 4 = nI (A.1 4) := g3.1 _ (by omega) (by omega) (by omega)
  refine q_i (r := nI (A.1 4)) h ?_ ?_
  · unfold fX11_lostInSieves
    rw [e1]
  · unfold fX12_lostInSieves
    simp (disch := omega) only [pu_OB, pu_LET, pu_OX0, pu_BND, pu_NZ, pu_BL, pu_m1, nI_add, pk_sub, pk_mul, pk_div, nI_clamp, pu_eq, pu_ne, pu_le_t, pu_le_f, pu_lt_t, pu_lt_f, pu_nm, pu_mm, pu_u2e, pu_u2n, ↓reduceIte, li0, li1, li2, li3, li4, li5, li6, li7, li8, li9, li10, li11, li12, li13, li14, li15, li16, li17, li18, li19, li20, li21, li22, li23, li24, li25, li26, li27, li28, li29, li30, li31, li32, li33, li34, li35, li36, li37, li38, li39, li40, li41, li42, li43, li44, li45, li46, li47, li48, li49, li50, li51, li52, li53, li54, li55, li56, li57, li58, li59, li60, li64, li72, li87, li97, li98, li99, li100, li101, li102, li103, li104, li105, li108, li109, li110, li111, li112, li114, li115, li116, li117, li119, li120, li124, li126, li132, li139, li140, li148, li156, li1000, li1092, li1248, e2, rf_done]
theorem ca_lostForRoom (h : GG σ s C T) : CASI (fX11_lostForRoom σ) (fX12_lostForRoom s) C T := by
  have h0 := h
  obtain ⟨A, H, S, B, er, fl, g1, g2, g3, g4, g5, g6, g7, g8, g9⟩ := h0
  have e1 := g1.1.spilt
  have e2 : s 1 5 = nI (A.1 5) := g3.1 _ (by omega) (by omega) (by omega)
  refine q_i (r := nI (A.1 5)) h ?_ ?_
  · unfold fX11_lostForRoom
    rw [e1]
  · unfold fX12_lostForRoom
    simp (disch := omega) only [pu_OB, pu_LET, pu_OX0, pu_BND, pu_NZ, pu_BL, pu_m1, nI_add, pk_sub, pk_mul, pk_div, nI_clamp, pu_eq, pu_ne, pu_le_t, pu_le_f, pu_lt_t, pu_lt_f, pu_nm, pu_mm, pu_u2e, pu_u2n, ↓reduceIte, li0, li1, li2, li3, li4, li5, li6, li7, li8, li9, li10, li11, li12, li13, li14, li15, li16, li17, li18, li19, li20, li21, li22, li23, li24, li25, li26, li27, li28, li29, li30, li31, li32, li33, li34, li35, li36, li37, li38, li39, li40, li41, li42, li43, li44, li45, li46, li47, li48, li49, li50, li51, li52, li53, li54, li55, li56, li57, li58, li59, li60, li64, li72, li87, li97, li98, li99, li100, li101, li102, li103, li104, li105, li108, li109, li110, li111, li112, li114, li115, li116, li117, li119, li120, li124, li126, li132, li139, li140, li148, li156, li1000, li1092, li1248, e2, rf_done]
theorem ca_doneCount (h : GG σ s C T) : CASI (fX11_doneCount σ) (fX12_doneCount s) C T := by
  have h0 := h
  obtain ⟨A, H, S, B, er, fl, g1, g2, g3, g4, g5, g6, g7, g8, g9⟩ := h0
  have e1 := g1.1.done
  have e2 : s 1 6 = nI (A.1 6) := g3.1 _ (by omega) (by omega) (by omega)
  refine q_i (r := nI (A.1 6)) h ?_ ?_
  · unfold fX11_doneCount
    rw [e1]
  · unfold fX12_doneCount
    simp (disch := omega) only [pu_OB, pu_LET, pu_OX0, pu_BND, pu_NZ, pu_BL, pu_m1, nI_add, pk_sub, pk_mul, pk_div, nI_clamp, pu_eq, pu_ne, pu_le_t, pu_le_f, pu_lt_t, pu_lt_f, pu_nm, pu_mm, pu_u2e, pu_u2n, ↓reduceIte, li0, li1, li2, li3, li4, li5, li6, li7, li8, li9, li10, li11, li12, li13, li14, li15, li16, li17, li18, li19, li20, li21, li22, li23, li24, li25, li26, li27, li28, li29, li30, li31, li32, li33, li34, li35, li36, li37, li38, li39, li40, li41, li42, li43, li44, li45, li46, li47, li48, li49, li50, li51, li52, li53, li54, li55, li56, li57, li58, li59, li60, li64, li72, li87, li97, li98, li99, li100, li101, li102, li103, li104, li105, li108, li109, li110, li111, li112, li114, li115, li116, li117, li119, li120, li124, li126, li132, li139, li140, li148, li156, li1000, li1092, li1248, e2, rf_done]
theorem ca_waitingCount (hF : 2000 ≤ m) (hC : C < 512) (h : GG σ s C T) : CASI (fX11_waitingCount σ) (fX12_waitingCount m s) C T := by
  have h0 := h
  obtain ⟨A, H, S, B, er, fl, ⟨g1, W, hn⟩, g2, g3, g4, g5, g6, g7, g8, g9⟩ := h0
  have e1 := hn.2.1
  rw [hn.len] at e1
  have e2 := rf_waiting hF g3.1 g3.2 g5.1 (g5.B (by omega))
  refine q_i (r := nI (A.2.countP (wt A.1))) h ?_ ?_
  · unfold fX11_waitingCount
    rw [e1]
  · unfold fX12_waitingCount
    simp (disch := omega) only [pu_OB, pu_LET, pu_OX0, pu_BND, pu_NZ, pu_BL, pu_m1, nI_add, pk_sub, pk_mul, pk_div, nI_clamp, pu_eq, pu_ne, pu_le_t, pu_le_f, pu_lt_t, pu_lt_f, pu_nm, pu_mm, pu_u2e, pu_u2n, ↓reduceIte, li0, li1, li2, li3, li4, li5, li6, li7, li8, li9, li10, li11, li12, li13, li14, li15, li16, li17, li18, li19, li20, li21, li22, li23, li24, li25, li26, li27, li28, li29, li30, li31, li32, li33, li34, li35, li36, li37, li38, li39, li40, li41, li42, li43, li44, li45, li46, li47, li48, li49, li50, li51, li52, li53, li54, li55, li56, li57, li58, li59, li60, li64, li72, li87, li97, li98, li99, li100, li101, li102, li103, li104, li105, li108, li109, li110, li111, li112, li114, li115, li116, li117, li119, li120, li124, li126, li132, li139, li140, li148, li156, li1000, li1092, li1248, e2, rf_done]
-- a noise looked up
theorem cl_slot_or {A : AM} (hF : 2000 ≤ m) (hC : CR σ 0 A) (hI : IN A.1 A.2) (hB : A.1 1 < 2 ^ 30) {p : Nat} (hp : p < A.2.length) : ∃ q, q < 15 ∧ fX7_slotOf m (0 + 1) (nI (A.2.getD p z4).1) σ = some (nI q, σ) ∧ slotE σ (0 + 1) q (A.2.getD p z4) ∧ ((q < 12 ∧ wt A.1 (A.2.getD p z4) = true) ∨ ∃ w, w < 3 ∧ q = 12 + w ∧ A.1 (13 + w) = (A.2.getD p z4).1 + 1 ∧ wt A.1 (A.2.getD p z4) = false) := by
  obtain ⟨hS, W, hn⟩ := hC
  by_cases hw : wt A.1 (A.2.getD p z4) = true
  · obtain ⟨q, hq, heq⟩ := mem_getD (hn.mem.mpr ⟨getD_mem hp, hw⟩)
    have hlen : W.length ≤ 12 := by rw [hn.len]; exact hI.2.2.1
    have h1 := cl_slotOf_w (m := m) hn hI hB hF hq
    have h2 := hn.2.2.1 q hq
    rw [heq] at h1 h2
    exact ⟨q, by omega, h1, h2, Or.inl ⟨by omega, hw⟩⟩
  · replace hw := Bool.eq_false_iff.mpr hw
    obtain ⟨w, hw3, hh⟩ := wt_f_ex hw
    exact ⟨12 + w, by omega, cl_slotOf_h (m := m) hn hI hB hF hw3 (getD_mem hp) hh, (hn.2.2.2 w hw3).2 _ (getD_mem hp) hh, Or.inr ⟨w, hw3, rfl, hh, hw⟩⟩
theorem cl_slot_x {A : AM} {x : Int32} (hF : 2000 ≤ m) (hC : CR σ 0 A) (hI : IN A.1 A.2) (hB : A.1 1 < 2 ^ 30) (hx : ∀ j, j < A.2.length → nI (A.2.getD j z4).1 ≠ x) : fX7_slotOf m (0 + 1) x σ = some (mI, σ) := by
  obtain ⟨hS, W, hn⟩ := hC
  exact cl_slotOf_x (m := m) hn hI hB hF (x := x) fun e he => by
    obtain ⟨p, hp, rfl⟩ := mem_getD he
    exact hx p hp
theorem cl_reqN_x {x : Int32} (h : fX7_slotOf m (0 + 1) x σ = some (mI, σ)) : fX11_requireNoise m x σ = some ((3, 0), σ) := by
  unfold fX11_requireNoise
  simp (disch := omega) only [pu_OB, pu_LET, pu_OX0, pu_BND, pu_NZ, pu_BL, pu_m1, nI_add, pk_sub, pk_mul, pk_div, nI_clamp, pu_eq, pu_ne, pu_le_t, pu_le_f, pu_lt_t, pu_lt_f, pu_nm, pu_mm, pu_u2e, pu_u2n, ↓reduceIte, li0, li1, li2, li3, li4, li5, li6, li7, li8, li9, li10, li11, li12, li13, li14, li15, li16, li17, li18, li19, li20, li21, li22, li23, li24, li25, li26, li27, li28, li29, li30, li31, li32, li33, li34, li35, li36, li37, li38, li39, li40, li41, li42, li43, li44, li45, li46, li47, li48, li49, li50, li51, li52, li53, li54, li55, li56, li57, li58, li59, li60, li64, li72, li87, li97, li98, li99, li100, li101, li102, li103, li104, li105, li108, li109, li110, li111, li112, li114, li115, li116, li117, li119, li120, li124, li126, li132, li139, li140, li148, li156, li1000, li1092, li1248, h]
theorem cl_reqN {x : Int32} {q : Nat} (h : fX7_slotOf m (0 + 1) x σ = some (nI q, σ)) (hq : q < 15) : fX11_requireNoise m x σ = some ((0, nI q), σ) := by
  unfold fX11_requireNoise
  simp (disch := omega) only [pu_OB, pu_LET, pu_OX0, pu_BND, pu_NZ, pu_BL, pu_m1, nI_add, pk_sub, pk_mul, pk_div, nI_clamp, pu_eq, pu_ne, pu_le_t, pu_le_f, pu_lt_t, pu_lt_f, pu_nm, pu_mm, pu_u2e, pu_u2n, ↓reduceIte, li0, li1, li2, li3, li4, li5, li6, li7, li8, li9, li10, li11, li12, li13, li14, li15, li16, li17, li18, li19, li20, li21, li22, li23, li24, li25, li26, li27, li28, li29, li30, li31, li32, li33, li34, li35, li36, li37, li38, li39, li40, li41, li42, li43, li44, li45, li46, li47, li48, li49, li50, li51, li52, li53, li54, li55, li56, li57, li58, li59, li60, li64, li72, li87, li97, li98, li99, li100, li101, li102, li103, li104, li105, li108, li109, li110, li111, li112, li114, li115, li116, li117, li119, li120, li124, li126, li132, li139, li140, li148, li156, li1000, li1092, li1248, h]
theorem ca_exists (hF : 2000 ≤ m) (hC : C < 512) (h : GG σ s C T) (p : Int32) : CASI (fX11_exists m p σ) (fX12_exists m p s) C T := by
  have h0 := h
  obtain ⟨A, H, S, B, er, fl, g1, g2, g3, g4, g5, g6, g7, g8, g9⟩ := h0
  have hB := g5.B (by omega)
  have hN' : NM (u2 s 0 13 (nI 0)) 1 A.2 := g3.2.other (pu_u2r (by omega))
  rcases rf_place_or (L := A.2) (x := p) with ⟨i, hi, rfl⟩ | hx
  · obtain ⟨q, hq, e1, -, -⟩ := cl_slot_or hF g1 g5.1 hB hi
    have hl := g5.1.len
    have e2 := rf_place_at (m := m) (sc := A.1) hF hN' g5.1 hB hi
    refine q_i (r := nI 1) h ?_ ?_
    · unfold fX11_exists
      simp (disch := omega) only [pu_OB, pu_LET, pu_OX0, pu_BND, pu_NZ, pu_BL, pu_m1, nI_add, pk_sub, pk_mul, pk_div, nI_clamp, pu_eq, pu_ne, pu_le_t, pu_le_f, pu_lt_t, pu_lt_f, pu_nm, pu_mm, pu_u2e, pu_u2n, ↓reduceIte, li0, li1, li2, li3, li4, li5, li6, li7, li8, li9, li10, li11, li12, li13, li14, li15, li16, li17, li18, li19, li20, li21, li22, li23, li24, li25, li26, li27, li28, li29, li30, li31, li32, li33, li34, li35, li36, li37, li38, li39, li40, li41, li42, li43, li44, li45, li46, li47, li48, li49, li50, li51, li52, li53, li54, li55, li56, li57, li58, li59, li60, li64, li72, li87, li97, li98, li99, li100, li101, li102, li103, li104, li105, li108, li109, li110, li111, li112, li114, li115, li116, li117, li119, li120, li124, li126, li132, li139, li140, li148, li156, li1000, li1092, li1248, e1]
    · unfold fX12_exists
      simp (disch := omega) only [pu_OB, pu_LET, pu_OX0, pu_BND, pu_NZ, pu_BL, pu_m1, nI_add, pk_sub, pk_mul, pk_div, nI_clamp, pu_eq, pu_ne, pu_le_t, pu_le_f, pu_lt_t, pu_lt_f, pu_nm, pu_mm, pu_u2e, pu_u2n, ↓reduceIte, li0, li1, li2, li3, li4, li5, li6, li7, li8, li9, li10, li11, li12, li13, li14, li15, li16, li17, li18, li19, li20, li21, li22, li23, li24, li25, li26, li27, li28, li29, li30, li31, li32, li33, li34, li35, li36, li37, li38, li39, li40, li41, li42, li43, li44, li45, li46, li47, li48, li49, li50, li51, li52, li53, li54, li55, li56, li57, li58, li59, li60, li64, li72, li87, li97, li98, li99, li100, li101, li102, li103, li104, li105, li108, li109, li110, li111, li112, li114, li115, li116, li117, li119, li120, li124, li126, li132, li139, li140, li148, li156, li1000, li1092, li1248, e2]
  · have e1 := cl_slot_x (m := m) hF g1 g5.1 hB hx
    have e2 := rf_place_none (m := m) hF hN' g5.1.len hx
    refine q_i (r := nI 0) h ?_ ?_
    · unfold fX11_exists
      simp (disch := omega) only [pu_OB, pu_LET, pu_OX0, pu_BND, pu_NZ, pu_BL, pu_m1, nI_add, pk_sub, pk_mul, pk_div, nI_clamp, pu_eq, pu_ne, pu_le_t, pu_le_f, pu_lt_t, pu_lt_f, pu_nm, pu_mm, pu_u2e, pu_u2n, ↓reduceIte, li0, li1, li2, li3, li4, li5, li6, li7, li8, li9, li10, li11, li12, li13, li14, li15, li16, li17, li18, li19, li20, li21, li22, li23, li24, li25, li26, li27, li28, li29, li30, li31, li32, li33, li34, li35, li36, li37, li38, li39, li40, li41, li42, li43, li44, li45, li46, li47, li48, li49, li50, li51, li52, li53, li54, li55, li56, li57, li58, li59, li60, li64, li72, li87, li97, li98, li99, li100, li101, li102, li103, li104, li105, li108, li109, li110, li111, li112, li114, li115, li116, li117, li119, li120, li124, li126, li132, li139, li140, li148, li156, li1000, li1092, li1248, e1]
    · unfold fX12_exists
      simp (disch := omega) only [pu_OB, pu_LET, pu_OX0, pu_BND, pu_NZ, pu_BL, pu_m1, nI_add, pk_sub, pk_mul, pk_div, nI_clamp, pu_eq, pu_ne, pu_le_t, pu_le_f, pu_lt_t, pu_lt_f, pu_nm, pu_mm, pu_u2e, pu_u2n, ↓reduceIte, li0, li1, li2, li3, li4, li5, li6, li7, li8, li9, li10, li11, li12, li13, li14, li15, li16, li17, li18, li19, li20, li21, li22, li23, li24, li25, li26, li27, li28, li29, li30, li31, li32, li33, li34, li35, li36, li37, li38, li39, li40, li41, li42, li43, li44, li45, li46, li47, li48, li49, li50, li51, li52, li53, li54, li55, li56, li57, li58, li59, li60, li64, li72, li87, li97, li98, li99, li100, li101, li102, li103, li104, li105, li108, li109, li110, li111, li112, li114, li115, li116, li117, li119, li120, li124, li126, li132, li139, li140, li148, li156, li1000, li1092, li1248, e2]
theorem ca_band (hF : 2000 ≤ m) (hC : C < 512) (h : GG σ s C T) (p : Int32) : CASE (fX11_band m p σ) (fX12_band m p s) [3] C T := by
  have h0 := h
  obtain ⟨A, H, S, B, er, fl, g1, g2, g3, g4, g5, g6, g7, g8, g9⟩ := h0
  have hB := g5.B (by omega)
  unfold fX11_band fX12_band fX12_noiseNumber
  rcases rf_place_or (L := A.2) (x := p) with ⟨i, hi, rfl⟩ | hx
  · obtain ⟨q, hq, e1, e3, -⟩ := cl_slot_or hF g1 g5.1 hB hi
    have hl := g5.1.len
    have e2 := rf_place_at (m := m) hF g3.2 g5.1 hB hi
    have e4 := (g3.2.2 i hi).2.1
    have e5 := e3.2.1
    refine q_ok (r := nI (A.2.getD i z4).2.1) h ?_ ?_
    · simp (disch := omega) only [pu_OB, pu_LET, pu_OX0, pu_BND, pu_NZ, pu_BL, pu_m1, nI_add, pk_sub, pk_mul, pk_div, nI_clamp, pu_eq, pu_ne, pu_le_t, pu_le_f, pu_lt_t, pu_lt_f, pu_nm, pu_mm, pu_u2e, pu_u2n, ↓reduceIte, li0, li1, li2, li3, li4, li5, li6, li7, li8, li9, li10, li11, li12, li13, li14, li15, li16, li17, li18, li19, li20, li21, li22, li23, li24, li25, li26, li27, li28, li29, li30, li31, li32, li33, li34, li35, li36, li37, li38, li39, li40, li41, li42, li43, li44, li45, li46, li47, li48, li49, li50, li51, li52, li53, li54, li55, li56, li57, li58, li59, li60, li64, li72, li87, li97, li98, li99, li100, li101, li102, li103, li104, li105, li108, li109, li110, li111, li112, li114, li115, li116, li117, li119, li120, li124, li126, li132, li139, li140, li148, li156, li1000, li1092, li1248, cl_reqN e1 hq, e5]
    · simp (disch := omega) only [pu_OB, pu_LET, pu_OX0, pu_BND, pu_NZ, pu_BL, pu_m1, nI_add, pk_sub, pk_mul, pk_div, nI_clamp, pu_eq, pu_ne, pu_le_t, pu_le_f, pu_lt_t, pu_lt_f, pu_nm, pu_mm, pu_u2e, pu_u2n, ↓reduceIte, li0, li1, li2, li3, li4, li5, li6, li7, li8, li9, li10, li11, li12, li13, li14, li15, li16, li17, li18, li19, li20, li21, li22, li23, li24, li25, li26, li27, li28, li29, li30, li31, li32, li33, li34, li35, li36, li37, li38, li39, li40, li41, li42, li43, li44, li45, li46, li47, li48, li49, li50, li51, li52, li53, li54, li55, li56, li57, li58, li59, li60, li64, li72, li87, li97, li98, li99, li100, li101, li102, li103, li104, li105, li108, li109, li110, li111, li112, li114, li115, li116, li117, li119, li120, li124, li126, li132, li139, li140, li148, li156, li1000, li1092, li1248, e2, e4, rf_done]
  · have e2 := rf_place_none (m := m) hF g3.2 g5.1.len hx
    refine q_x (c := 3) (k := 1) (r := 0) (r' := nI 0) h ?_ ?_ (by decide) (by omega) (by decide +kernel)
    · rw [cl_reqN_x (cl_slot_x (m := m) hF g1 g5.1 hB hx), pu_OXc (by omega)]
    · simp (disch := omega) only [pu_OB, pu_LET, pu_OX0, pu_BND, pu_NZ, pu_BL, pu_m1, nI_add, pk_sub, pk_mul, pk_div, nI_clamp, pu_eq, pu_ne, pu_le_t, pu_le_f, pu_lt_t, pu_lt_f, pu_nm, pu_mm, pu_u2e, pu_u2n, ↓reduceIte, li0, li1, li2, li3, li4, li5, li6, li7, li8, li9, li10, li11, li12, li13, li14, li15, li16, li17, li18, li19, li20, li21, li22, li23, li24, li25, li26, li27, li28, li29, li30, li31, li32, li33, li34, li35, li36, li37, li38, li39, li40, li41, li42, li43, li44, li45, li46, li47, li48, li49, li50, li51, li52, li53, li54, li55, li56, li57, li58, li59, li60, li64, li72, li87, li97, li98, li99, li100, li101, li102, li103, li104, li105, li108, li109, li110, li111, li112, li114, li115, li116, li117, li119, li120, li124, li126, li132, li139, li140, li148, li156, li1000, li1092, li1248, e2, rf_fails]
theorem ca_loudness (hF : 2000 ≤ m) (hC : C < 512) (h : GG σ s C T) (p : Int32) : CASE (fX11_loudness m p σ) (fX12_loudness m p s) [3] C T := by
  have h0 := h
  obtain ⟨A, H, S, B, er, fl, g1, g2, g3, g4, g5, g6, g7, g8, g9⟩ := h0
  have hB := g5.B (by omega)
  unfold fX11_loudness fX12_loudness fX12_noiseNumber
  rcases rf_place_or (L := A.2) (x := p) with ⟨i, hi, rfl⟩ | hx
  · obtain ⟨q, hq, e1, e3, -⟩ := cl_slot_or hF g1 g5.1 hB hi
    have hl := g5.1.len
    have e2 := rf_place_at (m := m) hF g3.2 g5.1 hB hi
    have e4 := (g3.2.2 i hi).2.2.1
    have e5 := e3.2.2.1
    refine q_ok (r := nI (A.2.getD i z4).2.2.1) h ?_ ?_
    · simp (disch := omega) only [pu_OB, pu_LET, pu_OX0, pu_BND, pu_NZ, pu_BL, pu_m1, nI_add, pk_sub, pk_mul, pk_div, nI_clamp, pu_eq, pu_ne, pu_le_t, pu_le_f, pu_lt_t, pu_lt_f, pu_nm, pu_mm, pu_u2e, pu_u2n, ↓reduceIte, li0, li1, li2, li3, li4, li5, li6, li7, li8, li9, li10, li11, li12, li13, li14, li15, li16, li17, li18, li19, li20, li21, li22, li23, li24, li25, li26, li27, li28, li29, li30, li31, li32, li33, li34, li35, li36, li37, li38, li39, li40, li41, li42, li43, li44, li45, li46, li47, li48, li49, li50, li51, li52, li53, li54, li55, li56, li57, li58, li59, li60, li64, li72, li87, li97, li98, li99, li100, li101, li102, li103, li104, li105, li108, li109, li110, li111, li112, li114, li115, li116, li117, li119, li120, li124, li126, li132, li139, li140, li148, li156, li1000, li1092, li1248, cl_reqN e1 hq, e5]
    · simp (disch := omega) only [pu_OB, pu_LET, pu_OX0, pu_BND, pu_NZ, pu_BL, pu_m1, nI_add, pk_sub, pk_mul, pk_div, nI_clamp, pu_eq, pu_ne, pu_le_t, pu_le_f, pu_lt_t, pu_lt_f, pu_nm, pu_mm, pu_u2e, pu_u2n, ↓reduceIte, li0, li1, li2, li3, li4, li5, li6, li7, li8, li9, li10, li11, li12, li13, li14, li15, li16, li17, li18, li19, li20, li21, li22, li23, li24, li25, li26, li27, li28, li29, li30, li31, li32, li33, li34, li35, li36, li37, li38, li39, li40, li41, li42, li43, li44, li45, li46, li47, li48, li49, li50, li51, li52, li53, li54, li55, li56, li57, li58, li59, li60, li64, li72, li87, li97, li98, li99, li100, li101, li102, li103, li104, li105, li108, li109, li110, li111, li112, li114, li115, li116, li117, li119, li120, li124, li126, li132, li139, li140, li148, li156, li1000, li1092, li1248, e2, e4, rf_done]
  · have e2 := rf_place_none (m := m) hF g3.2 g5.1.len hx
    refine q_x (c := 3) (k := 1) (r := 0) (r' := nI 0) h ?_ ?_ (by decide) (by omega) (by decide +kernel)
    · rw [cl_reqN_x (cl_slot_x (m := m) hF g1 g5.1 hB hx), pu_OXc (by omega)]
    · simp (disch := omega) only [pu_OB, pu_LET, pu_OX0, pu_BND, pu_NZ, pu_BL, pu_m1, nI_add, pk_sub, pk_mul, pk_div, nI_clamp, pu_eq, pu_ne, pu_le_t, pu_le_f, pu_lt_t, pu_lt_f, pu_nm, pu_mm, pu_u2e, pu_u2n, ↓reduceIte, li0, li1, li2, li3, li4, li5, li6, li7, li8, li9, li10, li11, li12, li13, li14, li15, li16, li17, li18, li19, li20, li21, li22, li23, li24, li25, li26, li27, li28, li29, li30, li31, li32, li33, li34, li35, li36, li37, li38, li39, li40, li41, li42, li43, li44, li45, li46, li47, li48, li49, li50, li51, li52, li53, li54, li55, li56, li57, li58, li59, li60, li64, li72, li87, li97, li98, li99, li100, li101, li102, li103, li104, li105, li108, li109, li110, li111, li112, li114, li115, li116, li117, li119, li120, li124, li126, li132, li139, li140, li148, li156, li1000, li1092, li1248, e2, rf_fails]
theorem ca_amount (hF : 2000 ≤ m) (hC : C < 512) (h : GG σ s C T) (p : Int32) : CASE (fX11_amount m p σ) (fX12_amount m p s) [3] C T := by
  have h0 := h
  obtain ⟨A, H, S, B, er, fl, g1, g2, g3, g4, g5, g6, g7, g8, g9⟩ := h0
  have hB := g5.B (by omega)
  unfold fX11_amount fX12_amount fX12_noiseNumber
  rcases rf_place_or (L := A.2) (x := p) with ⟨i, hi, rfl⟩ | hx
  · obtain ⟨q, hq, e1, e3, -⟩ := cl_slot_or hF g1 g5.1 hB hi
    have hl := g5.1.len
    have e2 := rf_place_at (m := m) hF g3.2 g5.1 hB hi
    have e4 := (g3.2.2 i hi).2.2.2
    have e5 := e3.2.2.2
    refine q_ok (r := nI (A.2.getD i z4).2.2.2) h ?_ ?_
    · simp (disch := omega) only [pu_OB, pu_LET, pu_OX0, pu_BND, pu_NZ, pu_BL, pu_m1, nI_add, pk_sub, pk_mul, pk_div, nI_clamp, pu_eq, pu_ne, pu_le_t, pu_le_f, pu_lt_t, pu_lt_f, pu_nm, pu_mm, pu_u2e, pu_u2n, ↓reduceIte, li0, li1, li2, li3, li4, li5, li6, li7, li8, li9, li10, li11, li12, li13, li14, li15, li16, li17, li18, li19, li20, li21, li22, li23, li24, li25, li26, li27, li28, li29, li30, li31, li32, li33, li34, li35, li36, li37, li38, li39, li40, li41, li42, li43, li44, li45, li46, li47, li48, li49, li50, li51, li52, li53, li54, li55, li56, li57, li58, li59, li60, li64, li72, li87, li97, li98, li99, li100, li101, li102, li103, li104, li105, li108, li109, li110, li111, li112, li114, li115, li116, li117, li119, li120, li124, li126, li132, li139, li140, li148, li156, li1000, li1092, li1248, cl_reqN e1 hq, e5]
    · simp (disch := omega) only [pu_OB, pu_LET, pu_OX0, pu_BND, pu_NZ, pu_BL, pu_m1, nI_add, pk_sub, pk_mul, pk_div, nI_clamp, pu_eq, pu_ne, pu_le_t, pu_le_f, pu_lt_t, pu_lt_f, pu_nm, pu_mm, pu_u2e, pu_u2n, ↓reduceIte, li0, li1, li2, li3, li4, li5, li6, li7, li8, li9, li10, li11, li12, li13, li14, li15, li16, li17, li18, li19, li20, li21, li22, li23, li24, li25, li26, li27, li28, li29, li30, li31, li32, li33, li34, li35, li36, li37, li38, li39, li40, li41, li42, li43, li44, li45, li46, li47, li48, li49, li50, li51, li52, li53, li54, li55, li56, li57, li58, li59, li60, li64, li72, li87, li97, li98, li99, li100, li101, li102, li103, li104, li105, li108, li109, li110, li111, li112, li114, li115, li116, li117, li119, li120, li124, li126, li132, li139, li140, li148, li156, li1000, li1092, li1248, e2, e4, rf_done]
  · have e2 := rf_place_none (m := m) hF g3.2 g5.1.len hx
    refine q_x (c := 3) (k := 1) (r := 0) (r' := nI 0) h ?_ ?_ (by decide) (by omega) (by decide +kernel)
    · rw [cl_reqN_x (cl_slot_x (m := m) hF g1 g5.1 hB hx), pu_OXc (by omega)]
    · simp (disch := omega) only [pu_OB, pu_LET, pu_OX0, pu_BND, pu_NZ, pu_BL, pu_m1, nI_add, pk_sub, pk_mul, pk_div, nI_clamp, pu_eq, pu_ne, pu_le_t, pu_le_f, pu_lt_t, pu_lt_f, pu_nm, pu_mm, pu_u2e, pu_u2n, ↓reduceIte, li0, li1, li2, li3, li4, li5, li6, li7, li8, li9, li10, li11, li12, li13, li14, li15, li16, li17, li18, li19, li20, li21, li22, li23, li24, li25, li26, li27, li28, li29, li30, li31, li32, li33, li34, li35, li36, li37, li38, li39, li40, li41, li42, li43, li44, li45, li46, li47, li48, li49, li50, li51, li52, li53, li54, li55, li56, li57, li58, li59, li60, li64, li72, li87, li97, li98, li99, li100, li101, li102, li103, li104, li105, li108, li109, li110, li111, li112, li114, li115, li116, li117, li119, li120, li124, li126, li132, li139, li140, li148, li156, li1000, li1092, li1248, e2, rf_fails]
theorem cl_isW {q : Nat} (h : q < 15) : fX7_isWaitingSlot (nI q) σ = some (nI (if q < 12 then 1 else 0), σ) := by
  unfold fX7_isWaitingSlot
  by_cases c : q < 12
  · simp (disch := omega) only [pu_OB, pu_LET, pu_OX0, pu_BND, pu_NZ, pu_BL, pu_m1, nI_add, pk_sub, pk_mul, pk_div, nI_clamp, pu_eq, pu_ne, pu_le_t, pu_le_f, pu_lt_t, pu_lt_f, pu_nm, pu_mm, pu_u2e, pu_u2n, ↓reduceIte, li0, li1, li2, li3, li4, li5, li6, li7, li8, li9, li10, li11, li12, li13, li14, li15, li16, li17, li18, li19, li20, li21, li22, li23, li24, li25, li26, li27, li28, li29, li30, li31, li32, li33, li34, li35, li36, li37, li38, li39, li40, li41, li42, li43, li44, li45, li46, li47, li48, li49, li50, li51, li52, li53, li54, li55, li56, li57, li58, li59, li60, li64, li72, li87, li97, li98, li99, li100, li101, li102, li103, li104, li105, li108, li109, li110, li111, li112, li114, li115, li116, li117, li119, li120, li124, li126, li132, li139, li140, li148, li156, li1000, li1092, li1248, if_pos c]
  · simp (disch := omega) only [pu_OB, pu_LET, pu_OX0, pu_BND, pu_NZ, pu_BL, pu_m1, nI_add, pk_sub, pk_mul, pk_div, nI_clamp, pu_eq, pu_ne, pu_le_t, pu_le_f, pu_lt_t, pu_lt_f, pu_nm, pu_mm, pu_u2e, pu_u2n, ↓reduceIte, li0, li1, li2, li3, li4, li5, li6, li7, li8, li9, li10, li11, li12, li13, li14, li15, li16, li17, li18, li19, li20, li21, li22, li23, li24, li25, li26, li27, li28, li29, li30, li31, li32, li33, li34, li35, li36, li37, li38, li39, li40, li41, li42, li43, li44, li45, li46, li47, li48, li49, li50, li51, li52, li53, li54, li55, li56, li57, li58, li59, li60, li64, li72, li87, li97, li98, li99, li100, li101, li102, li103, li104, li105, li108, li109, li110, li111, li112, li114, li115, li116, li117, li119, li120, li124, li126, li132, li139, li140, li148, li156, li1000, li1092, li1248, if_neg c]
theorem ca_isWaiting (hF : 2000 ≤ m) (hC : C < 512) (h : GG σ s C T) (p : Int32) : CASE (fX11_isWaiting m p σ) (fX12_isWaiting m p s) [3] C T := by
  have h0 := h
  obtain ⟨A, H, S, B, er, fl, g1, g2, g3, g4, g5, g6, g7, g8, g9⟩ := h0
  have hB := g5.B (by omega)
  have hS' : SM (u2 s 0 13 (nI 0)) 1 A.1 := g3.1.other (pu_u2r (by omega))
  have hN' : NM (u2 s 0 13 (nI 0)) 1 A.2 := g3.2.other (pu_u2r (by omega))
  unfold fX11_isWaiting fX12_isWaiting
  rcases rf_place_or (L := A.2) (x := p) with ⟨i, hi, rfl⟩ | hx
  · obtain ⟨q, hq, e1, e3, e6⟩ := cl_slot_or hF g1 g5.1 hB hi
    have hl := g5.1.len
    have e2 := rf_place_at (m := m) hF g3.2 g5.1 hB hi
    rcases e6 with ⟨c, hw⟩ | ⟨w, hw3, hq9, -, hw⟩
    · have e7 := cl_isW (σ := σ) hq
      rw [if_pos c] at e7
      refine q_ok (r := nI 1) h ?_ ?_
      · simp (disch := omega) only [pu_OB, pu_LET, pu_OX0, pu_BND, pu_NZ, pu_BL, pu_m1, nI_add, pk_sub, pk_mul, pk_div, nI_clamp, pu_eq, pu_ne, pu_le_t, pu_le_f, pu_lt_t, pu_lt_f, pu_nm, pu_mm, pu_u2e, pu_u2n, ↓reduceIte, li0, li1, li2, li3, li4, li5, li6, li7, li8, li9, li10, li11, li12, li13, li14, li15, li16, li17, li18, li19, li20, li21, li22, li23, li24, li25, li26, li27, li28, li29, li30, li31, li32, li33, li34, li35, li36, li37, li38, li39, li40, li41, li42, li43, li44, li45, li46, li47, li48, li49, li50, li51, li52, li53, li54, li55, li56, li57, li58, li59, li60, li64, li72, li87, li97, li98, li99, li100, li101, li102, li103, li104, li105, li108, li109, li110, li111, li112, li114, li115, li116, li117, li119, li120, li124, li126, li132, li139, li140, li148, li156, li1000, li1092, li1248, cl_reqN e1 hq, e7]
      · simp (disch := omega) only [pu_OB, pu_LET, pu_OX0, pu_BND, pu_NZ, pu_BL, pu_m1, nI_add, pk_sub, pk_mul, pk_div, nI_clamp, pu_eq, pu_ne, pu_le_t, pu_le_f, pu_lt_t, pu_lt_f, pu_nm, pu_mm, pu_u2e, pu_u2n, ↓reduceIte, li0, li1, li2, li3, li4, li5, li6, li7, li8, li9, li10, li11, li12, li13, li14, li15, li16, li17, li18, li19, li20, li21, li22, li23, li24, li25, li26, li27, li28, li29, li30, li31, li32, li33, li34, li35, li36, li37, li38, li39, li40, li41, li42, li43, li44, li45, li46, li47, li48, li49, li50, li51, li52, li53, li54, li55, li56, li57, li58, li59, li60, li64, li72, li87, li97, li98, li99, li100, li101, li102, li103, li104, li105, li108, li109, li110, li111, li112, li114, li115, li116, li117, li119, li120, li124, li126, li132, li139, li140, li148, li156, li1000, li1092, li1248, e2, fX12_isWaiting_B17, rf_waits_t hF hS' hN' g5.1 hB hi hw]
    · have e7 := cl_isW (σ := σ) hq
      rw [if_neg (by omega)] at e7
      refine q_ok (r := nI 0) h ?_ ?_
      · simp (disch := omega) only [pu_OB, pu_LET, pu_OX0, pu_BND, pu_NZ, pu_BL, pu_m1, nI_add, pk_sub, pk_mul, pk_div, nI_clamp, pu_eq, pu_ne, pu_le_t, pu_le_f, pu_lt_t, pu_lt_f, pu_nm, pu_mm, pu_u2e, pu_u2n, ↓reduceIte, li0, li1, li2, li3, li4, li5, li6, li7, li8, li9, li10, li11, li12, li13, li14, li15, li16, li17, li18, li19, li20, li21, li22, li23, li24, li25, li26, li27, li28, li29, li30, li31, li32, li33, li34, li35, li36, li37, li38, li39, li40, li41, li42, li43, li44, li45, li46, li47, li48, li49, li50, li51, li52, li53, li54, li55, li56, li57, li58, li59, li60, li64, li72, li87, li97, li98, li99, li100, li101, li102, li103, li104, li105, li108, li109, li110, li111, li112, li114, li115, li116, li117, li119, li120, li124, li126, li132, li139, li140, li148, li156, li1000, li1092, li1248, cl_reqN e1 hq, e7]
      · simp (disch := omega) only [pu_OB, pu_LET, pu_OX0, pu_BND, pu_NZ, pu_BL, pu_m1, nI_add, pk_sub, pk_mul, pk_div, nI_clamp, pu_eq, pu_ne, pu_le_t, pu_le_f, pu_lt_t, pu_lt_f, pu_nm, pu_mm, pu_u2e, pu_u2n, ↓reduceIte, li0, li1, li2, li3, li4, li5, li6, li7, li8, li9, li10, li11, li12, li13, li14, li15, li16, li17, li18, li19, li20, li21, li22, li23, li24, li25, li26, li27, li28, li29, li30, li31, li32, li33, li34, li35, li36, li37, li38, li39, li40, li41, li42, li43, li44, li45, li46, li47, li48, li49, li50, li51, li52, li53, li54, li55, li56, li57, li58, li59, li60, li64, li72, li87, li97, li98, li99, li100, li101, li102, li103, li104, li105, li108, li109, li110, li111, li112, li114, li115, li116, li117, li119, li120, li124, li126, li132, li139, li140, li148, li156, li1000, li1092, li1248, e2, fX12_isWaiting_B17, rf_waits_f hF hS' hN' g5.1 hB hi hw]
  · have e2 := rf_place_none (m := m) hF g3.2 g5.1.len hx
    refine q_x (c := 3) (k := 1) (r := 0) (r' := nI 0) h ?_ ?_ (by decide) (by omega) (by decide +kernel)
    · rw [cl_reqN_x (cl_slot_x (m := m) hF g1 g5.1 hB hx), pu_OXc (by omega)]
    · simp (disch := omega) only [pu_OB, pu_LET, pu_OX0, pu_BND, pu_NZ, pu_BL, pu_m1, nI_add, pk_sub, pk_mul, pk_div, nI_clamp, pu_eq, pu_ne, pu_le_t, pu_le_f, pu_lt_t, pu_lt_f, pu_nm, pu_mm, pu_u2e, pu_u2n, ↓reduceIte, li0, li1, li2, li3, li4, li5, li6, li7, li8, li9, li10, li11, li12, li13, li14, li15, li16, li17, li18, li19, li20, li21, li22, li23, li24, li25, li26, li27, li28, li29, li30, li31, li32, li33, li34, li35, li36, li37, li38, li39, li40, li41, li42, li43, li44, li45, li46, li47, li48, li49, li50, li51, li52, li53, li54, li55, li56, li57, li58, li59, li60, li64, li72, li87, li97, li98, li99, li100, li101, li102, li103, li104, li105, li108, li109, li110, li111, li112, li114, li115, li116, li117, li119, li120, li124, li126, li132, li139, li140, li148, li156, li1000, li1092, li1248, e2, fX12_isWaiting_B17]
theorem hw_at {sc : Nat → Nat} {L : List E4} {w n : Nat} (hI : IN sc L) (hw : w < 3) (h : sc (13 + w) = n + 1) : hwI sc n = nI w := by
  unfold hwI
  have f := fun v (hv : v < 3) (hne : w ≠ v) => hI.2.2.2.2.1 w v hw hv hne
  rcases (show w = 0 ∨ w = 1 ∨ w = 2 by omega) with rfl | rfl | rfl
  · exact if_pos h
  · have k1 : sc 14 = 0 ∨ sc 14 ≠ sc 13 := f 0 (by omega) (by omega)
    have h : sc 14 = n + 1 := h
    rw [if_neg (by omega), if_pos h]
  · have k1 : sc 15 = 0 ∨ sc 15 ≠ sc 13 := f 0 (by omega) (by omega)
    have k2 : sc 15 = 0 ∨ sc 15 ≠ sc 14 := f 1 (by omega) (by omega)
    have h : sc 15 = n + 1 := h
    rw [if_neg (by omega), if_neg (by omega), if_pos h]
theorem ca_wheelOf (hF : 2000 ≤ m) (hC : C < 512) (h : GG σ s C T) (p : Int32) : CASE (fX11_wheelOf m p σ) (fX12_wheelOf m p s) [3] C T := by
  have h0 := h
  obtain ⟨A, H, S, B, er, fl, g1, g2, g3, g4, g5, g6, g7, g8, g9⟩ := h0
  have hB := g5.B (by omega)
  unfold fX11_wheelOf fX12_wheelOf
  rcases rf_place_or (L := A.2) (x := p) with ⟨i, hi, rfl⟩ | hx
  · obtain ⟨q, hq, e1, e3, e6⟩ := cl_slot_or hF g1 g5.1 hB hi
    have hl := g5.1.len
    have e2 := rf_place_at (m := m) hF g3.2 g5.1 hB hi
    have hi9 := (g5.1.at hi).1
    have e8 := rf_holder (m := m) (x := (A.2.getD i z4).1) hF g3.1 g5.1 hB (by omega)
    rcases e6 with ⟨c, hw⟩ | ⟨w, hw3, hq9, hh, hw⟩
    · have e7 := cl_isW (σ := σ) hq
      rw [if_pos c] at e7
      have e9 : hwI A.1 (A.2.getD i z4).1 = mI := by
        have h3 := wt_t.mp hw
        rw [hwI, if_neg h3.1, if_neg h3.2.1, if_neg h3.2.2]
      refine q_x (c := 3) (k := 1) (r := 0) (r' := nI 0) h ?_ ?_ (by decide) (by omega) (by decide +kernel)
      · simp (disch := omega) only [pu_OB, pu_LET, pu_OX0, pu_BND, pu_NZ, pu_BL, pu_m1, nI_add, pk_sub, pk_mul, pk_div, nI_clamp, pu_eq, pu_ne, pu_le_t, pu_le_f, pu_lt_t, pu_lt_f, pu_nm, pu_mm, pu_u2e, pu_u2n, ↓reduceIte, li0, li1, li2, li3, li4, li5, li6, li7, li8, li9, li10, li11, li12, li13, li14, li15, li16, li17, li18, li19, li20, li21, li22, li23, li24, li25, li26, li27, li28, li29, li30, li31, li32, li33, li34, li35, li36, li37, li38, li39, li40, li41, li42, li43, li44, li45, li46, li47, li48, li49, li50, li51, li52, li53, li54, li55, li56, li57, li58, li59, li60, li64, li72, li87, li97, li98, li99, li100, li101, li102, li103, li104, li105, li108, li109, li110, li111, li112, li114, li115, li116, li117, li119, li120, li124, li126, li132, li139, li140, li148, li156, li1000, li1092, li1248, cl_reqN e1 hq, e7]
      · simp (disch := omega) only [pu_OB, pu_LET, pu_OX0, pu_BND, pu_NZ, pu_BL, pu_m1, nI_add, pk_sub, pk_mul, pk_div, nI_clamp, pu_eq, pu_ne, pu_le_t, pu_le_f, pu_lt_t, pu_lt_f, pu_nm, pu_mm, pu_u2e, pu_u2n, ↓reduceIte, li0, li1, li2, li3, li4, li5, li6, li7, li8, li9, li10, li11, li12, li13, li14, li15, li16, li17, li18, li19, li20, li21, li22, li23, li24, li25, li26, li27, li28, li29, li30, li31, li32, li33, li34, li35, li36, li37, li38, li39, li40, li41, li42, li43, li44, li45, li46, li47, li48, li49, li50, li51, li52, li53, li54, li55, li56, li57, li58, li59, li60, li64, li72, li87, li97, li98, li99, li100, li101, li102, li103, li104, li105, li108, li109, li110, li111, li112, li114, li115, li116, li117, li119, li120, li124, li126, li132, li139, li140, li148, li156, li1000, li1092, li1248, e2, e8, e9, fX12_wheelOf_B18, rf_fails]
    · have e7 := cl_isW (σ := σ) hq
      rw [if_neg (by omega)] at e7
      have e9 := hw_at g5.1 hw3 hh
      have e10 : fX7_wheelOfSlot (nI q) σ = some (nI w, σ) := by
        unfold fX7_wheelOfSlot
        have : nI q - 12 = nI (q - 12) := pk_sub (a := q) (b := 12) (by omega)
        rw [this, hq9, Nat.add_sub_cancel_left]
      refine q_ok (r := nI w) h ?_ ?_
      · simp (disch := omega) only [pu_OB, pu_LET, pu_OX0, pu_BND, pu_NZ, pu_BL, pu_m1, nI_add, pk_sub, pk_mul, pk_div, nI_clamp, pu_eq, pu_ne, pu_le_t, pu_le_f, pu_lt_t, pu_lt_f, pu_nm, pu_mm, pu_u2e, pu_u2n, ↓reduceIte, li0, li1, li2, li3, li4, li5, li6, li7, li8, li9, li10, li11, li12, li13, li14, li15, li16, li17, li18, li19, li20, li21, li22, li23, li24, li25, li26, li27, li28, li29, li30, li31, li32, li33, li34, li35, li36, li37, li38, li39, li40, li41, li42, li43, li44, li45, li46, li47, li48, li49, li50, li51, li52, li53, li54, li55, li56, li57, li58, li59, li60, li64, li72, li87, li97, li98, li99, li100, li101, li102, li103, li104, li105, li108, li109, li110, li111, li112, li114, li115, li116, li117, li119, li120, li124, li126, li132, li139, li140, li148, li156, li1000, li1092, li1248, cl_reqN e1 hq, e7, e10]
      · simp (disch := omega) only [pu_OB, pu_LET, pu_OX0, pu_BND, pu_NZ, pu_BL, pu_m1, nI_add, pk_sub, pk_mul, pk_div, nI_clamp, pu_eq, pu_ne, pu_le_t, pu_le_f, pu_lt_t, pu_lt_f, pu_nm, pu_mm, pu_u2e, pu_u2n, ↓reduceIte, li0, li1, li2, li3, li4, li5, li6, li7, li8, li9, li10, li11, li12, li13, li14, li15, li16, li17, li18, li19, li20, li21, li22, li23, li24, li25, li26, li27, li28, li29, li30, li31, li32, li33, li34, li35, li36, li37, li38, li39, li40, li41, li42, li43, li44, li45, li46, li47, li48, li49, li50, li51, li52, li53, li54, li55, li56, li57, li58, li59, li60, li64, li72, li87, li97, li98, li99, li100, li101, li102, li103, li104, li105, li108, li109, li110, li111, li112, li114, li115, li116, li117, li119, li120, li124, li126, li132, li139, li140, li148, li156, li1000, li1092, li1248, e2, e8, e9, fX12_wheelOf_B18, rf_done]
  · have e2 := rf_place_none (m := m) hF g3.2 g5.1.len hx
    refine q_x (c := 3) (k := 1) (r := 0) (r' := nI 0) h ?_ ?_ (by decide) (by omega) (by decide +kernel)
    · rw [cl_reqN_x (cl_slot_x (m := m) hF g1 g5.1 hB hx), pu_OXc (by omega)]
    · simp (disch := omega) only [pu_OB, pu_LET, pu_OX0, pu_BND, pu_NZ, pu_BL, pu_m1, nI_add, pk_sub, pk_mul, pk_div, nI_clamp, pu_eq, pu_ne, pu_le_t, pu_le_f, pu_lt_t, pu_lt_f, pu_nm, pu_mm, pu_u2e, pu_u2n, ↓reduceIte, li0, li1, li2, li3, li4, li5, li6, li7, li8, li9, li10, li11, li12, li13, li14, li15, li16, li17, li18, li19, li20, li21, li22, li23, li24, li25, li26, li27, li28, li29, li30, li31, li32, li33, li34, li35, li36, li37, li38, li39, li40, li41, li42, li43, li44, li45, li46, li47, li48, li49, li50, li51, li52, li53, li54, li55, li56, li57, li58, li59, li60, li64, li72, li87, li97, li98, li99, li100, li101, li102, li103, li104, li105, li108, li109, li110, li111, li112, li114, li115, li116, li117, li119, li120, li124, li126, li132, li139, li140, li148, li156, li1000, li1092, li1248, e2, fX12_wheelOf_B18, rf_fails]
theorem rk_wlt {A : AM} {W : List E4} (hn : NRW σ (0 + 1) A.1 A.2 W) {e : E4} : rk A.1 A.2 e ≤ W.length := by
  rw [← hn.rk]
  exact List.countP_le_length
theorem ca_rankOf (hF : 2000 ≤ m) (hC : C < 512) (h : GG σ s C T) (p : Int32) : CASE (fX11_rankOf m p σ) (fX12_rankOf m p s) [3, 4] C T := by
  have h0 := h
  obtain ⟨A, H, S, B, er, fl, g1, g2, g3, g4, g5, g6, g7, g8, g9⟩ := h0
  have hB := g5.B (by omega)
  unfold fX11_rankOf fX12_rankOf
  rcases rf_place_or (L := A.2) (x := p) with ⟨i, hi, rfl⟩ | hx
  · obtain ⟨q, hq, e1, e3, e6⟩ := cl_slot_or hF g1 g5.1 hB hi
    have hl := g5.1.len
    have e2 := rf_place_at (m := m) hF g3.2 g5.1 hB hi
    have hi9 := g5.1.at hi
    rcases e6 with ⟨c, hw⟩ | ⟨w, hw3, hq9, hh, hw⟩
    · have e7 := cl_isW (σ := σ) hq
      rw [if_pos c] at e7
      obtain ⟨-, W, hn⟩ := g1
      have e8 := cl_countBefore (m := m) hn g5.1 hB hF hq e3 (by omega)
      have e9 := rf_rank hF g3.1 g3.2 g5.1 hB hi
      refine q_ok (r := nI (rk A.1 A.2 (A.2.getD i z4))) h ?_ ?_
      · simp (disch := omega) only [pu_OB, pu_LET, pu_OX0, pu_BND, pu_NZ, pu_BL, pu_m1, nI_add, pk_sub, pk_mul, pk_div, nI_clamp, pu_eq, pu_ne, pu_le_t, pu_le_f, pu_lt_t, pu_lt_f, pu_nm, pu_mm, pu_u2e, pu_u2n, ↓reduceIte, li0, li1, li2, li3, li4, li5, li6, li7, li8, li9, li10, li11, li12, li13, li14, li15, li16, li17, li18, li19, li20, li21, li22, li23, li24, li25, li26, li27, li28, li29, li30, li31, li32, li33, li34, li35, li36, li37, li38, li39, li40, li41, li42, li43, li44, li45, li46, li47, li48, li49, li50, li51, li52, li53, li54, li55, li56, li57, li58, li59, li60, li64, li72, li87, li97, li98, li99, li100, li101, li102, li103, li104, li105, li108, li109, li110, li111, li112, li114, li115, li116, li117, li119, li120, li124, li126, li132, li139, li140, li148, li156, li1000, li1092, li1248, cl_reqN e1 hq, e7, e8]
      · simp (disch := omega) only [pu_OB, pu_LET, pu_OX0, pu_BND, pu_NZ, pu_BL, pu_m1, nI_add, pk_sub, pk_mul, pk_div, nI_clamp, pu_eq, pu_ne, pu_le_t, pu_le_f, pu_lt_t, pu_lt_f, pu_nm, pu_mm, pu_u2e, pu_u2n, ↓reduceIte, li0, li1, li2, li3, li4, li5, li6, li7, li8, li9, li10, li11, li12, li13, li14, li15, li16, li17, li18, li19, li20, li21, li22, li23, li24, li25, li26, li27, li28, li29, li30, li31, li32, li33, li34, li35, li36, li37, li38, li39, li40, li41, li42, li43, li44, li45, li46, li47, li48, li49, li50, li51, li52, li53, li54, li55, li56, li57, li58, li59, li60, li64, li72, li87, li97, li98, li99, li100, li101, li102, li103, li104, li105, li108, li109, li110, li111, li112, li114, li115, li116, li117, li119, li120, li124, li126, li132, li139, li140, li148, li156, li1000, li1092, li1248, e2, rf_waits_t hF g3.1 g3.2 g5.1 hB hi hw, e9, rf_done]
    · have e7 := cl_isW (σ := σ) hq
      rw [if_neg (by omega)] at e7
      refine q_x (c := 4) (k := 2) (r := 0) (r' := nI 0) h ?_ ?_ (by decide) (by omega) (by decide +kernel)
      · simp (disch := omega) only [pu_OB, pu_LET, pu_OX0, pu_BND, pu_NZ, pu_BL, pu_m1, nI_add, pk_sub, pk_mul, pk_div, nI_clamp, pu_eq, pu_ne, pu_le_t, pu_le_f, pu_lt_t, pu_lt_f, pu_nm, pu_mm, pu_u2e, pu_u2n, ↓reduceIte, li0, li1, li2, li3, li4, li5, li6, li7, li8, li9, li10, li11, li12, li13, li14, li15, li16, li17, li18, li19, li20, li21, li22, li23, li24, li25, li26, li27, li28, li29, li30, li31, li32, li33, li34, li35, li36, li37, li38, li39, li40, li41, li42, li43, li44, li45, li46, li47, li48, li49, li50, li51, li52, li53, li54, li55, li56, li57, li58, li59, li60, li64, li72, li87, li97, li98, li99, li100, li101, li102, li103, li104, li105, li108, li109, li110, li111, li112, li114, li115, li116, li117, li119, li120, li124, li126, li132, li139, li140, li148, li156, li1000, li1092, li1248, cl_reqN e1 hq, e7]
      · simp (disch := omega) only [pu_OB, pu_LET, pu_OX0, pu_BND, pu_NZ, pu_BL, pu_m1, nI_add, pk_sub, pk_mul, pk_div, nI_clamp, pu_eq, pu_ne, pu_le_t, pu_le_f, pu_lt_t, pu_lt_f, pu_nm, pu_mm, pu_u2e, pu_u2n, ↓reduceIte, li0, li1, li2, li3, li4, li5, li6, li7, li8, li9, li10, li11, li12, li13, li14, li15, li16, li17, li18, li19, li20, li21, li22, li23, li24, li25, li26, li27, li28, li29, li30, li31, li32, li33, li34, li35, li36, li37, li38, li39, li40, li41, li42, li43, li44, li45, li46, li47, li48, li49, li50, li51, li52, li53, li54, li55, li56, li57, li58, li59, li60, li64, li72, li87, li97, li98, li99, li100, li101, li102, li103, li104, li105, li108, li109, li110, li111, li112, li114, li115, li116, li117, li119, li120, li124, li126, li132, li139, li140, li148, li156, li1000, li1092, li1248, e2, rf_waits_f hF g3.1 g3.2 g5.1 hB hi hw, rf_fails]
  · have e2 := rf_place_none (m := m) hF g3.2 g5.1.len hx
    refine q_x (c := 3) (k := 1) (r := 0) (r' := nI 0) h ?_ ?_ (by decide) (by omega) (by decide +kernel)
    · rw [cl_reqN_x (cl_slot_x (m := m) hF g1 g5.1 hB hx), pu_OXc (by omega)]
    · simp (disch := omega) only [pu_OB, pu_LET, pu_OX0, pu_BND, pu_NZ, pu_BL, pu_m1, nI_add, pk_sub, pk_mul, pk_div, nI_clamp, pu_eq, pu_ne, pu_le_t, pu_le_f, pu_lt_t, pu_lt_f, pu_nm, pu_mm, pu_u2e, pu_u2n, ↓reduceIte, li0, li1, li2, li3, li4, li5, li6, li7, li8, li9, li10, li11, li12, li13, li14, li15, li16, li17, li18, li19, li20, li21, li22, li23, li24, li25, li26, li27, li28, li29, li30, li31, li32, li33, li34, li35, li36, li37, li38, li39, li40, li41, li42, li43, li44, li45, li46, li47, li48, li49, li50, li51, li52, li53, li54, li55, li56, li57, li58, li59, li60, li64, li72, li87, li97, li98, li99, li100, li101, li102, li103, li104, li105, li108, li109, li110, li111, li112, li114, li115, li116, li117, li119, li120, li124, li126, li132, li139, li140, li148, li156, li1000, li1092, li1248, e2, rf_fails]
-- wheels, bands, grades
theorem cl_reqW {w : Nat} (h : w < 3) : fX11_requireWheel (nI w) σ = some ((0, 0), σ) := by
  unfold fX11_requireWheel
  simp (disch := omega) only [pu_OB, pu_LET, pu_OX0, pu_BND, pu_NZ, pu_BL, pu_m1, nI_add, pk_sub, pk_mul, pk_div, nI_clamp, pu_eq, pu_ne, pu_le_t, pu_le_f, pu_lt_t, pu_lt_f, pu_nm, pu_mm, pu_u2e, pu_u2n, ↓reduceIte, li0, li1, li2, li3, li4, li5, li6, li7, li8, li9, li10, li11, li12, li13, li14, li15, li16, li17, li18, li19, li20, li21, li22, li23, li24, li25, li26, li27, li28, li29, li30, li31, li32, li33, li34, li35, li36, li37, li38, li39, li40, li41, li42, li43, li44, li45, li46, li47, li48, li49, li50, li51, li52, li53, li54, li55, li56, li57, li58, li59, li60, li64, li72, li87, li97, li98, li99, li100, li101, li102, li103, li104, li105, li108, li109, li110, li111, li112, li114, li115, li116, li117, li119, li120, li124, li126, li132, li139, li140, li148, li156, li1000, li1092, li1248, cl_isWheel h]
theorem cl_reqW_x {p : Int32} (h : p < 0 ∨ nI 3 ≤ p) : fX11_requireWheel p σ = some ((2, 0), σ) := by
  unfold fX11_requireWheel
  simp (disch := omega) only [pu_OB, pu_LET, pu_OX0, pu_BND, pu_NZ, pu_BL, pu_m1, nI_add, pk_sub, pk_mul, pk_div, nI_clamp, pu_eq, pu_ne, pu_le_t, pu_le_f, pu_lt_t, pu_lt_f, pu_nm, pu_mm, pu_u2e, pu_u2n, ↓reduceIte, li0, li1, li2, li3, li4, li5, li6, li7, li8, li9, li10, li11, li12, li13, li14, li15, li16, li17, li18, li19, li20, li21, li22, li23, li24, li25, li26, li27, li28, li29, li30, li31, li32, li33, li34, li35, li36, li37, li38, li39, li40, li41, li42, li43, li44, li45, li46, li47, li48, li49, li50, li51, li52, li53, li54, li55, li56, li57, li58, li59, li60, li64, li72, li87, li97, li98, li99, li100, li101, li102, li103, li104, li105, li108, li109, li110, li111, li112, li114, li115, li116, li117, li119, li120, li124, li126, li132, li139, li140, li148, li156, li1000, li1092, li1248, cl_isWheel_x h]
theorem cl_reqB {w : Nat} (h : w < 8) : fX11_requireBand (nI w) σ = some ((0, 0), σ) := by
  unfold fX11_requireBand
  simp (disch := omega) only [pu_OB, pu_LET, pu_OX0, pu_BND, pu_NZ, pu_BL, pu_m1, nI_add, pk_sub, pk_mul, pk_div, nI_clamp, pu_eq, pu_ne, pu_le_t, pu_le_f, pu_lt_t, pu_lt_f, pu_nm, pu_mm, pu_u2e, pu_u2n, ↓reduceIte, li0, li1, li2, li3, li4, li5, li6, li7, li8, li9, li10, li11, li12, li13, li14, li15, li16, li17, li18, li19, li20, li21, li22, li23, li24, li25, li26, li27, li28, li29, li30, li31, li32, li33, li34, li35, li36, li37, li38, li39, li40, li41, li42, li43, li44, li45, li46, li47, li48, li49, li50, li51, li52, li53, li54, li55, li56, li57, li58, li59, li60, li64, li72, li87, li97, li98, li99, li100, li101, li102, li103, li104, li105, li108, li109, li110, li111, li112, li114, li115, li116, li117, li119, li120, li124, li126, li132, li139, li140, li148, li156, li1000, li1092, li1248, cl_isBand h]
theorem cl_reqB_x {p : Int32} (h : p < 0 ∨ nI 8 ≤ p) : fX11_requireBand p σ = some ((1, 0), σ) := by
  unfold fX11_requireBand
  simp (disch := omega) only [pu_OB, pu_LET, pu_OX0, pu_BND, pu_NZ, pu_BL, pu_m1, nI_add, pk_sub, pk_mul, pk_div, nI_clamp, pu_eq, pu_ne, pu_le_t, pu_le_f, pu_lt_t, pu_lt_f, pu_nm, pu_mm, pu_u2e, pu_u2n, ↓reduceIte, li0, li1, li2, li3, li4, li5, li6, li7, li8, li9, li10, li11, li12, li13, li14, li15, li16, li17, li18, li19, li20, li21, li22, li23, li24, li25, li26, li27, li28, li29, li30, li31, li32, li33, li34, li35, li36, li37, li38, li39, li40, li41, li42, li43, li44, li45, li46, li47, li48, li49, li50, li51, li52, li53, li54, li55, li56, li57, li58, li59, li60, li64, li72, li87, li97, li98, li99, li100, li101, li102, li103, li104, li105, li108, li109, li110, li111, li112, li114, li115, li116, li117, li119, li120, li124, li126, li132, li139, li140, li148, li156, li1000, li1092, li1248, cl_isBand_x h]
theorem cl_reqG {w : Nat} (h : w < 4) : fX11_requireGrade (nI w) σ = some ((0, 0), σ) := by
  unfold fX11_requireGrade
  simp (disch := omega) only [pu_OB, pu_LET, pu_OX0, pu_BND, pu_NZ, pu_BL, pu_m1, nI_add, pk_sub, pk_mul, pk_div, nI_clamp, pu_eq, pu_ne, pu_le_t, pu_le_f, pu_lt_t, pu_lt_f, pu_nm, pu_mm, pu_u2e, pu_u2n, ↓reduceIte, li0, li1, li2, li3, li4, li5, li6, li7, li8, li9, li10, li11, li12, li13, li14, li15, li16, li17, li18, li19, li20, li21, li22, li23, li24, li25, li26, li27, li28, li29, li30, li31, li32, li33, li34, li35, li36, li37, li38, li39, li40, li41, li42, li43, li44, li45, li46, li47, li48, li49, li50, li51, li52, li53, li54, li55, li56, li57, li58, li59, li60, li64, li72, li87, li97, li98, li99, li100, li101, li102, li103, li104, li105, li108, li109, li110, li111, li112, li114, li115, li116, li117, li119, li120, li124, li126, li132, li139, li140, li148, li156, li1000, li1092, li1248, cl_isGrade h]
theorem cl_reqG_x {p : Int32} (h : p < 0 ∨ nI 4 ≤ p) : fX11_requireGrade p σ = some ((1, 0), σ) := by
  unfold fX11_requireGrade
  simp (disch := omega) only [pu_OB, pu_LET, pu_OX0, pu_BND, pu_NZ, pu_BL, pu_m1, nI_add, pk_sub, pk_mul, pk_div, nI_clamp, pu_eq, pu_ne, pu_le_t, pu_le_f, pu_lt_t, pu_lt_f, pu_nm, pu_mm, pu_u2e, pu_u2n, ↓reduceIte, li0, li1, li2, li3, li4, li5, li6, li7, li8, li9, li10, li11, li12, li13, li14, li15, li16, li17, li18, li19, li20, li21, li22, li23, li24, li25, li26, li27, li28, li29, li30, li31, li32, li33, li34, li35, li36, li37, li38, li39, li40, li41, li42, li43, li44, li45, li46, li47, li48, li49, li50, li51, li52, li53, li54, li55, li56, li57, li58, li59, li60, li64, li72, li87, li97, li98, li99, li100, li101, li102, li103, li104, li105, li108, li109, li110, li111, li112, li114, li115, li116, li117, li119, li120, li124, li126, li132, li139, li140, li148, li156, li1000, li1092, li1248, cl_isGrade_x h]
end QS
