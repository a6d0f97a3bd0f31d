-- ===== p61: what the questions answer of the abstract mill =====
section QU
variable {σ : St} {m C : Nat} {A : AM} {H : List AM} {S : Option AM} {B : List Nat} {er fl : Option Nat}
theorem KG.trial {τ : St} (h : KG σ A H S B er fl C) (hσ : ∀ c, c < 19 ∨ 38 ≤ c ∧ c < 212 ∨ c = 214 ∨ c = 215 → τ c = σ c) : KG τ A H S B er fl C :=
  ⟨h.1.of fun c hc => hσ _ (by omega), h.2.1.of (fun c a b => hσ c (by omega)) (by rw [hσ _ (by omega)]) (hσ _ (by omega)), h.2.2⟩
theorem KG.nb (h : KG σ A H S B er fl C) (hC : C < 512) : A.1 1 < 2 ^ 30 := by have := h.2.2.1.2.1; omega
theorem q_time (h : KG σ A H S B er fl C) : fX11_time σ = some (nI (A.1 0), σ) := by
  unfold fX11_time
  rw [h.1.1.time]
theorem q_ground (h : KG σ A H S B er fl C) : fX11_groundTotal σ = some (nI (A.1 3), σ) := by
  have e1 := h.1.1.ground
  unfold fX11_groundTotal
  rw [e1]
theorem q_sieved (h : KG σ A H S B er fl C) : fX11_lostInSieves σ = some (nI (A.1 4), σ) := by
  have e1 := h.1.1.sieved
  unfold fX11_lostInSieves
  rw [e1]
theorem q_spilt (h : KG σ A H S B er fl C) : fX11_lostForRoom σ = some (nI (A.1 5), σ) := by
  have e1 := h.1.1.spilt
  unfold fX11_lostForRoom
  rw [e1]
theorem q_done (h : KG σ A H S B er fl C) : fX11_doneCount σ = some (nI (A.1 6), σ) := by
  have e1 := h.1.1.done
  unfold fX11_doneCount
  rw [e1]
/-- how many noises wait -/
def wN (A : AM) : Nat := A.2.countP (wt A.1)
theorem q_wcount (h : KG σ A H S B er fl C) : fX11_waitingCount σ = some (nI (wN A), σ) := by
  obtain ⟨-, W, hn⟩ := h.1
  have e1 := hn.2.1
  rw [hn.len] at e1
  unfold fX11_waitingCount
  rw [e1]
  rfl
theorem q_exists_t (hF : 2000 ≤ m) (hC : C < 512) (h : KG σ A H S B er fl C) {i : Nat} (hi : i < A.2.length) : fX11_exists m (nI (A.2.getD i z4).1) σ = some (nI 1, σ) := by
  obtain ⟨q, hq, e1, -, -⟩ := cl_slot_or hF h.1 h.2.2.1.1 (h.nb hC) hi
  unfold fX11_exists
  simp (disch := omega) only [pu_OB, pu_LET, pu_OX0, pu_BND, pu_NZ, pu_BL, pu_m1, nI_add, pk_sub, pk_mul, pk_div, nI_clamp, pu_eq, pu_ne, pu_le_t, pu_le_f, pu_lt_t, pu_lt_f, pu_nm, pu_mm, pu_u2e, pu_u2n, ↓reduceIte, li0, li1, li2, li3, li4, li5, li6, li7, li8, li9, li10, li11, li12, li13, li14, li15, li16, li17, li18, li19, li20, li21, li22, li23, li24, li25, li26, li27, li28, li29, li30, li31, li32, li33, li34, li35, li36, li37, li38, li39, li40, li41, li42, li43, li44, li45, li46, li47, li48, li49, li50, li51, li52, li53, li54, li55, li56, li57, li58, li59, li60, li64, li72, li87, li97, li98, li99, li100, li101, li102, li103, li104, li105, li108, li109, li110, li111, li112, li114, li115, li116, li117, li119, li120, li124, li126, li132, li139, li140, li148, li156, li1000, li1092, li1248, e1]
theorem q_exists_f (hF : 2000 ≤ m) (hC : C < 512) (h : KG σ A H S B er fl C) {x : Int32} (hx : ∀ j, j < A.2.length → nI (A.2.getD j z4).1 ≠ x) : fX11_exists m x σ = some (nI 0, σ) := by
  have e1 := cl_slot_x (m := m) hF h.1 h.2.2.1.1 (h.nb hC) hx
  unfold fX11_exists
  simp (disch := omega) only [pu_OB, pu_LET, pu_OX0, pu_BND, pu_NZ, pu_BL, pu_m1, nI_add, pk_sub, pk_mul, pk_div, nI_clamp, pu_eq, pu_ne, pu_le_t, pu_le_f, pu_lt_t, pu_lt_f, pu_nm, pu_mm, pu_u2e, pu_u2n, ↓reduceIte, li0, li1, li2, li3, li4, li5, li6, li7, li8, li9, li10, li11, li12, li13, li14, li15, li16, li17, li18, li19, li20, li21, li22, li23, li24, li25, li26, li27, li28, li29, li30, li31, li32, li33, li34, li35, li36, li37, li38, li39, li40, li41, li42, li43, li44, li45, li46, li47, li48, li49, li50, li51, li52, li53, li54, li55, li56, li57, li58, li59, li60, li64, li72, li87, li97, li98, li99, li100, li101, li102, li103, li104, li105, li108, li109, li110, li111, li112, li114, li115, li116, li117, li119, li120, li124, li126, li132, li139, li140, li148, li156, li1000, li1092, li1248, e1]
theorem q_band (hF : 2000 ≤ m) (hC : C < 512) (h : KG σ A H S B er fl C) {i : Nat} (hi : i < A.2.length) : fX11_band m (nI (A.2.getD i z4).1) σ = some ((0, nI (A.2.getD i z4).2.1), σ) := by
  obtain ⟨q, hq, e1, e3, -⟩ := cl_slot_or hF h.1 h.2.2.1.1 (h.nb hC) hi
  have e5 := e3.2.1
  unfold fX11_band
  simp (disch := omega) only [pu_OB, pu_LET, pu_OX0, pu_BND, pu_NZ, pu_BL, pu_m1, nI_add, pk_sub, pk_mul, pk_div, nI_clamp, pu_eq, pu_ne, pu_le_t, pu_le_f, pu_lt_t, pu_lt_f, pu_nm, pu_mm, pu_u2e, pu_u2n, ↓reduceIte, li0, li1, li2, li3, li4, li5, li6, li7, li8, li9, li10, li11, li12, li13, li14, li15, li16, li17, li18, li19, li20, li21, li22, li23, li24, li25, li26, li27, li28, li29, li30, li31, li32, li33, li34, li35, li36, li37, li38, li39, li40, li41, li42, li43, li44, li45, li46, li47, li48, li49, li50, li51, li52, li53, li54, li55, li56, li57, li58, li59, li60, li64, li72, li87, li97, li98, li99, li100, li101, li102, li103, li104, li105, li108, li109, li110, li111, li112, li114, li115, li116, li117, li119, li120, li124, li126, li132, li139, li140, li148, li156, li1000, li1092, li1248, cl_reqN e1 hq, e5]
theorem q_loudness (hF : 2000 ≤ m) (hC : C < 512) (h : KG σ A H S B er fl C) {i : Nat} (hi : i < A.2.length) : fX11_loudness m (nI (A.2.getD i z4).1) σ = some ((0, nI (A.2.getD i z4).2.2.1), σ) := by
  obtain ⟨q, hq, e1, e3, -⟩ := cl_slot_or hF h.1 h.2.2.1.1 (h.nb hC) hi
  have e5 := e3.2.2.1
  unfold fX11_loudness
  simp (disch := omega) only [pu_OB, pu_LET, pu_OX0, pu_BND, pu_NZ, pu_BL, pu_m1, nI_add, pk_sub, pk_mul, pk_div, nI_clamp, pu_eq, pu_ne, pu_le_t, pu_le_f, pu_lt_t, pu_lt_f, pu_nm, pu_mm, pu_u2e, pu_u2n, ↓reduceIte, li0, li1, li2, li3, li4, li5, li6, li7, li8, li9, li10, li11, li12, li13, li14, li15, li16, li17, li18, li19, li20, li21, li22, li23, li24, li25, li26, li27, li28, li29, li30, li31, li32, li33, li34, li35, li36, li37, li38, li39, li40, li41, li42, li43, li44, li45, li46, li47, li48, li49, li50, li51, li52, li53, li54, li55, li56, li57, li58, li59, li60, li64, li72, li87, li97, li98, li99, li100, li101, li102, li103, li104, li105, li108, li109, li110, li111, li112, li114, li115, li116, li117, li119, li120, li124, li126, li132, li139, li140, li148, li156, li1000, li1092, li1248, cl_reqN e1 hq, e5]
theorem q_amount (hF : 2000 ≤ m) (hC : C < 512) (h : KG σ A H S B er fl C) {i : Nat} (hi : i < A.2.length) : fX11_amount m (nI (A.2.getD i z4).1) σ = some ((0, nI (A.2.getD i z4).2.2.2), σ) := by
  obtain ⟨q, hq, e1, e3, -⟩ := cl_slot_or hF h.1 h.2.2.1.1 (h.nb hC) hi
  have e5 := e3.2.2.2
  unfold fX11_amount
  simp (disch := omega) only [pu_OB, pu_LET, pu_OX0, pu_BND, pu_NZ, pu_BL, pu_m1, nI_add, pk_sub, pk_mul, pk_div, nI_clamp, pu_eq, pu_ne, pu_le_t, pu_le_f, pu_lt_t, pu_lt_f, pu_nm, pu_mm, pu_u2e, pu_u2n, ↓reduceIte, li0, li1, li2, li3, li4, li5, li6, li7, li8, li9, li10, li11, li12, li13, li14, li15, li16, li17, li18, li19, li20, li21, li22, li23, li24, li25, li26, li27, li28, li29, li30, li31, li32, li33, li34, li35, li36, li37, li38, li39, li40, li41, li42, li43, li44, li45, li46, li47, li48, li49, li50, li51, li52, li53, li54, li55, li56, li57, li58, li59, li60, li64, li72, li87, li97, li98, li99, li100, li101, li102, li103, li104, li105, li108, li109, li110, li111, li112, li114, li115, li116, li117, li119, li120, li124, li126, li132, li139, li140, li148, li156, li1000, li1092, li1248, cl_reqN e1 hq, e5]
theorem q_isWaiting (hF : 2000 ≤ m) (hC : C < 512) (h : KG σ A H S B er fl C) {i : Nat} (hi : i < A.2.length) : fX11_isWaiting m (nI (A.2.getD i z4).1) σ = some ((0, nI (if wt A.1 (A.2.getD i z4) = true then 1 else 0)), σ) := by
  obtain ⟨q, hq, e1, e3, e6⟩ := cl_slot_or hF h.1 h.2.2.1.1 (h.nb hC) hi
  have e7 := cl_isW (σ := σ) hq
  unfold fX11_isWaiting
  rcases e6 with ⟨c, hw⟩ | ⟨w, hw3, hq9, -, hw⟩
  · rw [if_pos c] at e7
    rw [if_pos hw]
    simp (disch := omega) only [pu_OB, pu_LET, pu_OX0, pu_BND, pu_NZ, pu_BL, pu_m1, nI_add, pk_sub, pk_mul, pk_div, nI_clamp, pu_eq, pu_ne, pu_le_t, pu_le_f, pu_lt_t, pu_lt_f, pu_nm, pu_mm, pu_u2e, pu_u2n, ↓reduceIte, li0, li1, li2, li3, li4, li5, li6, li7, li8, li9, li10, li11, li12, li13, li14, li15, li16, li17, li18, li19, li20, li21, li22, li23, li24, li25, li26, li27, li28, li29, li30, li31, li32, li33, li34, li35, li36, li37, li38, li39, li40, li41, li42, li43, li44, li45, li46, li47, li48, li49, li50, li51, li52, li53, li54, li55, li56, li57, li58, li59, li60, li64, li72, li87, li97, li98, li99, li100, li101, li102, li103, li104, li105, li108, li109, li110, li111, li112, li114, li115, li116, li117, li119, li120, li124, li126, li132, li139, li140, li148, li156, li1000, li1092, li1248, cl_reqN e1 hq, e7]
  · rw [if_neg (by omega)] at e7
    rw [hw, if_neg Bool.false_ne_true]
    simp (disch := omega) only [pu_OB, pu_LET, pu_OX0, pu_BND, pu_NZ, pu_BL, pu_m1, nI_add, pk_sub, pk_mul, pk_div, nI_clamp, pu_eq, pu_ne, pu_le_t, pu_le_f, pu_lt_t, pu_lt_f, pu_nm, pu_mm, pu_u2e, pu_u2n, ↓reduceIte, li0, li1, li2, li3, li4, li5, li6, li7, li8, li9, li10, li11, li12, li13, li14, li15, li16, li17, li18, li19, li20, li21, li22, li23, li24, li25, li26, li27, li28, li29, li30, li31, li32, li33, li34, li35, li36, li37, li38, li39, li40, li41, li42, li43, li44, li45, li46, li47, li48, li49, li50, li51, li52, li53, li54, li55, li56, li57, li58, li59, li60, li64, li72, li87, li97, li98, li99, li100, li101, li102, li103, li104, li105, li108, li109, li110, li111, li112, li114, li115, li116, li117, li119, li120, li124, li126, li132, li139, li140, li148, li156, li1000, li1092, li1248, cl_reqN e1 hq, e7]
theorem q_wheelOf (hF : 2000 ≤ m) (hC : C < 512) (h : KG σ A H S B er fl C) {i w : Nat} (hi : i < A.2.length) (hw9 : w < 3) (hh : A.1 (13 + w) = (A.2.getD i z4).1 + 1) : fX11_wheelOf m (nI (A.2.getD i z4).1) σ = some ((0, nI w), σ) := by
  obtain ⟨q, hq, e1, e3, e6⟩ := cl_slot_or hF h.1 h.2.2.1.1 (h.nb hC) hi
  have e7 := cl_isW (σ := σ) hq
  have hI := h.2.2.1.1
  unfold fX11_wheelOf
  rcases e6 with ⟨c, hw⟩ | ⟨v, hv3, hq9, hv, hw⟩
  · rw [wt_held hw9 hh] at hw
    cases hw
  · obtain rfl : v = w := by
      by_cases e : v = w
      · exact e
      · have := hI.2.2.2.2.1 v w hv3 hw9 e
        omega
    rw [if_neg (by omega)] at e7
    have e10 : fX7_wheelOfSlot (nI q) σ = some (nI v, σ) := by
      unfold fX7_wheelOfSlot
      have : nI q - 12 = nI (q - 12) := pk_sub (a := q) (b := 12) (by omega)
      rw [this, hq9, Nat.add_sub_cancel_left]
    simp (disch := omega) only [pu_OB, pu_LET, pu_OX0, pu_BND, pu_NZ, pu_BL, pu_m1, nI_add, pk_sub, pk_mul, pk_div, nI_clamp, pu_eq, pu_ne, pu_le_t, pu_le_f, pu_lt_t, pu_lt_f, pu_nm, pu_mm, pu_u2e, pu_u2n, ↓reduceIte, li0, li1, li2, li3, li4, li5, li6, li7, li8, li9, li10, li11, li12, li13, li14, li15, li16, li17, li18, li19, li20, li21, li22, li23, li24, li25, li26, li27, li28, li29, li30, li31, li32, li33, li34, li35, li36, li37, li38, li39, li40, li41, li42, li43, li44, li45, li46, li47, li48, li49, li50, li51, li52, li53, li54, li55, li56, li57, li58, li59, li60, li64, li72, li87, li97, li98, li99, li100, li101, li102, li103, li104, li105, li108, li109, li110, li111, li112, li114, li115, li116, li117, li119, li120, li124, li126, li132, li139, li140, li148, li156, li1000, li1092, li1248, cl_reqN e1 hq, e7, e10]
theorem q_rankOf (hF : 2000 ≤ m) (hC : C < 512) (h : KG σ A H S B er fl C) {i : Nat} (hi : i < A.2.length) (hw : wt A.1 (A.2.getD i z4) = true) : fX11_rankOf m (nI (A.2.getD i z4).1) σ = some ((0, nI (rk A.1 A.2 (A.2.getD i z4))), σ) := by
  obtain ⟨q, hq, e1, e3, e6⟩ := cl_slot_or hF h.1 h.2.2.1.1 (h.nb hC) hi
  have hI := h.2.2.1.1
  have hB := h.nb hC
  have hi9 := hI.at hi
  unfold fX11_rankOf
  rcases e6 with ⟨c, -⟩ | ⟨w, hw3, hq9, hh, hw'⟩
  · have e7 := cl_isW (σ := σ) hq
    rw [if_pos c] at e7
    obtain ⟨-, W, hn⟩ := h.1
    have e8 := cl_countBefore (m := m) hn hI hB hF hq e3 (by omega)
    simp (disch := omega) only [pu_OB, pu_LET, pu_OX0, pu_BND, pu_NZ, pu_BL, pu_m1, nI_add, pk_sub, pk_mul, pk_div, nI_clamp, pu_eq, pu_ne, pu_le_t, pu_le_f, pu_lt_t, pu_lt_f, pu_nm, pu_mm, pu_u2e, pu_u2n, ↓reduceIte, li0, li1, li2, li3, li4, li5, li6, li7, li8, li9, li10, li11, li12, li13, li14, li15, li16, li17, li18, li19, li20, li21, li22, li23, li24, li25, li26, li27, li28, li29, li30, li31, li32, li33, li34, li35, li36, li37, li38, li39, li40, li41, li42, li43, li44, li45, li46, li47, li48, li49, li50, li51, li52, li53, li54, li55, li56, li57, li58, li59, li60, li64, li72, li87, li97, li98, li99, li100, li101, li102, li103, li104, li105, li108, li109, li110, li111, li112, li114, li115, li116, li117, li119, li120, li124, li126, li132, li139, li140, li148, li156, li1000, li1092, li1248, cl_reqN e1 hq, e7, e8]
  · rw [hw] at hw'
    cases hw'
theorem q_gear (h : KG σ A H S B er fl C) {w : Nat} (hw : w < 3) : fX11_gear (nI w) σ = some ((0, nI (A.1 (7 + w))), σ) := by
  have e1 := h.1.1.gear hw
  unfold fX11_gear
  simp (disch := omega) only [pu_OB, pu_LET, pu_OX0, pu_BND, pu_NZ, pu_BL, pu_m1, nI_add, pk_sub, pk_mul, pk_div, nI_clamp, pu_eq, pu_ne, pu_le_t, pu_le_f, pu_lt_t, pu_lt_f, pu_nm, pu_mm, pu_u2e, pu_u2n, ↓reduceIte, li0, li1, li2, li3, li4, li5, li6, li7, li8, li9, li10, li11, li12, li13, li14, li15, li16, li17, li18, li19, li20, li21, li22, li23, li24, li25, li26, li27, li28, li29, li30, li31, li32, li33, li34, li35, li36, li37, li38, li39, li40, li41, li42, li43, li44, li45, li46, li47, li48, li49, li50, li51, li52, li53, li54, li55, li56, li57, li58, li59, li60, li64, li72, li87, li97, li98, li99, li100, li101, li102, li103, li104, li105, li108, li109, li110, li111, li112, li114, li115, li116, li117, li119, li120, li124, li126, li132, li139, li140, li148, li156, li1000, li1092, li1248, cl_reqW hw, e1]
theorem q_wear (h : KG σ A H S B er fl C) {w : Nat} (hw : w < 3) : fX11_wear (nI w) σ = some ((0, nI (A.1 (10 + w))), σ) := by
  have e1 := h.1.1.wear hw
  unfold fX11_wear
  simp (disch := omega) only [pu_OB, pu_LET, pu_OX0, pu_BND, pu_NZ, pu_BL, pu_m1, nI_add, pk_sub, pk_mul, pk_div, nI_clamp, pu_eq, pu_ne, pu_le_t, pu_le_f, pu_lt_t, pu_lt_f, pu_nm, pu_mm, pu_u2e, pu_u2n, ↓reduceIte, li0, li1, li2, li3, li4, li5, li6, li7, li8, li9, li10, li11, li12, li13, li14, li15, li16, li17, li18, li19, li20, li21, li22, li23, li24, li25, li26, li27, li28, li29, li30, li31, li32, li33, li34, li35, li36, li37, li38, li39, li40, li41, li42, li43, li44, li45, li46, li47, li48, li49, li50, li51, li52, li53, li54, li55, li56, li57, li58, li59, li60, li64, li72, li87, li97, li98, li99, li100, li101, li102, li103, li104, li105, li108, li109, li110, li111, li112, li114, li115, li116, li117, li119, li120, li124, li126, li132, li139, li140, li148, li156, li1000, li1092, li1248, cl_reqW hw, e1]
theorem q_mesh (h : KG σ A H S B er fl C) {w : Nat} (hw : w < 8) : fX11_mesh (nI w) σ = some ((0, nI (A.1 (16 + w))), σ) := by
  have e1 := h.1.1.mesh hw
  unfold fX11_mesh
  simp (disch := omega) only [pu_OB, pu_LET, pu_OX0, pu_BND, pu_NZ, pu_BL, pu_m1, nI_add, pk_sub, pk_mul, pk_div, nI_clamp, pu_eq, pu_ne, pu_le_t, pu_le_f, pu_lt_t, pu_lt_f, pu_nm, pu_mm, pu_u2e, pu_u2n, ↓reduceIte, li0, li1, li2, li3, li4, li5, li6, li7, li8, li9, li10, li11, li12, li13, li14, li15, li16, li17, li18, li19, li20, li21, li22, li23, li24, li25, li26, li27, li28, li29, li30, li31, li32, li33, li34, li35, li36, li37, li38, li39, li40, li41, li42, li43, li44, li45, li46, li47, li48, li49, li50, li51, li52, li53, li54, li55, li56, li57, li58, li59, li60, li64, li72, li87, li97, li98, li99, li100, li101, li102, li103, li104, li105, li108, li109, li110, li111, li112, li114, li115, li116, li117, li119, li120, li124, li126, li132, li139, li140, li148, li156, li1000, li1092, li1248, cl_reqB hw, e1]
theorem q_flour (h : KG σ A H S B er fl C) {w : Nat} (hw : w < 4) : fX11_flour (nI w) σ = some ((0, nI (A.1 (28 + w))), σ) := by
  have e1 := h.1.1.flour hw
  unfold fX11_flour
  simp (disch := omega) only [pu_OB, pu_LET, pu_OX0, pu_BND, pu_NZ, pu_BL, pu_m1, nI_add, pk_sub, pk_mul, pk_div, nI_clamp, pu_eq, pu_ne, pu_le_t, pu_le_f, pu_lt_t, pu_lt_f, pu_nm, pu_mm, pu_u2e, pu_u2n, ↓reduceIte, li0, li1, li2, li3, li4, li5, li6, li7, li8, li9, li10, li11, li12, li13, li14, li15, li16, li17, li18, li19, li20, li21, li22, li23, li24, li25, li26, li27, li28, li29, li30, li31, li32, li33, li34, li35, li36, li37, li38, li39, li40, li41, li42, li43, li44, li45, li46, li47, li48, li49, li50, li51, li52, li53, li54, li55, li56, li57, li58, li59, li60, li64, li72, li87, li97, li98, li99, li100, li101, li102, li103, li104, li105, li108, li109, li110, li111, li112, li114, li115, li116, li117, li119, li120, li124, li126, li132, li139, li140, li148, li156, li1000, li1092, li1248, cl_reqG hw, e1]
theorem q_shipped (h : KG σ A H S B er fl C) {w : Nat} (hw : w < 4) : fX11_shippedSacks (nI w) σ = some ((0, nI (A.1 (24 + w))), σ) := by
  have e1 := h.1.1.shipped hw
  unfold fX11_shippedSacks
  simp (disch := omega) only [pu_OB, pu_LET, pu_OX0, pu_BND, pu_NZ, pu_BL, pu_m1, nI_add, pk_sub, pk_mul, pk_div, nI_clamp, pu_eq, pu_ne, pu_le_t, pu_le_f, pu_lt_t, pu_lt_f, pu_nm, pu_mm, pu_u2e, pu_u2n, ↓reduceIte, li0, li1, li2, li3, li4, li5, li6, li7, li8, li9, li10, li11, li12, li13, li14, li15, li16, li17, li18, li19, li20, li21, li22, li23, li24, li25, li26, li27, li28, li29, li30, li31, li32, li33, li34, li35, li36, li37, li38, li39, li40, li41, li42, li43, li44, li45, li46, li47, li48, li49, li50, li51, li52, li53, li54, li55, li56, li57, li58, li59, li60, li64, li72, li87, li97, li98, li99, li100, li101, li102, li103, li104, li105, li108, li109, li110, li111, li112, li114, li115, li116, li117, li119, li120, li124, li126, li132, li139, li140, li148, li156, li1000, li1092, li1248, cl_reqG hw, e1]
theorem q_recorded (h : KG σ A H S B er fl C) {b g : Nat} (hb9 : b < 8) (hg : g < 4) : fX11_recorded (nI b) (nI g) σ = some ((0, nI (A.1 (32 + 4 * b + g))), σ) := by
  have e1 := h.1.1.rec (show b * 4 + g < 32 by omega)
  rw [show 32 + (b * 4 + g) = 32 + 4 * b + g by omega] at e1
  have e3 : fX9_row (nI b) (nI g) σ = some (nI (b * 4 + g), σ) := by
    unfold fX9_row
    simp (disch := omega) only [pu_OB, pu_LET, pu_OX0, pu_BND, pu_NZ, pu_BL, pu_m1, nI_add, pk_sub, pk_mul, pk_div, nI_clamp, pu_eq, pu_ne, pu_le_t, pu_le_f, pu_lt_t, pu_lt_f, pu_nm, pu_mm, pu_u2e, pu_u2n, ↓reduceIte, li0, li1, li2, li3, li4, li5, li6, li7, li8, li9, li10, li11, li12, li13, li14, li15, li16, li17, li18, li19, li20, li21, li22, li23, li24, li25, li26, li27, li28, li29, li30, li31, li32, li33, li34, li35, li36, li37, li38, li39, li40, li41, li42, li43, li44, li45, li46, li47, li48, li49, li50, li51, li52, li53, li54, li55, li56, li57, li58, li59, li60, li64, li72, li87, li97, li98, li99, li100, li101, li102, li103, li104, li105, li108, li109, li110, li111, li112, li114, li115, li116, li117, li119, li120, li124, li126, li132, li139, li140, li148, li156, li1000, li1092, li1248]
  unfold fX11_recorded
  simp (disch := omega) only [pu_OB, pu_LET, pu_OX0, pu_BND, pu_NZ, pu_BL, pu_m1, nI_add, pk_sub, pk_mul, pk_div, nI_clamp, pu_eq, pu_ne, pu_le_t, pu_le_f, pu_lt_t, pu_lt_f, pu_nm, pu_mm, pu_u2e, pu_u2n, ↓reduceIte, li0, li1, li2, li3, li4, li5, li6, li7, li8, li9, li10, li11, li12, li13, li14, li15, li16, li17, li18, li19, li20, li21, li22, li23, li24, li25, li26, li27, li28, li29, li30, li31, li32, li33, li34, li35, li36, li37, li38, li39, li40, li41, li42, li43, li44, li45, li46, li47, li48, li49, li50, li51, li52, li53, li54, li55, li56, li57, li58, li59, li60, li64, li72, li87, li97, li98, li99, li100, li101, li102, li103, li104, li105, li108, li109, li110, li111, li112, li114, li115, li116, li117, li119, li120, li124, li126, li132, li139, li140, li148, li156, li1000, li1092, li1248, cl_reqB hb9, cl_reqG hg, e3, e1]
theorem q_isJammed (h : KG σ A H S B er fl C) {w : Nat} (hw : w < 3) : fX11_isJammed (nI w) σ = some ((0, nI (if A.1 (10 + w) < 12 then 0 else 1)), σ) := by
  have hw9 := (h.2.2.1.2.2.1 w hw).2.2
  have e1 := cl_isStuck h.1.1 hw (by omega)
  unfold fX11_isJammed
  by_cases c : A.1 (10 + w) < 12
  · rw [if_pos c] at e1 ⊢
    simp (disch := omega) only [pu_OB, pu_LET, pu_OX0, pu_BND, pu_NZ, pu_BL, pu_m1, nI_add, pk_sub, pk_mul, pk_div, nI_clamp, pu_eq, pu_ne, pu_le_t, pu_le_f, pu_lt_t, pu_lt_f, pu_nm, pu_mm, pu_u2e, pu_u2n, ↓reduceIte, li0, li1, li2, li3, li4, li5, li6, li7, li8, li9, li10, li11, li12, li13, li14, li15, li16, li17, li18, li19, li20, li21, li22, li23, li24, li25, li26, li27, li28, li29, li30, li31, li32, li33, li34, li35, li36, li37, li38, li39, li40, li41, li42, li43, li44, li45, li46, li47, li48, li49, li50, li51, li52, li53, li54, li55, li56, li57, li58, li59, li60, li64, li72, li87, li97, li98, li99, li100, li101, li102, li103, li104, li105, li108, li109, li110, li111, li112, li114, li115, li116, li117, li119, li120, li124, li126, li132, li139, li140, li148, li156, li1000, li1092, li1248, cl_reqW hw, e1]
  · rw [if_neg c] at e1 ⊢
    simp (disch := omega) only [pu_OB, pu_LET, pu_OX0, pu_BND, pu_NZ, pu_BL, pu_m1, nI_add, pk_sub, pk_mul, pk_div, nI_clamp, pu_eq, pu_ne, pu_le_t, pu_le_f, pu_lt_t, pu_lt_f, pu_nm, pu_mm, pu_u2e, pu_u2n, ↓reduceIte, li0, li1, li2, li3, li4, li5, li6, li7, li8, li9, li10, li11, li12, li13, li14, li15, li16, li17, li18, li19, li20, li21, li22, li23, li24, li25, li26, li27, li28, li29, li30, li31, li32, li33, li34, li35, li36, li37, li38, li39, li40, li41, li42, li43, li44, li45, li46, li47, li48, li49, li50, li51, li52, li53, li54, li55, li56, li57, li58, li59, li60, li64, li72, li87, li97, li98, li99, li100, li101, li102, li103, li104, li105, li108, li109, li110, li111, li112, li114, li115, li116, li117, li119, li120, li124, li126, li132, li139, li140, li148, li156, li1000, li1092, li1248, cl_reqW hw, e1]
theorem q_noiseOn (h : KG σ A H S B er fl C) (hC : C < 512) {w : Nat} (hw : w < 3) : fX11_noiseOn (nI w) σ = if A.1 (13 + w) = 0 then some ((3, 0), σ) else some ((0, nI (A.1 (13 + w) - 1)), σ) := by
  obtain ⟨-, W, hn⟩ := h.1
  have hI := h.2.2.1.1
  have e1 := cl_isHeld hn hw
  have hB := h.nb hC
  have hh9 := hI.held hw
  unfold fX11_noiseOn
  by_cases h0 : A.1 (13 + w) = 0
  · rw [if_pos h0]
    rw [h0] at e1
    have e0 : hflag 0 = 0 := rfl
    simp (disch := omega) only [pu_OB, pu_LET, pu_OX0, pu_BND, pu_NZ, pu_BL, pu_m1, nI_add, pk_sub, pk_mul, pk_div, nI_clamp, pu_eq, pu_ne, pu_le_t, pu_le_f, pu_lt_t, pu_lt_f, pu_nm, pu_mm, pu_u2e, pu_u2n, ↓reduceIte, li0, li1, li2, li3, li4, li5, li6, li7, li8, li9, li10, li11, li12, li13, li14, li15, li16, li17, li18, li19, li20, li21, li22, li23, li24, li25, li26, li27, li28, li29, li30, li31, li32, li33, li34, li35, li36, li37, li38, li39, li40, li41, li42, li43, li44, li45, li46, li47, li48, li49, li50, li51, li52, li53, li54, li55, li56, li57, li58, li59, li60, li64, li72, li87, li97, li98, li99, li100, li101, li102, li103, li104, li105, li108, li109, li110, li111, li112, li114, li115, li116, li117, li119, li120, li124, li126, li132, li139, li140, li148, li156, li1000, li1092, li1248, cl_reqW hw, e1, e0]
  · rw [if_neg h0]
    obtain ⟨e, he, hh⟩ := (hI.2.2.2.1 w hw).resolve_left h0
    have e0 : hflag (A.1 (13 + w)) = 1 := if_neg (by omega)
    have e3 := ((hn.2.2.2 w hw).2 e he hh).1
    rw [show A.1 (13 + w) - 1 = e.1 by omega]
    simp (disch := omega) only [pu_OB, pu_LET, pu_OX0, pu_BND, pu_NZ, pu_BL, pu_m1, nI_add, pk_sub, pk_mul, pk_div, nI_clamp, pu_eq, pu_ne, pu_le_t, pu_le_f, pu_lt_t, pu_lt_f, pu_nm, pu_mm, pu_u2e, pu_u2n, ↓reduceIte, li0, li1, li2, li3, li4, li5, li6, li7, li8, li9, li10, li11, li12, li13, li14, li15, li16, li17, li18, li19, li20, li21, li22, li23, li24, li25, li26, li27, li28, li29, li30, li31, li32, li33, li34, li35, li36, li37, li38, li39, li40, li41, li42, li43, li44, li45, li46, li47, li48, li49, li50, li51, li52, li53, li54, li55, li56, li57, li58, li59, li60, li64, li72, li87, li97, li98, li99, li100, li101, li102, li103, li104, li105, li108, li109, li110, li111, li112, li114, li115, li116, li117, li119, li120, li124, li126, li132, li139, li140, li148, li156, li1000, li1092, li1248, cl_reqW hw, e1, e0, cl_slotOn, e3]
theorem q_groundByParts (hF : 2000 ≤ m) (h : KG σ A H S B er fl C) : fX11_groundByParts m σ = some (nI (A.1 3), σ) := by
  have e1 := cl_ral (m := m) hF h.1 h.2.2.1.2
  unfold fX11_groundByParts
  rw [e1, pu_OB]
theorem q_flourByRecords (hF : 2000 ≤ m) (h : KG σ A H S B er fl C) {w : Nat} (hw : w < 4) : fX11_flourByRecords m (nI w) σ = some ((0, nI (A.1 (28 + w))), σ) := by
  have e1 := cl_rls (m := m) hF h.1 h.2.2.1.2 hw
  unfold fX11_flourByRecords
  simp (disch := omega) only [pu_OB, pu_LET, pu_OX0, pu_BND, pu_NZ, pu_BL, pu_m1, nI_add, pk_sub, pk_mul, pk_div, nI_clamp, pu_eq, pu_ne, pu_le_t, pu_le_f, pu_lt_t, pu_lt_f, pu_nm, pu_mm, pu_u2e, pu_u2n, ↓reduceIte, li0, li1, li2, li3, li4, li5, li6, li7, li8, li9, li10, li11, li12, li13, li14, li15, li16, li17, li18, li19, li20, li21, li22, li23, li24, li25, li26, li27, li28, li29, li30, li31, li32, li33, li34, li35, li36, li37, li38, li39, li40, li41, li42, li43, li44, li45, li46, li47, li48, li49, li50, li51, li52, li53, li54, li55, li56, li57, li58, li59, li60, li64, li72, li87, li97, li98, li99, li100, li101, li102, li103, li104, li105, li108, li109, li110, li111, li112, li114, li115, li116, li117, li119, li120, li124, li126, li132, li139, li140, li148, li156, li1000, li1092, li1248, cl_reqG hw, e1]
theorem q_log (h : KG σ A H S B er fl C) (hC : C < 512) {r : Nat} (hr : r < 8) (hr6 : r < A.1 6) : fX11_doneNumber (nI r) σ = some ((0, nI (A.1 (132 + (A.1 6 - 1 - r) % 8))), σ) ∧ fX11_doneWheel (nI r) σ = some ((0, nI (A.1 (140 + (A.1 6 - 1 - r) % 8))), σ) ∧ fX11_doneTime (nI r) σ = some ((0, nI (A.1 (148 + (A.1 6 - 1 - r) % 8))), σ) := by
  have h6 : A.1 6 < 2 ^ 30 := by have := h.2.2.1.2.1; omega
  have hm := Nat.mod_lt (A.1 6 - 1 - r) (show 0 < 8 by omega)
  have e1 : fX11_requireEntry (nI r) σ = some ((0, nI ((A.1 6 - 1 - r) % 8)), σ) := by
    rcases cl_logRow (p := nI r) h.1.1 h6 with ⟨q, hq, hq6, e, e1⟩ | ⟨hb9, e1⟩
    · obtain rfl : r = q := (nI_eq (by omega) (by omega)).mp e
      exact e1
    · rcases hb9 with c | c | c
      · exact absurd c (nI_pos (by omega))
      · exact absurd c (nI_ge hr (by omega))
      · exact absurd c (nI_ge hr6 (by omega))
  have a1 := h.1.1.logN hm
  have a2 := h.1.1.logW hm
  have a3 := h.1.1.logT hm
  refine ⟨?_, ?_, ?_⟩
  · unfold fX11_doneNumber
    simp (disch := omega) only [pu_OB, pu_LET, pu_OX0, pu_BND, pu_NZ, pu_BL, pu_m1, nI_add, pk_sub, pk_mul, pk_div, nI_clamp, pu_eq, pu_ne, pu_le_t, pu_le_f, pu_lt_t, pu_lt_f, pu_nm, pu_mm, pu_u2e, pu_u2n, ↓reduceIte, li0, li1, li2, li3, li4, li5, li6, li7, li8, li9, li10, li11, li12, li13, li14, li15, li16, li17, li18, li19, li20, li21, li22, li23, li24, li25, li26, li27, li28, li29, li30, li31, li32, li33, li34, li35, li36, li37, li38, li39, li40, li41, li42, li43, li44, li45, li46, li47, li48, li49, li50, li51, li52, li53, li54, li55, li56, li57, li58, li59, li60, li64, li72, li87, li97, li98, li99, li100, li101, li102, li103, li104, li105, li108, li109, li110, li111, li112, li114, li115, li116, li117, li119, li120, li124, li126, li132, li139, li140, li148, li156, li1000, li1092, li1248, e1, a1]
  · unfold fX11_doneWheel
    simp (disch := omega) only [pu_OB, pu_LET, pu_OX0, pu_BND, pu_NZ, pu_BL, pu_m1, nI_add, pk_sub, pk_mul, pk_div, nI_clamp, pu_eq, pu_ne, pu_le_t, pu_le_f, pu_lt_t, pu_lt_f, pu_nm, pu_mm, pu_u2e, pu_u2n, ↓reduceIte, li0, li1, li2, li3, li4, li5, li6, li7, li8, li9, li10, li11, li12, li13, li14, li15, li16, li17, li18, li19, li20, li21, li22, li23, li24, li25, li26, li27, li28, li29, li30, li31, li32, li33, li34, li35, li36, li37, li38, li39, li40, li41, li42, li43, li44, li45, li46, li47, li48, li49, li50, li51, li52, li53, li54, li55, li56, li57, li58, li59, li60, li64, li72, li87, li97, li98, li99, li100, li101, li102, li103, li104, li105, li108, li109, li110, li111, li112, li114, li115, li116, li117, li119, li120, li124, li126, li132, li139, li140, li148, li156, li1000, li1092, li1248, e1, a2]
  · unfold fX11_doneTime
    simp (disch := omega) only [pu_OB, pu_LET, pu_OX0, pu_BND, pu_NZ, pu_BL, pu_m1, nI_add, pk_sub, pk_mul, pk_div, nI_clamp, pu_eq, pu_ne, pu_le_t, pu_le_f, pu_lt_t, pu_lt_f, pu_nm, pu_mm, pu_u2e, pu_u2n, ↓reduceIte, li0, li1, li2, li3, li4, li5, li6, li7, li8, li9, li10, li11, li12, li13, li14, li15, li16, li17, li18, li19, li20, li21, li22, li23, li24, li25, li26, li27, li28, li29, li30, li31, li32, li33, li34, li35, li36, li37, li38, li39, li40, li41, li42, li43, li44, li45, li46, li47, li48, li49, li50, li51, li52, li53, li54, li55, li56, li57, li58, li59, li60, li64, li72, li87, li97, li98, li99, li100, li101, li102, li103, li104, li105, li108, li109, li110, li111, li112, li114, li115, li116, li117, li119, li120, li124, li126, li132, li139, li140, li148, li156, li1000, li1092, li1248, e1, a3]
/-- the waiting noise of a rank -/
def atR (A : AM) (r : Nat) : E4 := (A.2.find? (fun e => wt A.1 e && rk A.1 A.2 e == r)).getD z4
theorem atR_eq (hI : IN A.1 A.2) {e : E4} (he : e ∈ A.2) (hw : wt A.1 e = true) : atR A (rk A.1 A.2 e) = e := by
  unfold atR
  cases hf : A.2.find? (fun o => wt A.1 o && rk A.1 A.2 o == rk A.1 A.2 e) with
  | none =>
    have := List.find?_eq_none.mp hf e he
    simp [hw] at this
  | some o =>
    have h1 := List.find?_some hf
    have h2 := List.mem_of_find?_eq_some hf
    rw [Bool.and_eq_true, beq_iff_eq] at h1
    exact rk_inj hI.1 h2 he h1.1 hw h1.2
theorem q_waitingAt (hF : 2000 ≤ m) (hC : C < 512) (h : KG σ A H S B er fl C) {r : Nat} (hr : r < wN A) : (atR A r ∈ A.2 ∧ wt A.1 (atR A r) = true) ∧ ∃ τ, fX11_waitingAt m (nI r) σ = some ((0, nI (atR A r).1), τ) ∧ KG τ A H S B er fl C := by
  obtain ⟨-, W, hn⟩ := h.1
  have hI := h.2.2.1.1
  have hB := h.nb hC
  have hr' : r < W.length := by rw [hn.len]; exact hr
  have hlen : W.length ≤ 12 := by rw [hn.len]; exact hI.2.2.1
  have h5 := hn.2.1
  obtain ⟨q, τ, q1, q2, q3, q4⟩ := cl_slotAtRank (m := m) hF hn hI hB hr'
  have hat := hn.at q1
  have hA := atR_eq hI hat.1 hat.2
  rw [q3] at hA
  rw [hA]
  refine ⟨hat, τ, ?_, h.trial fun c hc => q4 c (by omega) (by omega)⟩
  have e3 : τ (0 + 1 + 1) q = nI (W.getD q z4).1 := by
    rw [q4 _ (by omega) (by omega)]
    exact (hn.2.2.1 q q1).1
  unfold fX11_waitingAt
  simp (disch := omega) only [pu_OB, pu_LET, pu_OX0, pu_BND, pu_NZ, pu_BL, pu_m1, nI_add, pk_sub, pk_mul, pk_div, nI_clamp, pu_eq, pu_ne, pu_le_t, pu_le_f, pu_lt_t, pu_lt_f, pu_nm, pu_mm, pu_u2e, pu_u2n, ↓reduceIte, li0, li1, li2, li3, li4, li5, li6, li7, li8, li9, li10, li11, li12, li13, li14, li15, li16, li17, li18, li19, li20, li21, li22, li23, li24, li25, li26, li27, li28, li29, li30, li31, li32, li33, li34, li35, li36, li37, li38, li39, li40, li41, li42, li43, li44, li45, li46, li47, li48, li49, li50, li51, li52, li53, li54, li55, li56, li57, li58, li59, li60, li64, li72, li87, li97, li98, li99, li100, li101, li102, li103, li104, li105, li108, li109, li110, li111, li112, li114, li115, li116, li117, li119, li120, li124, li126, li132, li139, li140, li148, li156, li1000, li1092, li1248, h5, q2, e3]
theorem q_isConsistent (hF : 2000 ≤ m) (hC : C < 512) (h : KG σ A H S B er fl C) : ∃ τ, fX11_isConsistent m σ = some (nI 1, τ) ∧ KG τ A H S B er fl C := by
  have g5 := h.2.2.1
  have hB := h.nb hC
  have e1 := cl_ral (m := m) hF h.1 g5.2
  have e2 := h.1.1.ground
  have e3 := cl_flourAgrees (m := m) hF h.1 g5.2
  obtain ⟨t, t1, t2⟩ := cl_predAgree (m := m) hF h.1 g5.1 g5.2 (by omega) (by omega)
  have hC1 : CR t 0 A := h.1.of fun c hc => t2 _ (by omega)
  obtain ⟨-, W, hn⟩ := hC1
  obtain ⟨u, u1, u2'⟩ := cl_ranksAgree (m := m) hF hn g5.1 hB
  refine ⟨u, ?_, h.trial fun c hc => by rw [u2' c (by omega) (by omega), t2 c (by omega)]⟩
  unfold fX11_isConsistent
  simp (disch := omega) only [pu_OB, pu_LET, pu_OX0, pu_BND, pu_NZ, pu_BL, pu_m1, nI_add, pk_sub, pk_mul, pk_div, nI_clamp, pu_eq, pu_ne, pu_le_t, pu_le_f, pu_lt_t, pu_lt_f, pu_nm, pu_mm, pu_u2e, pu_u2n, ↓reduceIte, li0, li1, li2, li3, li4, li5, li6, li7, li8, li9, li10, li11, li12, li13, li14, li15, li16, li17, li18, li19, li20, li21, li22, li23, li24, li25, li26, li27, li28, li29, li30, li31, li32, li33, li34, li35, li36, li37, li38, li39, li40, li41, li42, li43, li44, li45, li46, li47, li48, li49, li50, li51, li52, li53, li54, li55, li56, li57, li58, li59, li60, li64, li72, li87, li97, li98, li99, li100, li101, li102, li103, li104, li105, li108, li109, li110, li111, li112, li114, li115, li116, li117, li119, li120, li124, li126, li132, li139, li140, li148, li156, li1000, li1092, li1248, e1, e2, e3, t1, u1]
theorem q_save (hF : 2000 ≤ m) (h : KG σ A H S B er fl C) : ∃ τ, fX11_save m σ = some (nI (wN A), τ) ∧ KG τ A H (some A) B er fl C := by
  obtain ⟨g1, g2, g5, g6, g7, g8⟩ := h
  obtain ⟨t, t1, t2, t3⟩ := cl_copy (k := 38) hF g1 g5.1 g5.2 (by omega)
  have hC1 : CR (u2 t 209 3 (nI 1)) 0 A := g1.of fun c hc => by rw [pu_u2r (by omega), t3 _ (by omega)]
  have hC2 : CR (u2 t 209 3 (nI 1)) 38 A := t2.of fun c hc => pu_u2r (by omega)
  have hCW := hC1
  obtain ⟨-, W, hn⟩ := hCW
  have e5 := hn.2.1
  rw [hn.len, pu_u2n (by omega)] at e5
  refine ⟨u2 t 209 3 (nI 1), ?_, hC1, ?_, g5, g6, fun X hX => by cases hX; exact g5, g8⟩
  · unfold fX11_save
    simp (disch := omega) only [pu_OB, pu_LET, pu_OX0, pu_BND, pu_NZ, pu_BL, pu_m1, nI_add, pk_sub, pk_mul, pk_div, nI_clamp, pu_eq, pu_ne, pu_le_t, pu_le_f, pu_lt_t, pu_lt_f, pu_nm, pu_mm, pu_u2e, pu_u2n, ↓reduceIte, li0, li1, li2, li3, li4, li5, li6, li7, li8, li9, li10, li11, li12, li13, li14, li15, li16, li17, li18, li19, li20, li21, li22, li23, li24, li25, li26, li27, li28, li29, li30, li31, li32, li33, li34, li35, li36, li37, li38, li39, li40, li41, li42, li43, li44, li45, li46, li47, li48, li49, li50, li51, li52, li53, li54, li55, li56, li57, li58, li59, li60, li64, li72, li87, li97, li98, li99, li100, li101, li102, li103, li104, li105, li108, li109, li110, li111, li112, li114, li115, li116, li117, li119, li120, li124, li126, li132, li139, li140, li148, li156, li1000, li1092, li1248, t1, e5]
    rfl
  · obtain ⟨⟨a1, a2⟩, ⟨nx, b1, b2, b3, b4, b5⟩, ⟨c1, c2, c3⟩, d1, d2⟩ := g2
    exact ⟨⟨pu_u2e ⟨rfl, rfl⟩, fun X hX => by cases hX; exact hC2⟩, ⟨nx, b1, by rw [pu_u2r (by omega), t3 _ (by omega)]; exact b2, by rw [pu_u2r (by omega), t3 _ (by omega)]; exact b3, b4, fun i hi => (b5 i hi).of fun c hc => by rw [pu_u2r (by omega), t3 _ (by omega)]⟩, ⟨by rw [pu_u2r (by omega), t3 _ (by omega)]; exact c1, c2, fun j hj => by rw [pu_u2r (by omega), t3 _ (by omega)]; exact c3 j hj⟩, by rw [pu_u2n (by omega), t3 _ (by omega)]; exact d1, by rw [pu_u2n (by omega), t3 _ (by omega)]; exact d2⟩
theorem q_restore {X : AM} (hF : 2000 ≤ m) (h : KG σ A H (some X) B er fl C) : ∃ τ, fX11_restore m σ = some ((0, nI (wN X)), τ) ∧ KG τ X [] (some X) B er fl C := by
  obtain ⟨g1, g2, g5, g6, g7, g8⟩ := h
  have hVX := g7 X rfl
  have e1 : σ 209 3 = nI 1 := g2.1.1
  have hX38 := g2.1.2 X rfl
  obtain ⟨t, t1, t2, t3⟩ := cl_copy (k := 0) hF hX38 hVX.1 hVX.2 (by omega)
  have hC1 : CR (u2 t 210 2 (nI 0)) 0 X := t2.of fun c hc => pu_u2r (by omega)
  have hCW := hC1
  obtain ⟨-, W, hn⟩ := hCW
  have e5 := hn.2.1
  rw [hn.len, pu_u2n (by omega)] at e5
  refine ⟨u2 t 210 2 (nI 0), ?_, hC1, ?_, hVX, fun i hi => absurd hi (Nat.not_lt_zero _), g7, g8⟩
  · unfold fX11_restore fX3_forget
    simp (disch := omega) only [pu_OB, pu_LET, pu_OX0, pu_BND, pu_NZ, pu_BL, pu_m1, nI_add, pk_sub, pk_mul, pk_div, nI_clamp, pu_eq, pu_ne, pu_le_t, pu_le_f, pu_lt_t, pu_lt_f, pu_nm, pu_mm, pu_u2e, pu_u2n, ↓reduceIte, li0, li1, li2, li3, li4, li5, li6, li7, li8, li9, li10, li11, li12, li13, li14, li15, li16, li17, li18, li19, li20, li21, li22, li23, li24, li25, li26, li27, li28, li29, li30, li31, li32, li33, li34, li35, li36, li37, li38, li39, li40, li41, li42, li43, li44, li45, li46, li47, li48, li49, li50, li51, li52, li53, li54, li55, li56, li57, li58, li59, li60, li64, li72, li87, li97, li98, li99, li100, li101, li102, li103, li104, li105, li108, li109, li110, li111, li112, li114, li115, li116, li117, li119, li120, li124, li126, li132, li139, li140, li148, li156, li1000, li1092, li1248, e1, t1, e5]
    rfl
  · obtain ⟨⟨a1, a2⟩, ⟨nx, b1, b2, b3, b4, b5⟩, ⟨c1, c2, c3⟩, d1, d2⟩ := g2
    exact ⟨⟨by rw [pu_u2r (by omega), t3 _ (by omega)]; exact a1, fun Y hY => (a2 Y hY).of fun c hc => by rw [pu_u2r (by omega), t3 _ (by omega)]⟩, ⟨nx, b1, by rw [pu_u2n (by omega), t3 _ (by omega)]; exact b2, pu_u2e ⟨rfl, rfl⟩, Nat.zero_le _, fun i hi => absurd hi (Nat.not_lt_zero _)⟩, ⟨by rw [pu_u2r (by omega), t3 _ (by omega)]; exact c1, c2, fun j hj => by rw [pu_u2r (by omega), t3 _ (by omega)]; exact c3 j hj⟩, by rw [pu_u2r (by omega), t3 _ (by omega)]; exact d1, by rw [pu_u2r (by omega), t3 _ (by omega)]; exact d2⟩
theorem q_undo (hF : 2000 ≤ m) (h : KG σ A H S B er fl C) (h0 : 0 < H.length) : ∃ τ, fX11_undo m σ = some ((0, nI (H.length - 1)), τ) ∧ KG τ (H.getD (H.length - 1) A0) H.dropLast S B er fl C := by
  obtain ⟨g1, g2, g5, g6, g7, g8⟩ := h
  have hl8 := g2.len
  have hX := g2
  obtain ⟨nx, b1, b2, b3, b4, b5⟩ := hX.2.1
  have hVX := g6 (H.length - 1) (by omega)
  obtain ⟨t, t1, t2, t3, t4⟩ := cl_pop hF g2 (by omega) hVX
  have hdl : H.dropLast.length = H.length - 1 := List.length_dropLast
  have hget : ∀ i, i < H.length - 1 → H.dropLast.getD i A0 = H.getD i A0 := fun i hi => by
    rw [List.getD_eq_getElem?_getD, List.getElem?_dropLast, if_pos hi, List.getD_eq_getElem?_getD]
  refine ⟨t, ?_, t2, t3, hVX, fun i hi => by rw [hget i (by omega)]; exact g6 i (by omega), g7, g8⟩
  unfold fX11_undo
  simp (disch := omega) only [pu_OB, pu_LET, pu_OX0, pu_BND, pu_NZ, pu_BL, pu_m1, nI_add, pk_sub, pk_mul, pk_div, nI_clamp, pu_eq, pu_ne, pu_le_t, pu_le_f, pu_lt_t, pu_lt_f, pu_nm, pu_mm, pu_u2e, pu_u2n, ↓reduceIte, li0, li1, li2, li3, li4, li5, li6, li7, li8, li9, li10, li11, li12, li13, li14, li15, li16, li17, li18, li19, li20, li21, li22, li23, li24, li25, li26, li27, li28, li29, li30, li31, li32, li33, li34, li35, li36, li37, li38, li39, li40, li41, li42, li43, li44, li45, li46, li47, li48, li49, li50, li51, li52, li53, li54, li55, li56, li57, li58, li59, li60, li64, li72, li87, li97, li98, li99, li100, li101, li102, li103, li104, li105, li108, li109, li110, li111, li112, li114, li115, li116, li117, li119, li120, li124, li126, li132, li139, li140, li148, li156, li1000, li1092, li1248, b3, t1, t4]
theorem q_errpos {e : Nat} (h : KG σ A H S B (some e) fl C) (he : e < 2 ^ 31) : fX11_errorPosition σ = some ((0, nI e), σ) := by
  have e1 : σ 209 8 = nI e := h.2.1.2.2.2.1
  unfold fX11_errorPosition
  rw [e1]
  exact if_neg (of_eq_false (pu_nm he))
theorem q_failed {e : Nat} (h : KG σ A H S B er (some e) C) (he : e < 2 ^ 31) : fX11_failedCommand σ = some ((0, nI e), σ) := by
  have e1 : σ 209 9 = nI e := h.2.1.2.2.2.2
  unfold fX11_failedCommand
  rw [e1]
  exact if_neg (of_eq_false (pu_nm he))
theorem q_type (h : KG σ A H S B er fl C) {b : Nat} (hb1 : 32 ≤ b) (hb2 : b ≤ 126) (hl : B.length < 60) : ∃ τ, fX11_type (nI b) σ = some ((0, nI (B.length + 1)), τ) ∧ KG τ A H S (B ++ [b]) er fl C := by
  obtain ⟨g1, g2, g5, g6, g7, g8⟩ := h
  have e1 := g2.2.2.1.1
  have hful : fX8_isFull σ = some (nI 0, σ) := by
    unfold fX8_isFull
    simp (disch := omega) only [pu_OB, pu_LET, pu_OX0, pu_BND, pu_NZ, pu_BL, pu_m1, nI_add, pk_sub, pk_mul, pk_div, nI_clamp, pu_eq, pu_ne, pu_le_t, pu_le_f, pu_lt_t, pu_lt_f, pu_nm, pu_mm, pu_u2e, pu_u2n, ↓reduceIte, li0, li1, li2, li3, li4, li5, li6, li7, li8, li9, li10, li11, li12, li13, li14, li15, li16, li17, li18, li19, li20, li21, li22, li23, li24, li25, li26, li27, li28, li29, li30, li31, li32, li33, li34, li35, li36, li37, li38, li39, li40, li41, li42, li43, li44, li45, li46, li47, li48, li49, li50, li51, li52, li53, li54, li55, li56, li57, li58, li59, li60, li64, li72, li87, li97, li98, li99, li100, li101, li102, li103, li104, li105, li108, li109, li110, li111, li112, li114, li115, li116, li117, li119, li120, li124, li126, li132, li139, li140, li148, li156, li1000, li1092, li1248, e1]
  have en := nar_ch (show b < 65536 by omega)
  have hbl : (B ++ [b]).length = B.length + 1 := by rw [List.length_append]; rfl
  refine ⟨u2 (u2 σ 215 B.length (nI b)) 214 1 (nI (B.length + 1)), ?_, ?_, ?_, g5, g6, g7, fun x hx => ?_⟩
  · unfold fX11_type fX8_append
    simp (disch := omega) only [pu_OB, pu_LET, pu_OX0, pu_BND, pu_NZ, pu_BL, pu_m1, nI_add, pk_sub, pk_mul, pk_div, nI_clamp, pu_eq, pu_ne, pu_le_t, pu_le_f, pu_lt_t, pu_lt_f, pu_nm, pu_mm, pu_u2e, pu_u2n, ↓reduceIte, li0, li1, li2, li3, li4, li5, li6, li7, li8, li9, li10, li11, li12, li13, li14, li15, li16, li17, li18, li19, li20, li21, li22, li23, li24, li25, li26, li27, li28, li29, li30, li31, li32, li33, li34, li35, li36, li37, li38, li39, li40, li41, li42, li43, li44, li45, li46, li47, li48, li49, li50, li51, li52, li53, li54, li55, li56, li57, li58, li59, li60, li64, li72, li87, li97, li98, li99, li100, li101, li102, li103, li104, li105, li108, li109, li110, li111, li112, li114, li115, li116, li117, li119, li120, li124, li126, li132, li139, li140, li148, li156, li1000, li1092, li1248, hful, e1, en]
  · exact g1.of fun c hc => by rw [pu_u2r (by omega), pu_u2r (by omega)]
  · obtain ⟨⟨a1, a2⟩, ⟨nx, b1, b2, b3, b4, b5⟩, ⟨c1, c2, c3⟩, d1, d2⟩ := g2
    refine ⟨⟨by rw [pu_u2r (by omega), pu_u2r (by omega)]; exact a1, fun X hX => (a2 X hX).of fun c hc => by rw [pu_u2r (by omega), pu_u2r (by omega)]⟩, ⟨nx, b1, by rw [pu_u2r (by omega), pu_u2r (by omega)]; exact b2, by rw [pu_u2r (by omega), pu_u2r (by omega)]; exact b3, b4, fun i hi => (b5 i hi).of fun c hc => by rw [pu_u2r (by omega), pu_u2r (by omega)]⟩, ⟨by rw [pu_u2e ⟨rfl, rfl⟩, hbl], by omega, fun j hj => ?_⟩, by rw [pu_u2r (by omega), pu_u2r (by omega)]; exact d1, by rw [pu_u2r (by omega), pu_u2r (by omega)]; exact d2⟩
    rw [hbl] at hj
    rw [nap_getD (by omega), pu_u2n (by omega)]
    by_cases c9 : j = B.length
    · rw [if_pos c9, c9, pu_u2e ⟨rfl, rfl⟩]
    · rw [if_neg c9, pu_u2n (by omega)]
      exact c3 j (by omega)
  · rcases List.mem_append.mp hx with hx | hx
    · exact g8 x hx
    · rw [List.mem_singleton.mp hx]
      omega
-- predictions
theorem q_untilDone (hF : 2000 ≤ m) (hC : C < 512) (h : KG σ A H S B er fl C) {w : Nat} (hw : w < 3) : ∃ x τ, pdI A w x ∧ KG τ A H S B er fl C ∧ fX11_stepsUntilDone m (nI w) σ = if x = mI then some ((3, 0), τ) else some ((0, x), τ) := by
  have g5 := h.2.2.1
  obtain ⟨x, τ, q1, q2, q3⟩ := cl_simDone (m := m) hF h.1 g5.1 g5.2 (by omega) (by omega) hw
  refine ⟨x, τ, q2, h.trial fun c hc => q3 c (by omega), ?_⟩
  have hpos : x = mI ∨ ∃ k, k ≤ 30 ∧ x = nI k := by
    rcases q2 with ⟨-, rfl⟩ | ⟨p, hp, hh, rfl⟩
    · exact Or.inl rfl
    · have hb9 := rt_bd g5.1 g5.2 hw hp
      unfold rtI
      split
      · exact Or.inr ⟨_, hb9.2.1, rfl⟩
      · exact Or.inl rfl
  unfold fX11_stepsUntilDone fX11_requireSteps
  rcases hpos with rfl | ⟨k, hk, rfl⟩
  · rw [if_pos rfl]
    simp (disch := omega) only [pu_OB, pu_LET, pu_OX0, pu_BND, pu_NZ, pu_BL, pu_m1, nI_add, pk_sub, pk_mul, pk_div, nI_clamp, pu_eq, pu_ne, pu_le_t, pu_le_f, pu_lt_t, pu_lt_f, pu_nm, pu_mm, pu_u2e, pu_u2n, ↓reduceIte, li0, li1, li2, li3, li4, li5, li6, li7, li8, li9, li10, li11, li12, li13, li14, li15, li16, li17, li18, li19, li20, li21, li22, li23, li24, li25, li26, li27, li28, li29, li30, li31, li32, li33, li34, li35, li36, li37, li38, li39, li40, li41, li42, li43, li44, li45, li46, li47, li48, li49, li50, li51, li52, li53, li54, li55, li56, li57, li58, li59, li60, li64, li72, li87, li97, li98, li99, li100, li101, li102, li103, li104, li105, li108, li109, li110, li111, li112, li114, li115, li116, li117, li119, li120, li124, li126, li132, li139, li140, li148, li156, li1000, li1092, li1248, cl_reqW hw, q1, pu_OXc]
  · rw [if_neg (of_eq_false (pu_nm (by omega)))]
    simp (disch := omega) only [pu_OB, pu_LET, pu_OX0, pu_BND, pu_NZ, pu_BL, pu_m1, nI_add, pk_sub, pk_mul, pk_div, nI_clamp, pu_eq, pu_ne, pu_le_t, pu_le_f, pu_lt_t, pu_lt_f, pu_nm, pu_mm, pu_u2e, pu_u2n, ↓reduceIte, li0, li1, li2, li3, li4, li5, li6, li7, li8, li9, li10, li11, li12, li13, li14, li15, li16, li17, li18, li19, li20, li21, li22, li23, li24, li25, li26, li27, li28, li29, li30, li31, li32, li33, li34, li35, li36, li37, li38, li39, li40, li41, li42, li43, li44, li45, li46, li47, li48, li49, li50, li51, li52, li53, li54, li55, li56, li57, li58, li59, li60, li64, li72, li87, li97, li98, li99, li100, li101, li102, li103, li104, li105, li108, li109, li110, li111, li112, li114, li115, li116, li117, li119, li120, li124, li126, li132, li139, li140, li148, li156, li1000, li1092, li1248, cl_reqW hw, q1]
theorem q_untilJam (hF : 2000 ≤ m) (hC : C < 512) (h : KG σ A H S B er fl C) {w : Nat} (hw : w < 3) : ∃ τ, KG τ A H S B er fl C ∧ fX11_stepsUntilJam m (nI w) σ = match jamO w 61 0 A with | none => some ((3, 0), τ) | some k => some ((0, nI k), τ) := by
  have g5 := h.2.2.1
  obtain ⟨t, t1, t2, t3⟩ := cl_copy (k := 19) hF h.1 g5.1 g5.2 (by omega)
  obtain ⟨τ, q1, q2⟩ := cl_jam (m := m) (w := w) hF (by omega) hw 61 m 0 (480 * C) A t t2 g5.1 g5.2 (by omega) (by omega) (by omega)
  refine ⟨τ, h.trial fun c hc => by rw [q2 c (by omega), t3 c (by omega)], ?_⟩
  unfold fX11_stepsUntilJam fX11_simulateJam fX11_requireSteps
  cases hj : jamO w 61 0 A with
  | none =>
    rw [hj] at q1
    have q1 : fX11_simulateJam_L13 m m (nI w) (nI 0) t = some (mI, τ) := q1
    simp (disch := omega) only [pu_OB, pu_LET, pu_OX0, pu_BND, pu_NZ, pu_BL, pu_m1, nI_add, pk_sub, pk_mul, pk_div, nI_clamp, pu_eq, pu_ne, pu_le_t, pu_le_f, pu_lt_t, pu_lt_f, pu_nm, pu_mm, pu_u2e, pu_u2n, ↓reduceIte, li0, li1, li2, li3, li4, li5, li6, li7, li8, li9, li10, li11, li12, li13, li14, li15, li16, li17, li18, li19, li20, li21, li22, li23, li24, li25, li26, li27, li28, li29, li30, li31, li32, li33, li34, li35, li36, li37, li38, li39, li40, li41, li42, li43, li44, li45, li46, li47, li48, li49, li50, li51, li52, li53, li54, li55, li56, li57, li58, li59, li60, li64, li72, li87, li97, li98, li99, li100, li101, li102, li103, li104, li105, li108, li109, li110, li111, li112, li114, li115, li116, li117, li119, li120, li124, li126, li132, li139, li140, li148, li156, li1000, li1092, li1248, cl_reqW hw, t1, q1, pu_OXc]
  | some k =>
    have hk := jamO_le hj
    rw [hj] at q1
    have q1 : fX11_simulateJam_L13 m m (nI w) (nI 0) t = some (nI k, τ) := q1
    simp (disch := omega) only [pu_OB, pu_LET, pu_OX0, pu_BND, pu_NZ, pu_BL, pu_m1, nI_add, pk_sub, pk_mul, pk_div, nI_clamp, pu_eq, pu_ne, pu_le_t, pu_le_f, pu_lt_t, pu_lt_f, pu_nm, pu_mm, pu_u2e, pu_u2n, ↓reduceIte, li0, li1, li2, li3, li4, li5, li6, li7, li8, li9, li10, li11, li12, li13, li14, li15, li16, li17, li18, li19, li20, li21, li22, li23, li24, li25, li26, li27, li28, li29, li30, li31, li32, li33, li34, li35, li36, li37, li38, li39, li40, li41, li42, li43, li44, li45, li46, li47, li48, li49, li50, li51, li52, li53, li54, li55, li56, li57, li58, li59, li60, li64, li72, li87, li97, li98, li99, li100, li101, li102, li103, li104, li105, li108, li109, li110, li111, li112, li114, li115, li116, li117, li119, li120, li124, li126, li132, li139, li140, li148, li156, li1000, li1092, li1248, cl_reqW hw, t1, q1]
theorem q_groundWithin (hF : 2000 ≤ m) (hC : C < 512) (h : KG σ A H S B er fl C) {n : Nat} (hn : n ≤ 60) : ∃ τ, KG τ A H S B er fl C ∧ fX11_groundWithin m (nI n) σ = some ((0, nI ((spN n A).1 3 - A.1 3)), τ) := by
  have g5 := h.2.2.1
  obtain ⟨t, t1, t2, t3⟩ := cl_copy (k := 19) hF h.1 g5.1 g5.2 (by omega)
  obtain ⟨τ, g, q1, q2, hg, q4⟩ := cl_pass (m := m) (n := n) hF t2 g5.1 g5.2 (by omega) (by omega) (by omega)
  refine ⟨τ, h.trial fun c hc => by rw [q4 c (by omega), t3 c (by omega)], ?_⟩
  rw [show (spN n A).1 3 - A.1 3 = g by omega]
  unfold fX11_groundWithin
  simp (disch := omega) only [pu_OB, pu_LET, pu_OX0, pu_BND, pu_NZ, pu_BL, pu_m1, nI_add, pk_sub, pk_mul, pk_div, nI_clamp, pu_eq, pu_ne, pu_le_t, pu_le_f, pu_lt_t, pu_lt_f, pu_nm, pu_mm, pu_u2e, pu_u2n, ↓reduceIte, li0, li1, li2, li3, li4, li5, li6, li7, li8, li9, li10, li11, li12, li13, li14, li15, li16, li17, li18, li19, li20, li21, li22, li23, li24, li25, li26, li27, li28, li29, li30, li31, li32, li33, li34, li35, li36, li37, li38, li39, li40, li41, li42, li43, li44, li45, li46, li47, li48, li49, li50, li51, li52, li53, li54, li55, li56, li57, li58, li59, li60, li64, li72, li87, li97, li98, li99, li100, li101, li102, li103, li104, li105, li108, li109, li110, li111, li112, li114, li115, li116, li117, li119, li120, li124, li126, li132, li139, li140, li148, li156, li1000, li1092, li1248, t1, q1]
/-- the wheel of a rank by wear, the band of a rank by grains -/
def wrk (A : AM) (w : Nat) : Nat := 0 + sumF (fun o => if wbf A.1 o w = true then 1 else 0) 0 3
def brk (A : AM) (b : Nat) : Nat := 0 + sumF (fun o => if bbf A.1 o b = true then 1 else 0) 0 8
theorem q_wheelByWear (hF : 2000 ≤ m) (h : KG σ A H S B er fl C) {w : Nat} (hw : w < 3) (hb9 : ∀ v, v < w → wrk A v ≠ wrk A w) : fX11_wheelByWear m (nI (wrk A w)) σ = some ((0, nI w), σ) := by
  have g5 := h.2.2.1
  have hle : ∀ v, wrk A v ≤ 3 := fun v => by
    have := sumF_le (f := fun o => if wbf A.1 o v = true then 1 else 0) (M := 1) (d := 3) (i := 0) fun j _ _ => by
      split <;> omega
    unfold wrk
    omega
  have key : ∀ d i q, i + d = w → d < q → fX11_wheelByWear_L2 m q (nI (wrk A w)) (nI i) σ = some ((0, nI w), σ) := by
    intro d
    induction d with
    | zero =>
      intro i q h1 h2
      obtain ⟨q, rfl⟩ : ∃ n, q = n + 1 := ⟨q - 1, by omega⟩
      obtain rfl : i = w := by omega
      have e1 := cl_cw (m := m) hF h.1.1 g5.2 hw
      have c : nI (0 + sumF (fun o => if wbf A.1 o i = true then 1 else 0) 0 3) = nI (wrk A i) := rfl
      simp (disch := omega) only [pu_OB, pu_LET, pu_OX0, pu_BND, pu_NZ, pu_BL, pu_m1, nI_add, pk_sub, pk_mul, pk_div, nI_clamp, pu_eq, pu_ne, pu_le_t, pu_le_f, pu_lt_t, pu_lt_f, pu_nm, pu_mm, pu_u2e, pu_u2n, ↓reduceIte, li0, li1, li2, li3, li4, li5, li6, li7, li8, li9, li10, li11, li12, li13, li14, li15, li16, li17, li18, li19, li20, li21, li22, li23, li24, li25, li26, li27, li28, li29, li30, li31, li32, li33, li34, li35, li36, li37, li38, li39, li40, li41, li42, li43, li44, li45, li46, li47, li48, li49, li50, li51, li52, li53, li54, li55, li56, li57, li58, li59, li60, li64, li72, li87, li97, li98, li99, li100, li101, li102, li103, li104, li105, li108, li109, li110, li111, li112, li114, li115, li116, li117, li119, li120, li124, li126, li132, li139, li140, li148, li156, li1000, li1092, li1248, cl_wr_S, fX11_wheelByWear_L2b, e1, if_pos c]
    | succ d ih =>
      intro i q h1 h2
      obtain ⟨q, rfl⟩ : ∃ n, q = n + 1 := ⟨q - 1, by omega⟩
      have e1 := cl_cw (m := m) hF h.1.1 g5.2 (show i < 3 by omega)
      have c : ¬ nI (0 + sumF (fun o => if wbf A.1 o i = true then 1 else 0) 0 3) = nI (wrk A w) := fun e => by
        have l1 := hle i
        have l2 := hle w
        exact hb9 i (by omega) ((nI_eq (a := wrk A i) (b := wrk A w) (by omega) (by omega)).mp e)
      have hz := ih (i + 1) q (by omega) (by omega)
      rw [cl_wr_S]
      unfold fX11_wheelByWear_L2b
      simp (disch := omega) only [pu_OB, pu_LET, pu_OX0, pu_BND, pu_NZ, pu_BL, pu_m1, nI_add, pk_sub, pk_mul, pk_div, nI_clamp, pu_eq, pu_ne, pu_le_t, pu_le_f, pu_lt_t, pu_lt_f, pu_nm, pu_mm, pu_u2e, pu_u2n, ↓reduceIte, li0, li1, li2, li3, li4, li5, li6, li7, li8, li9, li10, li11, li12, li13, li14, li15, li16, li17, li18, li19, li20, li21, li22, li23, li24, li25, li26, li27, li28, li29, li30, li31, li32, li33, li34, li35, li36, li37, li38, li39, li40, li41, li42, li43, li44, li45, li46, li47, li48, li49, li50, li51, li52, li53, li54, li55, li56, li57, li58, li59, li60, li64, li72, li87, li97, li98, li99, li100, li101, li102, li103, li104, li105, li108, li109, li110, li111, li112, li114, li115, li116, li117, li119, li120, li124, li126, li132, li139, li140, li148, li156, li1000, li1092, li1248, e1, if_neg c]
      exact hz
  have := key w 0 m (by omega) (by omega)
  exact this
theorem q_bandByGrains (hF : 2000 ≤ m) (hC : C < 512) (h : KG σ A H S B er fl C) {w : Nat} (hw : w < 8) (hb9 : ∀ v, v < w → brk A v ≠ brk A w) : fX11_bandByGrains m (nI (brk A w)) σ = some ((0, nI w), σ) := by
  have g5 := h.2.2.1
  have hle : ∀ v, brk A v ≤ 8 := fun v => by
    have := sumF_le (f := fun o => if bbf A.1 o v = true then 1 else 0) (M := 1) (d := 8) (i := 0) fun j _ _ => by
      split <;> omega
    unfold brk
    omega
  have key : ∀ d i q, i + d = w → d < q → fX11_bandByGrains_L2 m q (nI (brk A w)) (nI i) σ = some ((0, nI w), σ) := by
    intro d
    induction d with
    | zero =>
      intro i q h1 h2
      obtain ⟨q, rfl⟩ : ∃ n, q = n + 1 := ⟨q - 1, by omega⟩
      obtain rfl : i = w := by omega
      have e1 := cl_cb (m := m) hF h.1.1 g5.2 (by omega) hw
      have c : nI (0 + sumF (fun o => if bbf A.1 o i = true then 1 else 0) 0 8) = nI (brk A i) := rfl
      simp (disch := omega) only [pu_OB, pu_LET, pu_OX0, pu_BND, pu_NZ, pu_BL, pu_m1, nI_add, pk_sub, pk_mul, pk_div, nI_clamp, pu_eq, pu_ne, pu_le_t, pu_le_f, pu_lt_t, pu_lt_f, pu_nm, pu_mm, pu_u2e, pu_u2n, ↓reduceIte, li0, li1, li2, li3, li4, li5, li6, li7, li8, li9, li10, li11, li12, li13, li14, li15, li16, li17, li18, li19, li20, li21, li22, li23, li24, li25, li26, li27, li28, li29, li30, li31, li32, li33, li34, li35, li36, li37, li38, li39, li40, li41, li42, li43, li44, li45, li46, li47, li48, li49, li50, li51, li52, li53, li54, li55, li56, li57, li58, li59, li60, li64, li72, li87, li97, li98, li99, li100, li101, li102, li103, li104, li105, li108, li109, li110, li111, li112, li114, li115, li116, li117, li119, li120, li124, li126, li132, li139, li140, li148, li156, li1000, li1092, li1248, cl_br_S, fX11_bandByGrains_L2b, e1, if_pos c]
    | succ d ih =>
      intro i q h1 h2
      obtain ⟨q, rfl⟩ : ∃ n, q = n + 1 := ⟨q - 1, by omega⟩
      have e1 := cl_cb (m := m) hF h.1.1 g5.2 (by omega) (show i < 8 by omega)
      have c : ¬ nI (0 + sumF (fun o => if bbf A.1 o i = true then 1 else 0) 0 8) = nI (brk A w) := fun e => by
        have l1 := hle i
        have l2 := hle w
        exact hb9 i (by omega) ((nI_eq (a := brk A i) (b := brk A w) (by omega) (by omega)).mp e)
      have hz := ih (i + 1) q (by omega) (by omega)
      rw [cl_br_S]
      unfold fX11_bandByGrains_L2b
      simp (disch := omega) only [pu_OB, pu_LET, pu_OX0, pu_BND, pu_NZ, pu_BL, pu_m1, nI_add, pk_sub, pk_mul, pk_div, nI_clamp, pu_eq, pu_ne, pu_le_t, pu_le_f, pu_lt_t, pu_lt_f, pu_nm, pu_mm, pu_u2e, pu_u2n, ↓reduceIte, li0, li1, li2, li3, li4, li5, li6, li7, li8, li9, li10, li11, li12, li13, li14, li15, li16, li17, li18, li19, li20, li21, li22, li23, li24, li25, li26, li27, li28, li29, li30, li31, li32, li33, li34, li35, li36, li37, li38, li39, li40, li41, li42, li43, li44, li45, li46, li47, li48, li49, li50, li51, li52, li53, li54, li55, li56, li57, li58, li59, li60, li64, li72, li87, li97, li98, li99, li100, li101, li102, li103, li104, li105, li108, li109, li110, li111, li112, li114, li115, li116, li117, li119, li120, li124, li126, li132, li139, li140, li148, li156, li1000, li1092, li1248, e1, if_neg c]
      exact hz
  have := key w 0 m (by omega) (by omega)
  exact this
end QU

