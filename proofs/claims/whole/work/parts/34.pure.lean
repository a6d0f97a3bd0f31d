-- ===== the eight changes: what the mill does, what the reference does =====
theorem rng1 (x : Int32) {n : Nat} (hn : n < 2 ^ 30) : (x < 1 ∨ nI (n + 1) ≤ x) ∨ ∃ j : Nat, 1 ≤ j ∧ j ≤ n ∧ x = nI j := by
  rcases pk_ix x (n := n + 1) (by omega) with h | h | ⟨j, hj, h⟩
  · refine Or.inl (Or.inl ?_)
    rw [Int32.lt_iff_toInt_lt, Int32.toInt_zero] at h
    rw [Int32.lt_iff_toInt_lt, show (1 : Int32).toInt = 1 from rfl]
    omega
  · exact Or.inl (Or.inr h)
  · by_cases c : j = 0
    · subst c
      refine Or.inl (Or.inl ?_)
      rw [h]
      decide +kernel
    · exact Or.inr ⟨j, by omega, by omega, h⟩
theorem rng0 (x : Int32) {n : Nat} (hn : n < 2 ^ 30) : (x < 0 ∨ nI n ≤ x) ∨ ∃ j : Nat, j < n ∧ x = nI j := by
  rcases pk_ix x (n := n) (by omega) with h | h | h
  · exact Or.inl (Or.inl h)
  · exact Or.inl (Or.inr h)
  · exact Or.inr h
theorem in_bad {x : Int32} {n : Nat} (hn : n < 2 ^ 31) (h : x < 0 ∨ nI n ≤ x) {j : Nat} (hj : j < n) : x ≠ nI j := fun e => by
  subst e
  rcases h with h | h
  · exact nI_pos (by omega) h
  · exact nI_ge hj hn h
section CL
variable {σ : St} {n m k : Nat} {sc : Nat → Nat} {L W : List E4}
theorem cl_isWheel {w : Nat} (h : w < 3) : fX6_isWheel (nI w) σ = some (nI 1, σ) := by
  unfold fX6_isWheel
  simp (disch := omega) only [pu_OB, pu_LET, pu_OX0, pu_BND, pu_NZ, pu_BL, pu_m1, nI_add, pk_sub, pk_mul, pk_div, nI_clamp, pu_eq, pu_ne, pu_le_t, pu_le_f, pu_lt_t, pu_lt_f, pu_nm, pu_mm, pu_u2e, pu_u2n, ↓reduceIte, li0, li1, li2, li3, li4, li5, li6, li7, li8, li9, li10, li11, li12, li13, li14, li15, li16, li17, li18, li19, li20, li21, li22, li23, li24, li25, li26, li27, li28, li29, li30, li31, li32, li33, li34, li35, li36, li37, li38, li39, li40, li41, li42, li43, li44, li45, li46, li47, li48, li49, li50, li51, li52, li53, li54, li55, li56, li57, li58, li59, li60, li64, li72, li87, li97, li98, li99, li100, li101, li102, li103, li104, li105, li108, li109, li110, li111, li112, li114, li115, li116, li117, li119, li120, li124, li126, li132, li139, li140, li148, li156, li1000, li1092, li1248]
theorem cl_isBand {w : Nat} (h : w < 8) : fX6_isBand (nI w) σ = some (nI 1, σ) := by
  unfold fX6_isBand
  simp (disch := omega) only [pu_OB, pu_LET, pu_OX0, pu_BND, pu_NZ, pu_BL, pu_m1, nI_add, pk_sub, pk_mul, pk_div, nI_clamp, pu_eq, pu_ne, pu_le_t, pu_le_f, pu_lt_t, pu_lt_f, pu_nm, pu_mm, pu_u2e, pu_u2n, ↓reduceIte, li0, li1, li2, li3, li4, li5, li6, li7, li8, li9, li10, li11, li12, li13, li14, li15, li16, li17, li18, li19, li20, li21, li22, li23, li24, li25, li26, li27, li28, li29, li30, li31, li32, li33, li34, li35, li36, li37, li38, li39, li40, li41, li42, li43, li44, li45, li46, li47, li48, li49, li50, li51, li52, li53, li54, li55, li56, li57, li58, li59, li60, li64, li72, li87, li97, li98, li99, li100, li101, li102, li103, li104, li105, li108, li109, li110, li111, li112, li114, li115, li116, li117, li119, li120, li124, li126, li132, li139, li140, li148, li156, li1000, li1092, li1248]
theorem cl_isGrade {w : Nat} (h : w < 4) : fX6_isGrade (nI w) σ = some (nI 1, σ) := by
  unfold fX6_isGrade
  simp (disch := omega) only [pu_OB, pu_LET, pu_OX0, pu_BND, pu_NZ, pu_BL, pu_m1, nI_add, pk_sub, pk_mul, pk_div, nI_clamp, pu_eq, pu_ne, pu_le_t, pu_le_f, pu_lt_t, pu_lt_f, pu_nm, pu_mm, pu_u2e, pu_u2n, ↓reduceIte, li0, li1, li2, li3, li4, li5, li6, li7, li8, li9, li10, li11, li12, li13, li14, li15, li16, li17, li18, li19, li20, li21, li22, li23, li24, li25, li26, li27, li28, li29, li30, li31, li32, li33, li34, li35, li36, li37, li38, li39, li40, li41, li42, li43, li44, li45, li46, li47, li48, li49, li50, li51, li52, li53, li54, li55, li56, li57, li58, li59, li60, li64, li72, li87, li97, li98, li99, li100, li101, li102, li103, li104, li105, li108, li109, li110, li111, li112, li114, li115, li116, li117, li119, li120, li124, li126, li132, li139, li140, li148, li156, li1000, li1092, li1248]
theorem cl_isWheel_x {p : Int32} (h : p < 0 ∨ nI 3 ≤ p) : fX6_isWheel p σ = some (nI 0, σ) := by
  unfold fX6_isWheel
  by_cases c : p < 0
  · rw [if_pos c]
    rfl
  · rw [if_neg c]
    exact if_pos (h.resolve_left c)
theorem cl_isBand_x {p : Int32} (h : p < 0 ∨ nI 8 ≤ p) : fX6_isBand p σ = some (nI 0, σ) := by
  unfold fX6_isBand
  by_cases c : p < 0
  · rw [if_pos c]
    rfl
  · rw [if_neg c]
    exact if_pos (h.resolve_left c)
theorem cl_isGrade_x {p : Int32} (h : p < 0 ∨ nI 4 ≤ p) : fX6_isGrade p σ = some (nI 0, σ) := by
  unfold fX6_isGrade
  by_cases c : p < 0
  · rw [if_pos c]
    rfl
  · rw [if_neg c]
    exact if_pos (h.resolve_left c)
theorem cl_within {p lo hi : Int32} : fX6_isWithin p lo hi σ = fX12_in p lo hi σ := rfl
theorem cl_isFull (hn : NRW σ n sc L W) (hl : W.length ≤ 12) : fX7_isFull n σ = some (nI (if W.length < 12 then 0 else 1), σ) := by
  have h := hn.2.1
  unfold fX7_isFull
  by_cases c : W.length < 12
  · simp (disch := omega) only [pu_OB, pu_LET, pu_OX0, pu_BND, pu_NZ, pu_BL, pu_m1, nI_add, pk_sub, pk_mul, pk_div, nI_clamp, pu_eq, pu_ne, pu_le_t, pu_le_f, pu_lt_t, pu_lt_f, pu_nm, pu_mm, pu_u2e, pu_u2n, ↓reduceIte, li0, li1, li2, li3, li4, li5, li6, li7, li8, li9, li10, li11, li12, li13, li14, li15, li16, li17, li18, li19, li20, li21, li22, li23, li24, li25, li26, li27, li28, li29, li30, li31, li32, li33, li34, li35, li36, li37, li38, li39, li40, li41, li42, li43, li44, li45, li46, li47, li48, li49, li50, li51, li52, li53, li54, li55, li56, li57, li58, li59, li60, li64, li72, li87, li97, li98, li99, li100, li101, li102, li103, li104, li105, li108, li109, li110, li111, li112, li114, li115, li116, li117, li119, li120, li124, li126, li132, li139, li140, li148, li156, li1000, li1092, li1248, h, if_pos c]
  · simp (disch := omega) only [pu_OB, pu_LET, pu_OX0, pu_BND, pu_NZ, pu_BL, pu_m1, nI_add, pk_sub, pk_mul, pk_div, nI_clamp, pu_eq, pu_ne, pu_le_t, pu_le_f, pu_lt_t, pu_lt_f, pu_nm, pu_mm, pu_u2e, pu_u2n, ↓reduceIte, li0, li1, li2, li3, li4, li5, li6, li7, li8, li9, li10, li11, li12, li13, li14, li15, li16, li17, li18, li19, li20, li21, li22, li23, li24, li25, li26, li27, li28, li29, li30, li31, li32, li33, li34, li35, li36, li37, li38, li39, li40, li41, li42, li43, li44, li45, li46, li47, li48, li49, li50, li51, li52, li53, li54, li55, li56, li57, li58, li59, li60, li64, li72, li87, li97, li98, li99, li100, li101, li102, li103, li104, li105, li108, li109, li110, li111, li112, li114, li115, li116, li117, li119, li120, li124, li126, li132, li139, li140, li148, li156, li1000, li1092, li1248, h, if_neg c]
theorem cl_append {b l a : Nat} (hn : NRW σ n sc L W) (hI : IN sc L) (hx : σ n 6 = nI (sc 1)) (hc : L.countP (wt sc) < 12) (he : b < 8 ∧ 1 ≤ l ∧ l ≤ 9 ∧ 1 ≤ a ∧ a ≤ 60) : ∃ τ, fX7_append n (nI b) (nI l) (nI a) σ = some (nI (sc 1), τ) ∧ NRW τ n (upN sc 1 (sc 1 + 1)) (L ++ [(sc 1, b, l, a)]) (W ++ [(sc 1, b, l, a)]) ∧ τ n 6 = nI (sc 1 + 1) ∧ ∀ c, c < n ∨ n + 5 ≤ c → τ c = σ c := by
  have hlen : W.length < 12 := by rw [hn.len]; exact hc
  have hful := cl_isFull hn (by omega)
  rw [if_pos hlen] at hful
  have h5 := hn.2.1
  have hA := IN_add (sd := upN sc 1 (sc 1 + 1)) hI (e := (sc 1, b, l, a)) ⟨rfl, he.1, he.2.1, he.2.2.1, he.2.2.2.1, he.2.2.2.2⟩ hc (upN_e rfl) fun w hw => upN_n (by omega)
  refine ⟨u2 (u2 (u2 (u2 (u2 (u2 σ (n + 1) W.length (nI (sc 1))) (n + 2) W.length (nI b)) (n + 3) W.length (nI l)) (n + 4) W.length (nI a)) n 5 (nI (W.length + 1))) n 6 (nI (sc 1 + 1)), ?_, ⟨?_, ?_, fun q hq => ?_, fun w hw => ?_⟩, pu_u2e ⟨rfl, rfl⟩, fun c hc => ?_⟩
  · unfold fX7_append
    simp (disch := omega) only [pu_OB, pu_LET, pu_OX0, pu_BND, pu_NZ, pu_BL, pu_m1, nI_add, pk_sub, pk_mul, pk_div, nI_clamp, pu_eq, pu_ne, pu_le_t, pu_le_f, pu_lt_t, pu_lt_f, pu_nm, pu_mm, pu_u2e, pu_u2n, ↓reduceIte, li0, li1, li2, li3, li4, li5, li6, li7, li8, li9, li10, li11, li12, li13, li14, li15, li16, li17, li18, li19, li20, li21, li22, li23, li24, li25, li26, li27, li28, li29, li30, li31, li32, li33, li34, li35, li36, li37, li38, li39, li40, li41, li42, li43, li44, li45, li46, li47, li48, li49, li50, li51, li52, li53, li54, li55, li56, li57, li58, li59, li60, li64, li72, li87, li97, li98, li99, li100, li101, li102, li103, li104, li105, li108, li109, li110, li111, li112, li114, li115, li116, li117, li119, li120, li124, li126, li132, li139, li140, li148, li156, li1000, li1092, li1248, hful, hx, h5]
  · rw [hA.2]
    exact hn.1.append_right _
  · rw [pu_u2n (by omega), pu_u2e ⟨rfl, rfl⟩, List.length_append]
    rfl
  · rw [List.length_append] at hq
    have hq : q < W.length + 1 := hq
    rw [ap_getD (by omega)]
    by_cases c : q = W.length
    · rw [if_pos c, c]
      refine ⟨?_, ?_, ?_, ?_⟩ <;> simp (disch := omega) only [pu_u2e, pu_u2n]
    · rw [if_neg c]
      refine slotE_congr (hn.2.2.1 q (by omega)) fun c9 h1 h2 => ?_
      rw [pu_u2n (by omega), pu_u2n (by omega), pu_u2n (by omega), pu_u2n (by omega), pu_u2n (by omega), pu_u2n (by omega)]
  · have h := hn.2.2.2 w hw
    rw [upN_n (by omega)]
    refine ⟨by rw [pu_u2n (by omega), pu_u2n (by omega), pu_u2n (by omega), pu_u2n (by omega), pu_u2n (by omega), pu_u2n (by omega)]; exact h.1, fun e he9 h1 => ?_⟩
    rcases List.mem_append.mp he9 with q | q
    · refine slotE_congr (h.2 e q h1) fun c9 h1 h2 => ?_
      rw [pu_u2n (by omega), pu_u2n (by omega), pu_u2n (by omega), pu_u2n (by omega), pu_u2n (by omega), pu_u2n (by omega)]
    · rw [List.mem_singleton.mp q] at h1
      have h1 : sc (13 + w) = sc 1 + 1 := h1
      have := hI.held hw
      omega
  · rw [pu_u2r (by omega), pu_u2r (by omega), pu_u2r (by omega), pu_u2r (by omega), pu_u2r (by omega), pu_u2r (by omega)]
theorem cl_putBack {w : Nat} {e : E4} (hn : NRW σ n sc L W) (hI : IN sc L) (hw : w < 3) (he : e ∈ L) (hh : sc (13 + w) = e.1 + 1) (hc : L.countP (wt sc) < 12) : ∃ τ, fX7_putBack n (nI w) σ = some (nI e.1, τ) ∧ NRW τ n (upN sc (13 + w) 0) L (W ++ [e]) ∧ τ n 6 = σ n 6 ∧ ∀ c, c < n ∨ n + 5 < c → τ c = σ c := by
  have hlen : W.length < 12 := by rw [hn.len]; exact hc
  have hful := cl_isFull hn (by omega)
  rw [if_pos hlen] at hful
  have h5 := hn.2.1
  have hF := IN_free hI he hw hh hc
  have hsl := (hn.2.2.2 w hw).2 e he hh
  have e6 : vp_nar .boolean (nI 0) = nI 0 := rfl
  have e7 := cl_move (σ := σ) (n := n) (p := 12 + w) (q := W.length) (by omega) (by omega)
  have e8 : mvS σ n (12 + w) W.length n 5 = nI W.length := by rw [mvS_o (by omega), h5]
  have e9 : mvS σ n (12 + w) W.length (n + 1) (12 + w) = nI e.1 := by rw [mvS_o (by omega)]; exact hsl.1
  refine ⟨u2 (u2 (mvS σ n (12 + w) W.length) (n + 5) w (nI 0)) n 5 (nI (W.length + 1)), ?_, ⟨?_, ?_, fun q hq => ?_, fun v hv => ?_⟩, ?_, fun c hc => ?_⟩
  · unfold fX7_putBack
    simp (disch := omega) only [pu_OB, pu_LET, pu_OX0, pu_BND, pu_NZ, pu_BL, pu_m1, nI_add, pk_sub, pk_mul, pk_div, nI_clamp, pu_eq, pu_ne, pu_le_t, pu_le_f, pu_lt_t, pu_lt_f, pu_nm, pu_mm, pu_u2e, pu_u2n, ↓reduceIte, li0, li1, li2, li3, li4, li5, li6, li7, li8, li9, li10, li11, li12, li13, li14, li15, li16, li17, li18, li19, li20, li21, li22, li23, li24, li25, li26, li27, li28, li29, li30, li31, li32, li33, li34, li35, li36, li37, li38, li39, li40, li41, li42, li43, li44, li45, li46, li47, li48, li49, li50, li51, li52, li53, li54, li55, li56, li57, li58, li59, li60, li64, li72, li87, li97, li98, li99, li100, li101, li102, li103, li104, li105, li108, li109, li110, li111, li112, li114, li115, li116, li117, li119, li120, li124, li126, li132, li139, li140, li148, li156, li1000, li1092, li1248, hful, cl_slotOn, h5, e7, e6, e8, e9]
  · exact ((hn.1.append_right [e]).trans (List.perm_append_singleton _ _)).trans hF.2.symm
  · rw [pu_u2e ⟨rfl, rfl⟩, List.length_append]
    rfl
  · rw [List.length_append] at hq
    have hq : q < W.length + 1 := hq
    rw [ap_getD (by omega)]
    refine slotE_congr (σ := mvS σ n (12 + w) W.length) ?_ fun c h1 h2 => by rw [pu_u2n (by omega), pu_u2n (by omega)]
    by_cases c : q = W.length
    · rw [if_pos c, c]
      exact mvS_to hsl
    · rw [if_neg c]
      exact mvS_keep (hn.2.2.1 q (by omega)) c
  · by_cases c : v = w
    · subst c
      rw [upN_e rfl]
      refine ⟨by rw [pu_u2n (by omega), pu_u2e ⟨rfl, rfl⟩]; rfl, fun f hf h1 => ?_⟩
      omega
    · have h := hn.2.2.2 v hv
      rw [upN_n (by omega)]
      refine ⟨by rw [pu_u2n (by omega), pu_u2n (by omega), mvS_o (by omega)]; exact h.1, fun f hf h1 => ?_⟩
      refine slotE_congr (σ := mvS σ n (12 + w) W.length) (mvS_keep (h.2 f hf h1) (by omega)) fun c h1 h2 => by rw [pu_u2n (by omega), pu_u2n (by omega)]
  · rw [pu_u2n (by omega), pu_u2n (by omega), mvS_o (by omega)]
  · rw [pu_u2r (by omega), pu_u2r (by omega), mvS_row (by omega)]
/-- a waiting noise is dropped -/
theorem cl_drop {q p : Nat} (hn : NRW σ n sc L W) (hI : IN sc L) (hq : q < W.length) (hp : p < L.length) (he : W.getD q z4 = L.getD p z4) : ∃ τ, fX7_removeWaiting n (nI q) σ = some (nI 0, τ) ∧ NRW τ n sc (L.eraseIdx p) (rmW W q) ∧ τ n 6 = σ n 6 ∧ ∀ c, c < n ∨ n + 5 ≤ c → τ c = σ c := by
  have hlen : W.length ≤ 12 := by rw [hn.len]; exact hI.2.2.1
  have hD := IN_del hI (er_perm hp) (by rw [← he]; exact (hn.at hq).2)
  rw [← he] at hD
  refine ⟨_, cl_removeWaiting hn.2.1 hlen hq, NRW_rm hI hn hq hD.2 (fun c h1 h2 j hj => rfl) fun w hw => ⟨(hn.2.2.2 w hw).1, fun e he9 h1 => (hn.2.2.2 w hw).2 e (List.mem_of_mem_eraseIdx he9) h1⟩, ?_, fun c hc => ?_⟩
  · rw [pu_u2n (by omega), mvS_o (by omega)]
  · rw [pu_u2r (by omega), mvS_row (by omega)]
end CL
-- the reference's
def spRem (A : AM) (p : Nat) : AM := (A.1, A.2.eraseIdx p)
section RF
variable {s : St} {m : Nat} {A : AM}
theorem rf_removes_x {x : Int32} (hF : 2000 ≤ m) (hS : SM s 1 A.1) (hN : NM s 1 A.2) (hI : IN A.1 A.2) (hx : ∀ j, j < A.2.length → nI (A.2.getD j z4).1 ≠ x) : RO (fX12_removes m x s) s (nI 0) 1 A := by
  have h := rf_place_none (m := m) hF hN hI.len hx
  unfold fX12_removes
  simp (disch := omega) only [pu_OB, pu_LET, pu_OX0, pu_BND, pu_NZ, pu_BL, pu_m1, nI_add, pk_sub, pk_mul, pk_div, nI_clamp, pu_eq, pu_ne, pu_le_t, pu_le_f, pu_lt_t, pu_lt_f, pu_nm, pu_mm, pu_u2e, pu_u2n, ↓reduceIte, li0, li1, li2, li3, li4, li5, li6, li7, li8, li9, li10, li11, li12, li13, li14, li15, li16, li17, li18, li19, li20, li21, li22, li23, li24, li25, li26, li27, li28, li29, li30, li31, li32, li33, li34, li35, li36, li37, li38, li39, li40, li41, li42, li43, li44, li45, li46, li47, li48, li49, li50, li51, li52, li53, li54, li55, li56, li57, li58, li59, li60, li64, li72, li87, li97, li98, li99, li100, li101, li102, li103, li104, li105, li108, li109, li110, li111, li112, li114, li115, li116, li117, li119, li120, li124, li126, li132, li139, li140, li148, li156, li1000, li1092, li1248, h, rf_fails]
  exact RO.fail hS hN
theorem rf_removes_h {p : Nat} (hF : 2000 ≤ m) (hS : SM s 1 A.1) (hN : NM s 1 A.2) (hI : IN A.1 A.2) (hB : A.1 1 < 2 ^ 30) (hp : p < A.2.length) (hw : wt A.1 (A.2.getD p z4) = false) : RO (fX12_removes m (nI (A.2.getD p z4).1) s) s (nI 0) 2 A := by
  have hl := hI.len
  have h := rf_place_at (m := m) hF hN hI hB hp
  unfold fX12_removes
  simp (disch := omega) only [pu_OB, pu_LET, pu_OX0, pu_BND, pu_NZ, pu_BL, pu_m1, nI_add, pk_sub, pk_mul, pk_div, nI_clamp, pu_eq, pu_ne, pu_le_t, pu_le_f, pu_lt_t, pu_lt_f, pu_nm, pu_mm, pu_u2e, pu_u2n, ↓reduceIte, li0, li1, li2, li3, li4, li5, li6, li7, li8, li9, li10, li11, li12, li13, li14, li15, li16, li17, li18, li19, li20, li21, li22, li23, li24, li25, li26, li27, li28, li29, li30, li31, li32, li33, li34, li35, li36, li37, li38, li39, li40, li41, li42, li43, li44, li45, li46, li47, li48, li49, li50, li51, li52, li53, li54, li55, li56, li57, li58, li59, li60, li64, li72, li87, li97, li98, li99, li100, li101, li102, li103, li104, li105, li108, li109, li110, li111, li112, li114, li115, li116, li117, li119, li120, li124, li126, li132, li139, li140, li148, li156, li1000, li1092, li1248, h, rf_waits_f hF hS hN hI hB hp hw, rf_fails]
  exact RO.fail hS hN
theorem rf_removes {p : Nat} (hF : 2000 ≤ m) (hS : SM s 1 A.1) (hN : NM s 1 A.2) (hI : IN A.1 A.2) (hB : A.1 1 < 2 ^ 30) (hp : p < A.2.length) (hw : wt A.1 (A.2.getD p z4) = true) : RO (fX12_removes m (nI (A.2.getD p z4).1) s) s (nI (A.2.getD p z4).2.2.2) 0 (spRem A p) := by
  have hl := hI.len
  have h := rf_place_at (m := m) hF hN hI hB hp
  have e := (hN.2 p hp).2.2.2
  obtain ⟨t, t1, t2, t3, t4⟩ := rf_drops (m := m) hF hS hN hl hp
  unfold fX12_removes
  simp (disch := omega) only [pu_OB, pu_LET, pu_OX0, pu_BND, pu_NZ, pu_BL, pu_m1, nI_add, pk_sub, pk_mul, pk_div, nI_clamp, pu_eq, pu_ne, pu_le_t, pu_le_f, pu_lt_t, pu_lt_f, pu_nm, pu_mm, pu_u2e, pu_u2n, ↓reduceIte, li0, li1, li2, li3, li4, li5, li6, li7, li8, li9, li10, li11, li12, li13, li14, li15, li16, li17, li18, li19, li20, li21, li22, li23, li24, li25, li26, li27, li28, li29, li30, li31, li32, li33, li34, li35, li36, li37, li38, li39, li40, li41, li42, li43, li44, li45, li46, li47, li48, li49, li50, li51, li52, li53, li54, li55, li56, li57, li58, li59, li60, li64, li72, li87, li97, li98, li99, li100, li101, li102, li103, li104, li105, li108, li109, li110, li111, li112, li114, li115, li116, li117, li119, li120, li124, li126, li132, li139, li140, li148, li156, li1000, li1092, li1248, h, rf_waits_t hF hS hN hI hB hp hw, e, t1, rf_done]
  exact RO.done (A := spRem A p) t2 t3 t4
theorem rf_gears {w g : Nat} (hS : SM s 1 A.1) (hN : NM s 1 A.2) (hl : A.2.length ≤ 15) (hw : w < 3) (hg : 1 ≤ g ∧ g ≤ 5) : RO (fX12_gears (nI w) (nI g) s) s (nI (A.1 (7 + w))) 0 (upN A.1 (7 + w) g, A.2) := by
  have e : s 1 (7 + w) = nI (A.1 (7 + w)) := hS _ (by omega) (by omega) (by omega)
  unfold fX12_gears
  simp (disch := omega) only [pu_OB, pu_LET, pu_OX0, pu_BND, pu_NZ, pu_BL, pu_m1, nI_add, pk_sub, pk_mul, pk_div, nI_clamp, pu_eq, pu_ne, pu_le_t, pu_le_f, pu_lt_t, pu_lt_f, pu_nm, pu_mm, pu_u2e, pu_u2n, ↓reduceIte, li0, li1, li2, li3, li4, li5, li6, li7, li8, li9, li10, li11, li12, li13, li14, li15, li16, li17, li18, li19, li20, li21, li22, li23, li24, li25, li26, li27, li28, li29, li30, li31, li32, li33, li34, li35, li36, li37, li38, li39, li40, li41, li42, li43, li44, li45, li46, li47, li48, li49, li50, li51, li52, li53, li54, li55, li56, li57, li58, li59, li60, li64, li72, li87, li97, li98, li99, li100, li101, li102, li103, li104, li105, li108, li109, li110, li111, li112, li114, li115, li116, li117, li119, li120, li124, li126, li132, li139, li140, li148, li156, li1000, li1092, li1248, rf_isWheel hw, rf_in_good, e, rf_done]
  exact RO.done (A := (upN A.1 (7 + w) g, A.2)) (hS.upd rfl) (hN.off hl (by omega)) fun c hc => pu_u2r hc
theorem rf_gears_x1 {p g : Int32} (hS : SM s 1 A.1) (hN : NM s 1 A.2) (h : p < 0 ∨ nI 3 ≤ p) : RO (fX12_gears p g s) s (nI 0) 1 A := by
  unfold fX12_gears
  simp (disch := omega) only [pu_OB, pu_LET, pu_OX0, pu_BND, pu_NZ, pu_BL, pu_m1, nI_add, pk_sub, pk_mul, pk_div, nI_clamp, pu_eq, pu_ne, pu_le_t, pu_le_f, pu_lt_t, pu_lt_f, pu_nm, pu_mm, pu_u2e, pu_u2n, ↓reduceIte, li0, li1, li2, li3, li4, li5, li6, li7, li8, li9, li10, li11, li12, li13, li14, li15, li16, li17, li18, li19, li20, li21, li22, li23, li24, li25, li26, li27, li28, li29, li30, li31, li32, li33, li34, li35, li36, li37, li38, li39, li40, li41, li42, li43, li44, li45, li46, li47, li48, li49, li50, li51, li52, li53, li54, li55, li56, li57, li58, li59, li60, li64, li72, li87, li97, li98, li99, li100, li101, li102, li103, li104, li105, li108, li109, li110, li111, li112, li114, li115, li116, li117, li119, li120, li124, li126, li132, li139, li140, li148, li156, li1000, li1092, li1248, rf_isWheel_x h, rf_fails]
  exact RO.fail hS hN
theorem rf_gears_x2 {w : Nat} {g : Int32} (hS : SM s 1 A.1) (hN : NM s 1 A.2) (hw : w < 3) (h : g < 1 ∨ nI 6 ≤ g) : RO (fX12_gears (nI w) g s) s (nI 0) 2 A := by
  have e : fX12_in g (nI 1) (nI 5) s = some (nI 0, s) := rf_in_bad (lo := 1) (hi := 5) h (by omega)
  unfold fX12_gears
  simp (disch := omega) only [pu_OB, pu_LET, pu_OX0, pu_BND, pu_NZ, pu_BL, pu_m1, nI_add, pk_sub, pk_mul, pk_div, nI_clamp, pu_eq, pu_ne, pu_le_t, pu_le_f, pu_lt_t, pu_lt_f, pu_nm, pu_mm, pu_u2e, pu_u2n, ↓reduceIte, li0, li1, li2, li3, li4, li5, li6, li7, li8, li9, li10, li11, li12, li13, li14, li15, li16, li17, li18, li19, li20, li21, li22, li23, li24, li25, li26, li27, li28, li29, li30, li31, li32, li33, li34, li35, li36, li37, li38, li39, li40, li41, li42, li43, li44, li45, li46, li47, li48, li49, li50, li51, li52, li53, li54, li55, li56, li57, li58, li59, li60, li64, li72, li87, li97, li98, li99, li100, li101, li102, li103, li104, li105, li108, li109, li110, li111, li112, li114, li115, li116, li117, li119, li120, li124, li126, li132, li139, li140, li148, li156, li1000, li1092, li1248, rf_isWheel hw, e, rf_fails]
  exact RO.fail hS hN
theorem rf_meshes {w g : Nat} (hS : SM s 1 A.1) (hN : NM s 1 A.2) (hl : A.2.length ≤ 15) (hw : w < 8) (hg : g < 10) : RO (fX12_meshes (nI w) (nI g) s) s (nI (A.1 (16 + w))) 0 (upN A.1 (16 + w) g, A.2) := by
  have e : s 1 (16 + w) = nI (A.1 (16 + w)) := hS _ (by omega) (by omega) (by omega)
  unfold fX12_meshes
  simp (disch := omega) only [pu_OB, pu_LET, pu_OX0, pu_BND, pu_NZ, pu_BL, pu_m1, nI_add, pk_sub, pk_mul, pk_div, nI_clamp, pu_eq, pu_ne, pu_le_t, pu_le_f, pu_lt_t, pu_lt_f, pu_nm, pu_mm, pu_u2e, pu_u2n, ↓reduceIte, li0, li1, li2, li3, li4, li5, li6, li7, li8, li9, li10, li11, li12, li13, li14, li15, li16, li17, li18, li19, li20, li21, li22, li23, li24, li25, li26, li27, li28, li29, li30, li31, li32, li33, li34, li35, li36, li37, li38, li39, li40, li41, li42, li43, li44, li45, li46, li47, li48, li49, li50, li51, li52, li53, li54, li55, li56, li57, li58, li59, li60, li64, li72, li87, li97, li98, li99, li100, li101, li102, li103, li104, li105, li108, li109, li110, li111, li112, li114, li115, li116, li117, li119, li120, li124, li126, li132, li139, li140, li148, li156, li1000, li1092, li1248, rf_isBand hw, rf_in_good, e, rf_done]
  exact RO.done (A := (upN A.1 (16 + w) g, A.2)) (hS.upd rfl) (hN.off hl (by omega)) fun c hc => pu_u2r hc
theorem rf_meshes_x {p g : Int32} (hS : SM s 1 A.1) (hN : NM s 1 A.2) (h : (p < 0 ∨ nI 8 ≤ p) ∨ (g < 0 ∨ nI 10 ≤ g)) : RO (fX12_meshes p g s) s (nI 0) 1 A := by
  have hz : RO (fX12_meshes_B17 s) s (nI 0) 1 A := RO.fail (c := 1) hS hN
  unfold fX12_meshes
  rcases rng0 p (n := 8) (by omega) with q | ⟨j, hj, rfl⟩
  · simp (disch := omega) only [pu_OB, pu_LET, pu_OX0, pu_BND, pu_NZ, pu_BL, pu_m1, nI_add, pk_sub, pk_mul, pk_div, nI_clamp, pu_eq, pu_ne, pu_le_t, pu_le_f, pu_lt_t, pu_lt_f, pu_nm, pu_mm, pu_u2e, pu_u2n, ↓reduceIte, li0, li1, li2, li3, li4, li5, li6, li7, li8, li9, li10, li11, li12, li13, li14, li15, li16, li17, li18, li19, li20, li21, li22, li23, li24, li25, li26, li27, li28, li29, li30, li31, li32, li33, li34, li35, li36, li37, li38, li39, li40, li41, li42, li43, li44, li45, li46, li47, li48, li49, li50, li51, li52, li53, li54, li55, li56, li57, li58, li59, li60, li64, li72, li87, li97, li98, li99, li100, li101, li102, li103, li104, li105, li108, li109, li110, li111, li112, li114, li115, li116, li117, li119, li120, li124, li126, li132, li139, li140, li148, li156, li1000, li1092, li1248, rf_isBand_x q]
    exact hz
  · rcases h with h | h
    · exact absurd rfl (in_bad (by omega) h hj)
    · have e : fX12_in g (nI 0) (nI 9) s = some (nI 0, s) := rf_in_bad (lo := 0) (hi := 9) h (by omega)
      simp (disch := omega) only [pu_OB, pu_LET, pu_OX0, pu_BND, pu_NZ, pu_BL, pu_m1, nI_add, pk_sub, pk_mul, pk_div, nI_clamp, pu_eq, pu_ne, pu_le_t, pu_le_f, pu_lt_t, pu_lt_f, pu_nm, pu_mm, pu_u2e, pu_u2n, ↓reduceIte, li0, li1, li2, li3, li4, li5, li6, li7, li8, li9, li10, li11, li12, li13, li14, li15, li16, li17, li18, li19, li20, li21, li22, li23, li24, li25, li26, li27, li28, li29, li30, li31, li32, li33, li34, li35, li36, li37, li38, li39, li40, li41, li42, li43, li44, li45, li46, li47, li48, li49, li50, li51, li52, li53, li54, li55, li56, li57, li58, li59, li60, li64, li72, li87, li97, li98, li99, li100, li101, li102, li103, li104, li105, li108, li109, li110, li111, li112, li114, li115, li116, li117, li119, li120, li124, li126, li132, li139, li140, li148, li156, li1000, li1092, li1248, rf_isBand hj, e]
      exact hz
theorem rf_clears {w : Nat} (hS : SM s 1 A.1) (hN : NM s 1 A.2) (hl : A.2.length ≤ 15) (hw : w < 3) : RO (fX12_clears (nI w) s) s (nI (A.1 (10 + w))) 0 (upN A.1 (10 + w) 0, A.2) := by
  have e : s 1 (10 + w) = nI (A.1 (10 + w)) := hS _ (by omega) (by omega) (by omega)
  unfold fX12_clears
  simp (disch := omega) only [pu_OB, pu_LET, pu_OX0, pu_BND, pu_NZ, pu_BL, pu_m1, nI_add, pk_sub, pk_mul, pk_div, nI_clamp, pu_eq, pu_ne, pu_le_t, pu_le_f, pu_lt_t, pu_lt_f, pu_nm, pu_mm, pu_u2e, pu_u2n, ↓reduceIte, li0, li1, li2, li3, li4, li5, li6, li7, li8, li9, li10, li11, li12, li13, li14, li15, li16, li17, li18, li19, li20, li21, li22, li23, li24, li25, li26, li27, li28, li29, li30, li31, li32, li33, li34, li35, li36, li37, li38, li39, li40, li41, li42, li43, li44, li45, li46, li47, li48, li49, li50, li51, li52, li53, li54, li55, li56, li57, li58, li59, li60, li64, li72, li87, li97, li98, li99, li100, li101, li102, li103, li104, li105, li108, li109, li110, li111, li112, li114, li115, li116, li117, li119, li120, li124, li126, li132, li139, li140, li148, li156, li1000, li1092, li1248, rf_isWheel hw, e, rf_done]
  exact RO.done (A := (upN A.1 (10 + w) 0, A.2)) (hS.upd rfl) (hN.off hl (by omega)) fun c hc => pu_u2r hc
theorem rf_clears_x {p : Int32} (hS : SM s 1 A.1) (hN : NM s 1 A.2) (h : p < 0 ∨ nI 3 ≤ p) : RO (fX12_clears p s) s (nI 0) 1 A := by
  unfold fX12_clears
  simp (disch := omega) only [pu_OB, pu_LET, pu_OX0, pu_BND, pu_NZ, pu_BL, pu_m1, nI_add, pk_sub, pk_mul, pk_div, nI_clamp, pu_eq, pu_ne, pu_le_t, pu_le_f, pu_lt_t, pu_lt_f, pu_nm, pu_mm, pu_u2e, pu_u2n, ↓reduceIte, li0, li1, li2, li3, li4, li5, li6, li7, li8, li9, li10, li11, li12, li13, li14, li15, li16, li17, li18, li19, li20, li21, li22, li23, li24, li25, li26, li27, li28, li29, li30, li31, li32, li33, li34, li35, li36, li37, li38, li39, li40, li41, li42, li43, li44, li45, li46, li47, li48, li49, li50, li51, li52, li53, li54, li55, li56, li57, li58, li59, li60, li64, li72, li87, li97, li98, li99, li100, li101, li102, li103, li104, li105, li108, li109, li110, li111, li112, li114, li115, li116, li117, li119, li120, li124, li126, li132, li139, li140, li148, li156, li1000, li1092, li1248, rf_isWheel_x h, rf_fails]
  exact RO.fail hS hN
theorem rf_releases_x {p : Int32} (hS : SM s 1 A.1) (hN : NM s 1 A.2) (h : p < 0 ∨ nI 3 ≤ p) : RO (fX12_releases m p s) s (nI 0) 1 A := by
  unfold fX12_releases
  simp (disch := omega) only [pu_OB, pu_LET, pu_OX0, pu_BND, pu_NZ, pu_BL, pu_m1, nI_add, pk_sub, pk_mul, pk_div, nI_clamp, pu_eq, pu_ne, pu_le_t, pu_le_f, pu_lt_t, pu_lt_f, pu_nm, pu_mm, pu_u2e, pu_u2n, ↓reduceIte, li0, li1, li2, li3, li4, li5, li6, li7, li8, li9, li10, li11, li12, li13, li14, li15, li16, li17, li18, li19, li20, li21, li22, li23, li24, li25, li26, li27, li28, li29, li30, li31, li32, li33, li34, li35, li36, li37, li38, li39, li40, li41, li42, li43, li44, li45, li46, li47, li48, li49, li50, li51, li52, li53, li54, li55, li56, li57, li58, li59, li60, li64, li72, li87, li97, li98, li99, li100, li101, li102, li103, li104, li105, li108, li109, li110, li111, li112, li114, li115, li116, li117, li119, li120, li124, li126, li132, li139, li140, li148, li156, li1000, li1092, li1248, rf_isWheel_x h, rf_fails]
  exact RO.fail hS hN
theorem rf_releases_0 {w : Nat} (hS : SM s 1 A.1) (hN : NM s 1 A.2) (hw : w < 3) (h : A.1 (13 + w) = 0) : RO (fX12_releases m (nI w) s) s (nI 0) 2 A := by
  have e : s 1 (13 + w) = nI 0 := by rw [hS _ (by omega) (by omega) (by omega), h]
  unfold fX12_releases
  simp (disch := omega) only [pu_OB, pu_LET, pu_OX0, pu_BND, pu_NZ, pu_BL, pu_m1, nI_add, pk_sub, pk_mul, pk_div, nI_clamp, pu_eq, pu_ne, pu_le_t, pu_le_f, pu_lt_t, pu_lt_f, pu_nm, pu_mm, pu_u2e, pu_u2n, ↓reduceIte, li0, li1, li2, li3, li4, li5, li6, li7, li8, li9, li10, li11, li12, li13, li14, li15, li16, li17, li18, li19, li20, li21, li22, li23, li24, li25, li26, li27, li28, li29, li30, li31, li32, li33, li34, li35, li36, li37, li38, li39, li40, li41, li42, li43, li44, li45, li46, li47, li48, li49, li50, li51, li52, li53, li54, li55, li56, li57, li58, li59, li60, li64, li72, li87, li97, li98, li99, li100, li101, li102, li103, li104, li105, li108, li109, li110, li111, li112, li114, li115, li116, li117, li119, li120, li124, li126, li132, li139, li140, li148, li156, li1000, li1092, li1248, rf_isWheel hw, e, rf_fails]
  exact RO.fail hS hN
theorem rf_releases_f {w : Nat} (hF : 2000 ≤ m) (hS : SM s 1 A.1) (hN : NM s 1 A.2) (hI : IN A.1 A.2) (hB : A.1 1 < 2 ^ 30) (hw : w < 3) (h : A.1 (13 + w) ≠ 0) (hc : A.2.countP (wt A.1) = 12) : RO (fX12_releases m (nI w) s) s (nI 0) 3 A := by
  have e : s 1 (13 + w) = nI (A.1 (13 + w)) := hS _ (by omega) (by omega) (by omega)
  have ew := rf_waiting hF hS hN hI hB
  have := hI.held hw
  unfold fX12_releases
  simp (disch := omega) only [pu_OB, pu_LET, pu_OX0, pu_BND, pu_NZ, pu_BL, pu_m1, nI_add, pk_sub, pk_mul, pk_div, nI_clamp, pu_eq, pu_ne, pu_le_t, pu_le_f, pu_lt_t, pu_lt_f, pu_nm, pu_mm, pu_u2e, pu_u2n, ↓reduceIte, li0, li1, li2, li3, li4, li5, li6, li7, li8, li9, li10, li11, li12, li13, li14, li15, li16, li17, li18, li19, li20, li21, li22, li23, li24, li25, li26, li27, li28, li29, li30, li31, li32, li33, li34, li35, li36, li37, li38, li39, li40, li41, li42, li43, li44, li45, li46, li47, li48, li49, li50, li51, li52, li53, li54, li55, li56, li57, li58, li59, li60, li64, li72, li87, li97, li98, li99, li100, li101, li102, li103, li104, li105, li108, li109, li110, li111, li112, li114, li115, li116, li117, li119, li120, li124, li126, li132, li139, li140, li148, li156, li1000, li1092, li1248, rf_isWheel hw, e, ew, hc, rf_fails]
  exact RO.fail hS hN
theorem rf_releases {w n : Nat} (hF : 2000 ≤ m) (hS : SM s 1 A.1) (hN : NM s 1 A.2) (hI : IN A.1 A.2) (hB : A.1 1 < 2 ^ 30) (hw : w < 3) (h : A.1 (13 + w) = n + 1) (hc : A.2.countP (wt A.1) < 12) : RO (fX12_releases m (nI w) s) s (nI n) 0 (upN A.1 (13 + w) 0, A.2) := by
  have hl := hI.len
  have e : s 1 (13 + w) = nI (n + 1) := by rw [hS _ (by omega) (by omega) (by omega), h]
  have ew := rf_waiting hF hS hN hI hB
  have := hI.held hw
  have e2 : nI (n + 1) - nI 1 = nI n := nI_pred n
  unfold fX12_releases
  simp (disch := omega) only [pu_OB, pu_LET, pu_OX0, pu_BND, pu_NZ, pu_BL, pu_m1, nI_add, pk_sub, pk_mul, pk_div, nI_clamp, pu_eq, pu_ne, pu_le_t, pu_le_f, pu_lt_t, pu_lt_f, pu_nm, pu_mm, pu_u2e, pu_u2n, ↓reduceIte, li0, li1, li2, li3, li4, li5, li6, li7, li8, li9, li10, li11, li12, li13, li14, li15, li16, li17, li18, li19, li20, li21, li22, li23, li24, li25, li26, li27, li28, li29, li30, li31, li32, li33, li34, li35, li36, li37, li38, li39, li40, li41, li42, li43, li44, li45, li46, li47, li48, li49, li50, li51, li52, li53, li54, li55, li56, li57, li58, li59, li60, li64, li72, li87, li97, li98, li99, li100, li101, li102, li103, li104, li105, li108, li109, li110, li111, li112, li114, li115, li116, li117, li119, li120, li124, li126, li132, li139, li140, li148, li156, li1000, li1092, li1248, rf_isWheel hw, e, ew, e2, rf_done]
  exact RO.done (A := (upN A.1 (13 + w) 0, A.2)) (hS.upd rfl) (hN.off hl (by omega)) fun c hc => pu_u2r hc
theorem rf_ships_x {p g : Int32} (hS : SM s 1 A.1) (hN : NM s 1 A.2) (h : (p < 0 ∨ nI 4 ≤ p) ∨ (g < 1 ∨ nI 7 ≤ g)) : RO (fX12_ships p g s) s (nI 0) 1 A := by
  have hz : RO (fX12_ships_B17 s) s (nI 0) 1 A := RO.fail (c := 1) hS hN
  unfold fX12_ships
  rcases rng0 p (n := 4) (by omega) with q | ⟨j, hj, rfl⟩
  · simp (disch := omega) only [pu_OB, pu_LET, pu_OX0, pu_BND, pu_NZ, pu_BL, pu_m1, nI_add, pk_sub, pk_mul, pk_div, nI_clamp, pu_eq, pu_ne, pu_le_t, pu_le_f, pu_lt_t, pu_lt_f, pu_nm, pu_mm, pu_u2e, pu_u2n, ↓reduceIte, li0, li1, li2, li3, li4, li5, li6, li7, li8, li9, li10, li11, li12, li13, li14, li15, li16, li17, li18, li19, li20, li21, li22, li23, li24, li25, li26, li27, li28, li29, li30, li31, li32, li33, li34, li35, li36, li37, li38, li39, li40, li41, li42, li43, li44, li45, li46, li47, li48, li49, li50, li51, li52, li53, li54, li55, li56, li57, li58, li59, li60, li64, li72, li87, li97, li98, li99, li100, li101, li102, li103, li104, li105, li108, li109, li110, li111, li112, li114, li115, li116, li117, li119, li120, li124, li126, li132, li139, li140, li148, li156, li1000, li1092, li1248, rf_isGrade_x q]
    exact hz
  · rcases h with h | h
    · exact absurd rfl (in_bad (by omega) h hj)
    · have e : fX12_in g (nI 1) (nI 6) s = some (nI 0, s) := rf_in_bad (lo := 1) (hi := 6) h (by omega)
      simp (disch := omega) only [pu_OB, pu_LET, pu_OX0, pu_BND, pu_NZ, pu_BL, pu_m1, nI_add, pk_sub, pk_mul, pk_div, nI_clamp, pu_eq, pu_ne, pu_le_t, pu_le_f, pu_lt_t, pu_lt_f, pu_nm, pu_mm, pu_u2e, pu_u2n, ↓reduceIte, li0, li1, li2, li3, li4, li5, li6, li7, li8, li9, li10, li11, li12, li13, li14, li15, li16, li17, li18, li19, li20, li21, li22, li23, li24, li25, li26, li27, li28, li29, li30, li31, li32, li33, li34, li35, li36, li37, li38, li39, li40, li41, li42, li43, li44, li45, li46, li47, li48, li49, li50, li51, li52, li53, li54, li55, li56, li57, li58, li59, li60, li64, li72, li87, li97, li98, li99, li100, li101, li102, li103, li104, li105, li108, li109, li110, li111, li112, li114, li115, li116, li117, li119, li120, li124, li126, li132, li139, li140, li148, li156, li1000, li1092, li1248, rf_isGrade hj, e]
      exact hz
def spShip (A : AM) (g n : Nat) : AM := (upN (upN A.1 (28 + g) (A.1 (28 + g) - 20 * n)) (24 + g) (A.1 (24 + g) + n), A.2)
theorem rf_ships {g n : Nat} (hS : SM s 1 A.1) (hN : NM s 1 A.2) (hl : A.2.length ≤ 15) (hg : g < 4) (hn : 1 ≤ n ∧ n ≤ 6) (hf : A.1 (28 + g) ≤ 139) :
    (A.1 (28 + g) / 20 < n → RO (fX12_ships (nI g) (nI n) s) s (nI 0) 2 A) ∧ (n ≤ A.1 (28 + g) / 20 → RO (fX12_ships (nI g) (nI n) s) s (nI ((A.1 (28 + g) - 20 * n) / 20)) 0 (spShip A g n)) := by
  have e : s 1 (28 + g) = nI (A.1 (28 + g)) := hS _ (by omega) (by omega) (by omega)
  have e2 : s 1 (24 + g) = nI (A.1 (24 + g)) := hS _ (by omega) (by omega) (by omega)
  have e3 : nI (A.1 (28 + g)) / nI 20 = nI (A.1 (28 + g) / 20) := pk_div (by omega) (by omega) (by omega)
  refine ⟨fun c => ?_, fun c => ?_⟩
  · unfold fX12_ships
    simp (disch := omega) only [pu_OB, pu_LET, pu_OX0, pu_BND, pu_NZ, pu_BL, pu_m1, nI_add, pk_sub, pk_mul, pk_div, nI_clamp, pu_eq, pu_ne, pu_le_t, pu_le_f, pu_lt_t, pu_lt_f, pu_nm, pu_mm, pu_u2e, pu_u2n, ↓reduceIte, li0, li1, li2, li3, li4, li5, li6, li7, li8, li9, li10, li11, li12, li13, li14, li15, li16, li17, li18, li19, li20, li21, li22, li23, li24, li25, li26, li27, li28, li29, li30, li31, li32, li33, li34, li35, li36, li37, li38, li39, li40, li41, li42, li43, li44, li45, li46, li47, li48, li49, li50, li51, li52, li53, li54, li55, li56, li57, li58, li59, li60, li64, li72, li87, li97, li98, li99, li100, li101, li102, li103, li104, li105, li108, li109, li110, li111, li112, li114, li115, li116, li117, li119, li120, li124, li126, li132, li139, li140, li148, li156, li1000, li1092, li1248, rf_isGrade hg, rf_in_good, e, e3, rf_fails]
    exact RO.fail hS hN
  · have e4 : nI (A.1 (28 + g) - 20 * n) / nI 20 = nI ((A.1 (28 + g) - 20 * n) / 20) := pk_div (by omega) (by omega) (by omega)
    unfold fX12_ships
    simp (disch := omega) only [pu_OB, pu_LET, pu_OX0, pu_BND, pu_NZ, pu_BL, pu_m1, nI_add, pk_sub, pk_mul, pk_div, nI_clamp, pu_eq, pu_ne, pu_le_t, pu_le_f, pu_lt_t, pu_lt_f, pu_nm, pu_mm, pu_u2e, pu_u2n, ↓reduceIte, li0, li1, li2, li3, li4, li5, li6, li7, li8, li9, li10, li11, li12, li13, li14, li15, li16, li17, li18, li19, li20, li21, li22, li23, li24, li25, li26, li27, li28, li29, li30, li31, li32, li33, li34, li35, li36, li37, li38, li39, li40, li41, li42, li43, li44, li45, li46, li47, li48, li49, li50, li51, li52, li53, li54, li55, li56, li57, li58, li59, li60, li64, li72, li87, li97, li98, li99, li100, li101, li102, li103, li104, li105, li108, li109, li110, li111, li112, li114, li115, li116, li117, li119, li120, li124, li126, li132, li139, li140, li148, li156, li1000, li1092, li1248, rf_isGrade hg, rf_in_good, e, e3, e2, e4, rf_done]
    exact RO.done (A := spShip A g n) ((hS.upd rfl).upd rfl) ((hN.off hl (by omega)).off hl (by omega)) fun c hc => by rw [pu_u2r hc, pu_u2r hc]
theorem rf_advances_x {p : Int32} (hS : SM s 1 A.1) (hN : NM s 1 A.2) (h : p < 1 ∨ nI 41 ≤ p) : RO (fX12_advances m p s) s (nI 0) 1 A := by
  have e : fX12_in p (nI 1) (nI 40) s = some (nI 0, s) := rf_in_bad (lo := 1) (hi := 40) h (by omega)
  unfold fX12_advances
  simp (disch := omega) only [pu_OB, pu_LET, pu_OX0, pu_BND, pu_NZ, pu_BL, pu_m1, nI_add, pk_sub, pk_mul, pk_div, nI_clamp, pu_eq, pu_ne, pu_le_t, pu_le_f, pu_lt_t, pu_lt_f, pu_nm, pu_mm, pu_u2e, pu_u2n, ↓reduceIte, li0, li1, li2, li3, li4, li5, li6, li7, li8, li9, li10, li11, li12, li13, li14, li15, li16, li17, li18, li19, li20, li21, li22, li23, li24, li25, li26, li27, li28, li29, li30, li31, li32, li33, li34, li35, li36, li37, li38, li39, li40, li41, li42, li43, li44, li45, li46, li47, li48, li49, li50, li51, li52, li53, li54, li55, li56, li57, li58, li59, li60, li64, li72, li87, li97, li98, li99, li100, li101, li102, li103, li104, li105, li108, li109, li110, li111, li112, li114, li115, li116, li117, li119, li120, li124, li126, li132, li139, li140, li148, li156, li1000, li1092, li1248, e, rf_fails]
  exact RO.fail hS hN
end RF
