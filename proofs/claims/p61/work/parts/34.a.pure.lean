theorem cl_in_good {j lo hi : Nat} {s : St} (h1 : lo ≤ j) (h2 : j ≤ hi) (h3 : hi < 2 ^ 31) : fX6_isWithin (nI j) (nI lo) (nI hi) s = some (nI 1, s) := by
  unfold fX6_isWithin
  simp (disch := omega) only [pu_OB, pu_LET, pu_OX0, pu_BND, pu_NZ, pu_BL, pu_m1, nI_add, pk_sub, pk_mul, pk_div, nI_clamp, pu_eq, pu_ne, pu_le_t, pu_le_f, pu_lt_t, pu_lt_f, pu_nm, pu_mm, pu_u2e, pu_u2n, ↓reduceIte, li0, li1, li2, li3, li4, li5, li6, li7, li8, li9, li10, li11, li12, li13, li14, li15, li16, li17, li18, li19, li20, li21, li22, li23, li24, li25, li26, li27, li28, li29, li30, li31, li32, li33, li34, li35, li36, li37, li38, li39, li40, li41, li42, li43, li44, li45, li46, li47, li48, li49, li50, li51, li52, li53, li54, li55, li56, li57, li58, li59, li60, li64, li72, li87, li97, li98, li99, li100, li101, li102, li103, li104, li105, li108, li109, li110, li111, li112, li114, li115, li116, li117, li119, li120, li124, li126, li132, li139, li140, li148, li156, li1000, li1092, li1248]
theorem cl_in_bad {p : Int32} {lo hi : Nat} {s : St} (h : p < nI lo ∨ nI (hi + 1) ≤ p) (hh : hi + 1 < 2 ^ 31) : fX6_isWithin p (nI lo) (nI hi) s = some (nI 0, s) := by
  unfold fX6_isWithin
  by_cases c : p < nI lo
  · rw [if_pos c]
    rfl
  · rw [if_neg c, if_pos]
    · rfl
    · rcases h with h | h
      · exact absurd h c
      · rw [Int32.le_iff_toInt_le, nI_toInt hh] at h
        rw [Int32.lt_iff_toInt_lt, nI_toInt (by omega)]
        omega
/-- a noise with this number, or none -/
theorem pl_or {L : List E4} {x : Int32} : (∃ p, p < L.length ∧ x = nI (L.getD p z4).1) ∨ ∀ j, j < L.length → nI (L.getD j z4).1 ≠ x := by
  by_cases h : ∃ p, p < L.length ∧ x = nI (L.getD p z4).1
  · exact Or.inl h
  · exact Or.inr fun j hj q => h ⟨j, hj, q.symm⟩
-- ===== the eight changes: what the mill does, what the reference does =====
theorem rng1 (x : Int32) {n : Nat} (hn : n < 2 ^ 30) : (x < 1 ∨ nI (n + 1) ≤ x) ∨ ∃ j : Nat, 1 ≤ j ∧ j ≤ n ∧ x = nI j := by
  rcases pk_ix x (n := n + 1) (by omega) with h | h | ⟨j, hj, h⟩
  · refine Or.inl (Or.inl ?_)
    rw [Int32.lt_iff_toInt_lt, Int32.toInt_zero] at h
    rw [Int32.lt_iff_toInt_lt, show (1 : Int32).toInt = 1 from rfl]
    omega
  · exact Or.inl (Or.inr h)
  · by_cases c : j = 0
    · subst c
      refine Or.inl (Or.inl ?_)
      rw [h]
      decide +kernel
    · exact Or.inr ⟨j, by omega, by omega, h⟩
theorem rng0 (x : Int32) {n : Nat} (hn : n < 2 ^ 30) : (x < 0 ∨ nI n ≤ x) ∨ ∃ j : Nat, j < n ∧ x = nI j := by
  rcases pk_ix x (n := n) (by omega) with h | h | h
  · exact Or.inl (Or.inl h)
  · exact Or.inl (Or.inr h)
  · exact Or.inr h
theorem in_bad {x : Int32} {n : Nat} (hn : n < 2 ^ 31) (h : x < 0 ∨ nI n ≤ x) {j : Nat} (hj : j < n) : x ≠ nI j := fun e => by
  subst e
  rcases h with h | h
  · exact nI_pos (by omega) h
  · exact nI_ge hj hn h
section CL
variable {σ : St} {n m k : Nat} {sc : Nat → Nat} {L W : List E4}
theorem cl_isWheel {w : Nat} (h : w < 3) : fX6_isWheel (nI w) σ = some (nI 1, σ) := by
  unfold fX6_isWheel
  simp (disch := omega) only [pu_OB, pu_LET, pu_OX0, pu_BND, pu_NZ, pu_BL, pu_m1, nI_add, pk_sub, pk_mul, pk_div, nI_clamp, pu_eq, pu_ne, pu_le_t, pu_le_f, pu_lt_t, pu_lt_f, pu_nm, pu_mm, pu_u2e, pu_u2n, ↓reduceIte, li0, li1, li2, li3, li4, li5, li6, li7, li8, li9, li10, li11, li12, li13, li14, li15, li16, li17, li18, li19, li20, li21, li22, li23, li24, li25, li26, li27, li28, li29, li30, li31, li32, li33, li34, li35, li36, li37, li38, li39, li40, li41, li42, li43, li44, li45, li46, li47, li48, li49, li50, li51, li52, li53, li54, li55, li56, li57, li58, li59, li60, li64, li72, li87, li97, li98, li99, li100, li101, li102, li103, li104, li105, li108, li109, li110, li111, li112, li114, li115, li116, li117, li119, li120, li124, li126, li132, li139, li140, li148, li156, li1000, li1092, li1248]
theorem cl_isBand {w : Nat} (h : w < 8) : fX6_isBand (nI w) σ = some (nI 1, σ) := by
  unfold fX6_isBand
  simp (disch := omega) only [pu_OB, pu_LET, pu_OX0, pu_BND, pu_NZ, pu_BL, pu_m1, nI_add, pk_sub, pk_mul, pk_div, nI_clamp, pu_eq, pu_ne, pu_le_t, pu_le_f, pu_lt_t, pu_lt_f, pu_nm, pu_mm, pu_u2e, pu_u2n, ↓reduceIte, li0, li1, li2, li3, li4, li5, li6, li7, li8, li9, li10, li11, li12, li13, li14, li15, li16, li17, li18, li19, li20, li21, li22, li23, li24, li25, li26, li27, li28, li29, li30, li31, li32, li33, li34, li35, li36, li37, li38, li39, li40, li41, li42, li43, li44, li45, li46, li47, li48, li49, li50, li51, li52, li53, li54, li55, li56, li57, li58, li59, li60, li64, li72, li87, li97, li98, li99, li100, li101, li102, li103, li104, li105, li108, li109, li110, li111, li112, li114, li115, li116, li117, li119, li120, li124, li126, li132, li139, li140, li148, li156, li1000, li1092, li1248]
theorem cl_isGrade {w : Nat} (h : w < 4) : fX6_isGrade (nI w) σ = some (nI 1, σ) := by
  unfold fX6_isGrade
  simp (disch := omega) only [pu_OB, pu_LET, pu_OX0, pu_BND, pu_NZ, pu_BL, pu_m1, nI_add, pk_sub, pk_mul, pk_div, nI_clamp, pu_eq, pu_ne, pu_le_t, pu_le_f, pu_lt_t, pu_lt_f, pu_nm, pu_mm, pu_u2e, pu_u2n, ↓reduceIte, li0, li1, li2, li3, li4, li5, li6, li7, li8, li9, li10, li11, li12, li13, li14, li15, li16, li17, li18, li19, li20, li21, li22, li23, li24, li25, li26, li27, li28, li29, li30, li31, li32, li33, li34, li35, li36, li37, li38, li39, li40, li41, li42, li43, li44, li45, li46, li47, li48, li49, li50, li51, li52, li53, li54, li55, li56, li57, li58, li59, li60, li64, li72, li87, li97, li98, li99, li100, li101, li102, li103, li104, li105, li108, li109, li110, li111, li112, li114, li115, li116, li117, li119, li120, li124, li126, li132, li139, li140, li148, li156, li1000, li1092, li1248]
theorem cl_isWheel_x {p : Int32} (h : p < 0 ∨ nI 3 ≤ p) : fX6_isWheel p σ = some (nI 0, σ) := by
  unfold fX6_isWheel
  by_cases c : p < 0
  · rw [if_pos c]
    rfl
  · rw [if_neg c]
    exact if_pos (h.resolve_left c)
theorem cl_isBand_x {p : Int32} (h : p < 0 ∨ nI 8 ≤ p) : fX6_isBand p σ = some (nI 0, σ) := by
  unfold fX6_isBand
  by_cases c : p < 0
  · rw [if_pos c]
    rfl
  · rw [if_neg c]
    exact if_pos (h.resolve_left c)
theorem cl_isGrade_x {p : Int32} (h : p < 0 ∨ nI 4 ≤ p) : fX6_isGrade p σ = some (nI 0, σ) := by
  unfold fX6_isGrade
  by_cases c : p < 0
  · rw [if_pos c]
    rfl
  · rw [if_neg c]
    exact if_pos (h.resolve_left c)
theorem cl_isFull (hn : NRW σ n sc L W) (hl : W.length ≤ 12) : fX7_isFull n σ = some (nI (if W.length < 12 then 0 else 1), σ) := by
  have h := hn.2.1
  unfold fX7_isFull
  by_cases c : W.length < 12
  · simp (disch := omega) only [pu_OB, pu_LET, pu_OX0, pu_BND, pu_NZ, pu_BL, pu_m1, nI_add, pk_sub, pk_mul, pk_div, nI_clamp, pu_eq, pu_ne, pu_le_t, pu_le_f, pu_lt_t, pu_lt_f, pu_nm, pu_mm, pu_u2e, pu_u2n, ↓reduceIte, li0, li1, li2, li3, li4, li5, li6, li7, li8, li9, li10, li11, li12, li13, li14, li15, li16, li17, li18, li19, li20, li21, li22, li23, li24, li25, li26, li27, li28, li29, li30, li31, li32, li33, li34, li35, li36, li37, li38, li39, li40, li41, li42, li43, li44, li45, li46, li47, li48, li49, li50, li51, li52, li53, li54, li55, li56, li57, li58, li59, li60, li64, li72, li87, li97, li98, li99, li100, li101, li102, li103, li104, li105, li108, li109, li110, li111, li112, li114, li115, li116, li117, li119, li120, li124, li126, li132, li139, li140, li148, li156, li1000, li1092, li1248, h, if_pos c]
  · simp (disch := omega) only [pu_OB, pu_LET, pu_OX0, pu_BND, pu_NZ, pu_BL, pu_m1, nI_add, pk_sub, pk_mul, pk_div, nI_clamp, pu_eq, pu_ne, pu_le_t, pu_le_f, pu_lt_t, pu_lt_f, pu_nm, pu_mm, pu_u2e, pu_u2n, ↓reduceIte, li0, li1, li2, li3, li4, li5, li6, li7, li8, li9, li10, li11, li12, li13, li14, li15, li16, li17, li18, li19, li20, li21, li22, li23, li24, li25, li26, li27, li28, li29, li30, li31, li32, li33, li34, li35, li36, li37, li38, li39, li40, li41, li42, li43, li44, li45, li46, li47, li48, li49, li50, li51, li52, li53, li54, li55, li56, li57, li58, li59, li60, li64, li72, li87, li97, li98, li99, li100, li101, li102, li103, li104, li105, li108, li109, li110, li111, li112, li114, li115, li116, li117, li119, li120, li124, li126, li132, li139, li140, li148, li156, li1000, li1092, li1248, h, if_neg c]
theorem cl_append {b l a : Nat} (hn : NRW σ n sc L W) (hI : IN sc L) (hx : σ n 6 = nI (sc 1)) (hc : L.countP (wt sc) < 12) (he : b < 8 ∧ 1 ≤ l ∧ l ≤ 9 ∧ 1 ≤ a ∧ a ≤ 60) : ∃ τ, fX7_append n (nI b) (nI l) (nI a) σ = some (nI (sc 1), τ) ∧ NRW τ n (upN sc 1 (sc 1 + 1)) (L ++ [(sc 1, b, l, a)]) (W ++ [(sc 1, b, l, a)]) ∧ τ n 6 = nI (sc 1 + 1) ∧ ∀ c, c < n ∨ n + 5 ≤ c → τ c = σ c := by
  have hlen : W.length < 12 := by rw [hn.len]; exact hc
  have hful := cl_isFull hn (by omega)
  rw [if_pos hlen] at hful
  have h5 := hn.2.1
  have hA := IN_add (sd := upN sc 1 (sc 1 + 1)) hI (e := (sc 1, b, l, a)) ⟨rfl, he.1, he.2.1, he.2.2.1, he.2.2.2.1, he.2.2.2.2⟩ hc (upN_e rfl) fun w hw => upN_n (by omega)
  refine ⟨u2 (u2 (u2 (u2 (u2 (u2 σ (n + 1) W.length (nI (sc 1))) (n + 2) W.length (nI b)) (n + 3) W.length (nI l)) (n + 4) W.length (nI a)) n 5 (nI (W.length + 1))) n 6 (nI (sc 1 + 1)), ?_, ⟨?_, ?_, fun q hq => ?_, fun w hw => ?_⟩, pu_u2e ⟨rfl, rfl⟩, fun c hc => ?_⟩
  · unfold fX7_append
    simp (disch := omega) only [pu_OB, pu_LET, pu_OX0, pu_BND, pu_NZ, pu_BL, pu_m1, nI_add, pk_sub, pk_mul, pk_div, nI_clamp, pu_eq, pu_ne, pu_le_t, pu_le_f, pu_lt_t, pu_lt_f, pu_nm, pu_mm, pu_u2e, pu_u2n, ↓reduceIte, li0, li1, li2, li3, li4, li5, li6, li7, li8, li9, li10, li11, li12, li13, li14, li15, li16, li17, li18, li19, li20, li21, li22, li23, li24, li25, li26, li27, li28, li29, li30, li31, li32, li33, li34, li35, li36, li37, li38, li39, li40, li41, li42, li43, li44, li45, li46, li47, li48, li49, li50, li51, li52, li53, li54, li55, li56, li57, li58, li59, li60, li64, li72, li87, li97, li98, li99, li100, li101, li102, li103, li104, li105, li108, li109, li110, li111, li112, li114, li115, li116, li117, li119, li120, li124, li126, li132, li139, li140, li148, li156, li1000, li1092, li1248, hful, hx, h5]
  · rw [hA.2]
    exact hn.1.append_right _
  · rw [pu_u2n (by omega), pu_u2e ⟨rfl, rfl⟩, List.length_append]
    rfl
  · rw [List.length_append] at hq
    have hq : q < W.length + 1 := hq
    rw [ap_getD (by omega)]
    by_cases c : q = W.length
    · rw [if_pos c, c]
      refine ⟨?_, ?_, ?_, ?_⟩ <;> simp (disch := omega) only [pu_u2e, pu_u2n]
    · rw [if_neg c]
      refine slotE_congr (hn.2.2.1 q (by omega)) fun c9 h1 h2 => ?_
      rw [pu_u2n (by omega), pu_u2n (by omega), pu_u2n (by omega), pu_u2n (by omega), pu_u2n (by omega), pu_u2n (by omega)]
  · have h := hn.2.2.2 w hw
    rw [upN_n (by omega)]
    refine ⟨by rw [pu_u2n (by omega), pu_u2n (by omega), pu_u2n (by omega), pu_u2n (by omega), pu_u2n (by omega), pu_u2n (by omega)]; exact h.1, fun e he9 h1 => ?_⟩
    rcases List.mem_append.mp he9 with q | q
    · refine slotE_congr (h.2 e q h1) fun c9 h1 h2 => ?_
      rw [pu_u2n (by omega), pu_u2n (by omega), pu_u2n (by omega), pu_u2n (by omega), pu_u2n (by omega), pu_u2n (by omega)]
    · rw [List.mem_singleton.mp q] at h1
      have h1 : sc (13 + w) = sc 1 + 1 := h1
      have := hI.held hw
      omega
  · rw [pu_u2r (by omega), pu_u2r (by omega), pu_u2r (by omega), pu_u2r (by omega), pu_u2r (by omega), pu_u2r (by omega)]
theorem cl_putBack {w : Nat} {e : E4} (hn : NRW σ n sc L W) (hI : IN sc L) (hw : w < 3) (he : e ∈ L) (hh : sc (13 + w) = e.1 + 1) (hc : L.countP (wt sc) < 12) : ∃ τ, fX7_putBack n (nI w) σ = some (nI e.1, τ) ∧ NRW τ n (upN sc (13 + w) 0) L (W ++ [e]) ∧ τ n 6 = σ n 6 ∧ ∀ c, c < n ∨ n + 5 < c → τ c = σ c := by
  have hlen : W.length < 12 := by rw [hn.len]; exact hc
  have hful := cl_isFull hn (by omega)
  rw [if_pos hlen] at hful
  have h5 := hn.2.1
  have hF := IN_free hI he hw hh hc
  have hsl := (hn.2.2.2 w hw).2 e he hh
  have e6 : vp_nar .boolean (nI 0) = nI 0 := rfl
  have e7 := cl_move (σ := σ) (n := n) (p := 12 + w) (q := W.length) (by omega) (by omega)
  have e8 : mvS σ n (12 + w) W.length n 5 = nI W.length := by rw [mvS_o (by omega), h5]
  have e9 : mvS σ n (12 + w) W.length (n + 1) (12 + w) = nI e.1 := by rw [mvS_o (by omega)]; exact hsl.1
  refine ⟨u2 (u2 (mvS σ n (12 + w) W.length) (n + 5) w (nI 0)) n 5 (nI (W.length + 1)), ?_, ⟨?_, ?_, fun q hq => ?_, fun v hv => ?_⟩, ?_, fun c hc => ?_⟩
  · unfold fX7_putBack
    simp (disch := omega) only [pu_OB, pu_LET, pu_OX0, pu_BND, pu_NZ, pu_BL, pu_m1, nI_add, pk_sub, pk_mul, pk_div, nI_clamp, pu_eq, pu_ne, pu_le_t, pu_le_f, pu_lt_t, pu_lt_f, pu_nm, pu_mm, pu_u2e, pu_u2n, ↓reduceIte, li0, li1, li2, li3, li4, li5, li6, li7, li8, li9, li10, li11, li12, li13, li14, li15, li16, li17, li18, li19, li20, li21, li22, li23, li24, li25, li26, li27, li28, li29, li30, li31, li32, li33, li34, li35, li36, li37, li38, li39, li40, li41, li42, li43, li44, li45, li46, li47, li48, li49, li50, li51, li52, li53, li54, li55, li56, li57, li58, li59, li60, li64, li72, li87, li97, li98, li99, li100, li101, li102, li103, li104, li105, li108, li109, li110, li111, li112, li114, li115, li116, li117, li119, li120, li124, li126, li132, li139, li140, li148, li156, li1000, li1092, li1248, hful, cl_slotOn, h5, e7, e6, e8, e9]
  · exact ((hn.1.append_right [e]).trans (List.perm_append_singleton _ _)).trans hF.2.symm
  · rw [pu_u2e ⟨rfl, rfl⟩, List.length_append]
    rfl
  · rw [List.length_append] at hq
    have hq : q < W.length + 1 := hq
    rw [ap_getD (by omega)]
    refine slotE_congr (σ := mvS σ n (12 + w) W.length) ?_ fun c h1 h2 => by rw [pu_u2n (by omega), pu_u2n (by omega)]
    by_cases c : q = W.length
    · rw [if_pos c, c]
      exact mvS_to hsl
    · rw [if_neg c]
      exact mvS_keep (hn.2.2.1 q (by omega)) c
  · by_cases c : v = w
    · subst c
      rw [upN_e rfl]
      refine ⟨by rw [pu_u2n (by omega), pu_u2e ⟨rfl, rfl⟩]; rfl, fun f hf h1 => ?_⟩
      omega
    · have h := hn.2.2.2 v hv
      rw [upN_n (by omega)]
      refine ⟨by rw [pu_u2n (by omega), pu_u2n (by omega), mvS_o (by omega)]; exact h.1, fun f hf h1 => ?_⟩
      refine slotE_congr (σ := mvS σ n (12 + w) W.length) (mvS_keep (h.2 f hf h1) (by omega)) fun c h1 h2 => by rw [pu_u2n (by omega), pu_u2n (by omega)]
  · rw [pu_u2n (by omega), pu_u2n (by omega), mvS_o (by omega)]
  · rw [pu_u2r (by omega), pu_u2r (by omega), mvS_row (by omega)]
/-- a waiting noise is dropped -/
theorem cl_drop {q p : Nat} (hn : NRW σ n sc L W) (hI : IN sc L) (hq : q < W.length) (hp : p < L.length) (he : W.getD q z4 = L.getD p z4) : ∃ τ, fX7_removeWaiting n (nI q) σ = some (nI 0, τ) ∧ NRW τ n sc (L.eraseIdx p) (rmW W q) ∧ τ n 6 = σ n 6 ∧ ∀ c, c < n ∨ n + 5 ≤ c → τ c = σ c := by
  have hlen : W.length ≤ 12 := by rw [hn.len]; exact hI.2.2.1
  have hD := IN_del hI (er_perm hp) (by rw [← he]; exact (hn.at hq).2)
  rw [← he] at hD
  refine ⟨_, cl_removeWaiting hn.2.1 hlen hq, NRW_rm hI hn hq hD.2 (fun c h1 h2 j hj => rfl) fun w hw => ⟨(hn.2.2.2 w hw).1, fun e he9 h1 => (hn.2.2.2 w hw).2 e (List.mem_of_mem_eraseIdx he9) h1⟩, ?_, fun c hc => ?_⟩
  · rw [pu_u2n (by omega), mvS_o (by omega)]
  · rw [pu_u2r (by omega), mvS_row (by omega)]
end CL
-- the reference's
def spRem (A : AM) (p : Nat) : AM := (A.1, A.2.eraseIdx p)
section RF
variable {s : St} {m : Nat} {A : AM}
def spShip (A : AM) (g n : Nat) : AM := (upN (upN A.1 (28 + g) (A.1 (28 + g) - 20 * n)) (24 + g) (A.1 (24 + g) + n), A.2)
end RF

