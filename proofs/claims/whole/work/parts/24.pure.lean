-- ===== the reference's reads that look noises up =====
theorem rf_place_S (m k : Nat) (x i : Int32) (s : St) : fX12_placeOf_L2 m (k + 1) x i s = fX12_placeOf_L2b m (fX12_placeOf_L2 m k) x i s := rfl
section RF
variable {s : St} {sc : Nat → Nat} {L : List E4} {m : Nat}
theorem rf_place_none {x : Int32} (hF : 2000 ≤ m) (hN : NM s 1 L) (hl : L.length ≤ 15) (hx : ∀ j, j < L.length → nI (L.getD j z4).1 ≠ x) : fX12_placeOf m x s = some (mI, s) := by
  have hN1 := hN.1
  have key : ∀ d n i, i + d = L.length → d < n → fX12_placeOf_L2 m n x (nI i) s = some (mI, s) := by
    intro d
    induction d with
    | zero =>
      intro n i h1 h2
      obtain ⟨k, rfl⟩ : ∃ k, n = k + 1 := ⟨n - 1, by omega⟩
      simp (disch := omega) only [pu_OB, pu_LET, pu_OX0, pu_BND, pu_NZ, pu_BL, pu_m1, nI_add, pk_sub, pk_mul, pk_div, nI_clamp, pu_eq, pu_ne, pu_le_t, pu_le_f, pu_lt_t, pu_lt_f, pu_nm, pu_mm, pu_u2e, pu_u2n, ↓reduceIte, li0, li1, li2, li3, li4, li5, li6, li7, li8, li9, li10, li11, li12, li13, li14, li15, li16, li17, li18, li19, li20, li21, li22, li23, li24, li25, li26, li27, li28, li29, li30, li31, li32, li33, li34, li35, li36, li37, li38, li39, li40, li41, li42, li43, li44, li45, li46, li47, li48, li49, li50, li51, li52, li53, li54, li55, li56, li57, li58, li59, li60, li64, li72, li87, li97, li98, li99, li100, li101, li102, li103, li104, li105, li108, li109, li110, li111, li112, li114, li115, li116, li117, li119, li120, li124, li126, li132, li139, li140, li148, li156, li1000, li1092, li1248, rf_place_S, fX12_placeOf_L2b, hN1]
    | succ d ih =>
      intro n i h1 h2
      obtain ⟨k, rfl⟩ : ∃ k, n = k + 1 := ⟨n - 1, by omega⟩
      have e1 := (hN.2 i (by omega)).1
      have e2 := hx i (by omega)
      simp (disch := omega) only [pu_OB, pu_LET, pu_OX0, pu_BND, pu_NZ, pu_BL, pu_m1, nI_add, pk_sub, pk_mul, pk_div, nI_clamp, pu_eq, pu_ne, pu_le_t, pu_le_f, pu_lt_t, pu_lt_f, pu_nm, pu_mm, pu_u2e, pu_u2n, ↓reduceIte, li0, li1, li2, li3, li4, li5, li6, li7, li8, li9, li10, li11, li12, li13, li14, li15, li16, li17, li18, li19, li20, li21, li22, li23, li24, li25, li26, li27, li28, li29, li30, li31, li32, li33, li34, li35, li36, li37, li38, li39, li40, li41, li42, li43, li44, li45, li46, li47, li48, li49, li50, li51, li52, li53, li54, li55, li56, li57, li58, li59, li60, li64, li72, li87, li97, li98, li99, li100, li101, li102, li103, li104, li105, li108, li109, li110, li111, li112, li114, li115, li116, li117, li119, li120, li124, li126, li132, li139, li140, li148, li156, li1000, li1092, li1248, rf_place_S, fX12_placeOf_L2b, hN1, e1, if_neg e2, ih k (i + 1)]
  exact key L.length m 0 (by omega) (by omega)
theorem rf_place_at {p : Nat} (hF : 2000 ≤ m) (hN : NM s 1 L) (hI : IN sc L) (hB : sc 1 < 2 ^ 30) (hp : p < L.length) : fX12_placeOf m (nI (L.getD p z4).1) s = some (nI p, s) := by
  have hN1 := hN.1
  have hl := hI.len
  have key : ∀ d n i, i + d = p → d < n → fX12_placeOf_L2 m n (nI (L.getD p z4).1) (nI i) s = some (nI p, s) := by
    intro d
    induction d with
    | zero =>
      intro n i h1 h2
      obtain ⟨k, rfl⟩ : ∃ k, n = k + 1 := ⟨n - 1, by omega⟩
      obtain rfl : i = p := by omega
      have e1 := (hN.2 i (by omega)).1
      simp (disch := omega) only [pu_OB, pu_LET, pu_OX0, pu_BND, pu_NZ, pu_BL, pu_m1, nI_add, pk_sub, pk_mul, pk_div, nI_clamp, pu_eq, pu_ne, pu_le_t, pu_le_f, pu_lt_t, pu_lt_f, pu_nm, pu_mm, pu_u2e, pu_u2n, ↓reduceIte, li0, li1, li2, li3, li4, li5, li6, li7, li8, li9, li10, li11, li12, li13, li14, li15, li16, li17, li18, li19, li20, li21, li22, li23, li24, li25, li26, li27, li28, li29, li30, li31, li32, li33, li34, li35, li36, li37, li38, li39, li40, li41, li42, li43, li44, li45, li46, li47, li48, li49, li50, li51, li52, li53, li54, li55, li56, li57, li58, li59, li60, li64, li72, li87, li97, li98, li99, li100, li101, li102, li103, li104, li105, li108, li109, li110, li111, li112, li114, li115, li116, li117, li119, li120, li124, li126, li132, li139, li140, li148, li156, li1000, li1092, li1248, rf_place_S, fX12_placeOf_L2b, hN1, e1]
    | succ d ih =>
      intro n i h1 h2
      obtain ⟨k, rfl⟩ : ∃ k, n = k + 1 := ⟨n - 1, by omega⟩
      have e1 := (hN.2 i (by omega)).1
      have e2 : (L.getD i z4).1 ≠ (L.getD p z4).1 := fun q => by
        have := nd_ix hI.1 (show i < L.length by omega) hp q
        omega
      have e3 := (hI.at (show i < L.length by omega)).1
      have e4 := (hI.at hp).1
      simp (disch := omega) only [pu_OB, pu_LET, pu_OX0, pu_BND, pu_NZ, pu_BL, pu_m1, nI_add, pk_sub, pk_mul, pk_div, nI_clamp, pu_eq, pu_ne, pu_le_t, pu_le_f, pu_lt_t, pu_lt_f, pu_nm, pu_mm, pu_u2e, pu_u2n, ↓reduceIte, li0, li1, li2, li3, li4, li5, li6, li7, li8, li9, li10, li11, li12, li13, li14, li15, li16, li17, li18, li19, li20, li21, li22, li23, li24, li25, li26, li27, li28, li29, li30, li31, li32, li33, li34, li35, li36, li37, li38, li39, li40, li41, li42, li43, li44, li45, li46, li47, li48, li49, li50, li51, li52, li53, li54, li55, li56, li57, li58, li59, li60, li64, li72, li87, li97, li98, li99, li100, li101, li102, li103, li104, li105, li108, li109, li110, li111, li112, li114, li115, li116, li117, li119, li120, li124, li126, li132, li139, li140, li148, li156, li1000, li1092, li1248, rf_place_S, fX12_placeOf_L2b, hN1, e1, ih k (i + 1)]
  exact key p m 0 (by omega) (by omega)
/-- a noise with this number, or none -/
theorem rf_place_or {x : Int32} : (∃ p, p < L.length ∧ x = nI (L.getD p z4).1) ∨ ∀ j, j < L.length → nI (L.getD j z4).1 ≠ x := by
  by_cases h : ∃ p, p < L.length ∧ x = nI (L.getD p z4).1
  · exact Or.inl h
  · exact Or.inr fun j hj q => h ⟨j, hj, q.symm⟩
theorem rf_isBefore_t {p q : Nat} (hN : NM s 1 L) (hI : IN sc L) (hB : sc 1 < 2 ^ 30) (hp : p < L.length) (hq : q < L.length) (h : bef (L.getD p z4) (L.getD q z4) = true) : fX12_isBefore (nI p) (nI q) s = some (nI 1, s) := by
  have hl := hI.len
  have ep := hN.2 p hp
  have eq := hN.2 q hq
  have bp := hI.at hp
  have bq := hI.at hq
  have h1 := bef_t.mp h
  unfold fX12_isBefore
  by_cases c : (L.getD q z4).2.2.1 = (L.getD p z4).2.2.1
  · simp (disch := omega) only [pu_OB, pu_LET, pu_OX0, pu_BND, pu_NZ, pu_BL, pu_m1, nI_add, pk_sub, pk_mul, pk_div, nI_clamp, pu_eq, pu_ne, pu_le_t, pu_le_f, pu_lt_t, pu_lt_f, pu_nm, pu_mm, pu_u2e, pu_u2n, ↓reduceIte, li0, li1, li2, li3, li4, li5, li6, li7, li8, li9, li10, li11, li12, li13, li14, li15, li16, li17, li18, li19, li20, li21, li22, li23, li24, li25, li26, li27, li28, li29, li30, li31, li32, li33, li34, li35, li36, li37, li38, li39, li40, li41, li42, li43, li44, li45, li46, li47, li48, li49, li50, li51, li52, li53, li54, li55, li56, li57, li58, li59, li60, li64, li72, li87, li97, li98, li99, li100, li101, li102, li103, li104, li105, li108, li109, li110, li111, li112, li114, li115, li116, li117, li119, li120, li124, li126, li132, li139, li140, li148, li156, li1000, li1092, li1248, ep.1, ep.2.2.1, eq.1, eq.2.2.1, fX12_isBefore_B49]
  · simp (disch := omega) only [pu_OB, pu_LET, pu_OX0, pu_BND, pu_NZ, pu_BL, pu_m1, nI_add, pk_sub, pk_mul, pk_div, nI_clamp, pu_eq, pu_ne, pu_le_t, pu_le_f, pu_lt_t, pu_lt_f, pu_nm, pu_mm, pu_u2e, pu_u2n, ↓reduceIte, li0, li1, li2, li3, li4, li5, li6, li7, li8, li9, li10, li11, li12, li13, li14, li15, li16, li17, li18, li19, li20, li21, li22, li23, li24, li25, li26, li27, li28, li29, li30, li31, li32, li33, li34, li35, li36, li37, li38, li39, li40, li41, li42, li43, li44, li45, li46, li47, li48, li49, li50, li51, li52, li53, li54, li55, li56, li57, li58, li59, li60, li64, li72, li87, li97, li98, li99, li100, li101, li102, li103, li104, li105, li108, li109, li110, li111, li112, li114, li115, li116, li117, li119, li120, li124, li126, li132, li139, li140, li148, li156, li1000, li1092, li1248, ep.1, ep.2.2.1, eq.1, eq.2.2.1, fX12_isBefore_B49]
theorem rf_isBefore_f {p q : Nat} (hN : NM s 1 L) (hI : IN sc L) (hB : sc 1 < 2 ^ 30) (hp : p < L.length) (hq : q < L.length) (h : bef (L.getD p z4) (L.getD q z4) = false) : fX12_isBefore (nI p) (nI q) s = some (nI 0, s) := by
  have hl := hI.len
  have ep := hN.2 p hp
  have eq := hN.2 q hq
  have bp := hI.at hp
  have bq := hI.at hq
  have h1 : ¬ _ := fun x => absurd (bef_t.mpr x) (by rw [h]; exact Bool.false_ne_true)
  unfold fX12_isBefore
  by_cases c : (L.getD q z4).2.2.1 = (L.getD p z4).2.2.1
  · simp (disch := omega) only [pu_OB, pu_LET, pu_OX0, pu_BND, pu_NZ, pu_BL, pu_m1, nI_add, pk_sub, pk_mul, pk_div, nI_clamp, pu_eq, pu_ne, pu_le_t, pu_le_f, pu_lt_t, pu_lt_f, pu_nm, pu_mm, pu_u2e, pu_u2n, ↓reduceIte, li0, li1, li2, li3, li4, li5, li6, li7, li8, li9, li10, li11, li12, li13, li14, li15, li16, li17, li18, li19, li20, li21, li22, li23, li24, li25, li26, li27, li28, li29, li30, li31, li32, li33, li34, li35, li36, li37, li38, li39, li40, li41, li42, li43, li44, li45, li46, li47, li48, li49, li50, li51, li52, li53, li54, li55, li56, li57, li58, li59, li60, li64, li72, li87, li97, li98, li99, li100, li101, li102, li103, li104, li105, li108, li109, li110, li111, li112, li114, li115, li116, li117, li119, li120, li124, li126, li132, li139, li140, li148, li156, li1000, li1092, li1248, ep.1, ep.2.2.1, eq.1, eq.2.2.1, fX12_isBefore_B49]
  · simp (disch := omega) only [pu_OB, pu_LET, pu_OX0, pu_BND, pu_NZ, pu_BL, pu_m1, nI_add, pk_sub, pk_mul, pk_div, nI_clamp, pu_eq, pu_ne, pu_le_t, pu_le_f, pu_lt_t, pu_lt_f, pu_nm, pu_mm, pu_u2e, pu_u2n, ↓reduceIte, li0, li1, li2, li3, li4, li5, li6, li7, li8, li9, li10, li11, li12, li13, li14, li15, li16, li17, li18, li19, li20, li21, li22, li23, li24, li25, li26, li27, li28, li29, li30, li31, li32, li33, li34, li35, li36, li37, li38, li39, li40, li41, li42, li43, li44, li45, li46, li47, li48, li49, li50, li51, li52, li53, li54, li55, li56, li57, li58, li59, li60, li64, li72, li87, li97, li98, li99, li100, li101, li102, li103, li104, li105, li108, li109, li110, li111, li112, li114, li115, li116, li117, li119, li120, li124, li126, li132, li139, li140, li148, li156, li1000, li1092, li1248, ep.1, ep.2.2.1, eq.1, eq.2.2.1, fX12_isBefore_B49, pu_sn1, pu_sn2]
theorem rf_rank_S (k : Nat) (x c i : Int32) : fX12_rank_L4 m (k + 1) x c i s = fX12_rank_L4b m (fX12_rank_L4 m k) x c i s := rfl
/-- how many waiting noises come before e -/
def rk (sc : Nat → Nat) (L : List E4) (e : E4) : Nat := L.countP (fun o => wt sc o && bef o e)
theorem rf_rank {p : Nat} (hF : 2000 ≤ m) (hS : SM s 1 sc) (hN : NM s 1 L) (hI : IN sc L) (hB : sc 1 < 2 ^ 30) (hp : p < L.length) : fX12_rank m (nI p) s = some (nI (rk sc L (L.getD p z4)), s) := by
  have hl := hI.len
  have hN1 := hN.1
  have key : ∀ d n i c, i + d = L.length → d < n → fX12_rank_L4 m n (nI p) (nI c) (nI i) s = some (nI (c + sumF (fun j => if (wt sc (L.getD j z4) && bef (L.getD j z4) (L.getD p z4)) = true then 1 else 0) i d), s) := by
    intro d
    induction d with
    | zero =>
      intro n i c h1 h2
      obtain ⟨k, rfl⟩ : ∃ k, n = k + 1 := ⟨n - 1, by omega⟩
      simp (disch := omega) only [pu_OB, pu_LET, pu_OX0, pu_BND, pu_NZ, pu_BL, pu_m1, nI_add, pk_sub, pk_mul, pk_div, nI_clamp, pu_eq, pu_ne, pu_le_t, pu_le_f, pu_lt_t, pu_lt_f, pu_nm, pu_mm, pu_u2e, pu_u2n, ↓reduceIte, li0, li1, li2, li3, li4, li5, li6, li7, li8, li9, li10, li11, li12, li13, li14, li15, li16, li17, li18, li19, li20, li21, li22, li23, li24, li25, li26, li27, li28, li29, li30, li31, li32, li33, li34, li35, li36, li37, li38, li39, li40, li41, li42, li43, li44, li45, li46, li47, li48, li49, li50, li51, li52, li53, li54, li55, li56, li57, li58, li59, li60, li64, li72, li87, li97, li98, li99, li100, li101, li102, li103, li104, li105, li108, li109, li110, li111, li112, li114, li115, li116, li117, li119, li120, li124, li126, li132, li139, li140, li148, li156, li1000, li1092, li1248, rf_rank_S, fX12_rank_L4b, hN1, sumF_0, Nat.add_zero]
    | succ d ih =>
      intro n i c h1 h2
      obtain ⟨k, rfl⟩ : ∃ k, n = k + 1 := ⟨n - 1, by omega⟩
      have hi : i < L.length := by omega
      rw [sumF_S]
      by_cases hw : wt sc (L.getD i z4) = true
      · by_cases hb9 : bef (L.getD i z4) (L.getD p z4) = true
        · rw [hw, hb9]
          simp (disch := omega) only [pu_OB, pu_LET, pu_OX0, pu_BND, pu_NZ, pu_BL, pu_m1, nI_add, pk_sub, pk_mul, pk_div, nI_clamp, pu_eq, pu_ne, pu_le_t, pu_le_f, pu_lt_t, pu_lt_f, pu_nm, pu_mm, pu_u2e, pu_u2n, ↓reduceIte, li0, li1, li2, li3, li4, li5, li6, li7, li8, li9, li10, li11, li12, li13, li14, li15, li16, li17, li18, li19, li20, li21, li22, li23, li24, li25, li26, li27, li28, li29, li30, li31, li32, li33, li34, li35, li36, li37, li38, li39, li40, li41, li42, li43, li44, li45, li46, li47, li48, li49, li50, li51, li52, li53, li54, li55, li56, li57, li58, li59, li60, li64, li72, li87, li97, li98, li99, li100, li101, li102, li103, li104, li105, li108, li109, li110, li111, li112, li114, li115, li116, li117, li119, li120, li124, li126, li132, li139, li140, li148, li156, li1000, li1092, li1248, rf_rank_S, fX12_rank_L4b, fX12_rank_B37, fX12_rank_B36, hN1, rf_waits_t hF hS hN hI hB hi hw, rf_isBefore_t hN hI hB hi hp hb9, ih k (i + 1), Bool.and_self, Nat.add_assoc]
        · replace hb9 := Bool.eq_false_iff.mpr hb9
          rw [hw, hb9]
          simp (disch := omega) only [pu_OB, pu_LET, pu_OX0, pu_BND, pu_NZ, pu_BL, pu_m1, nI_add, pk_sub, pk_mul, pk_div, nI_clamp, pu_eq, pu_ne, pu_le_t, pu_le_f, pu_lt_t, pu_lt_f, pu_nm, pu_mm, pu_u2e, pu_u2n, ↓reduceIte, li0, li1, li2, li3, li4, li5, li6, li7, li8, li9, li10, li11, li12, li13, li14, li15, li16, li17, li18, li19, li20, li21, li22, li23, li24, li25, li26, li27, li28, li29, li30, li31, li32, li33, li34, li35, li36, li37, li38, li39, li40, li41, li42, li43, li44, li45, li46, li47, li48, li49, li50, li51, li52, li53, li54, li55, li56, li57, li58, li59, li60, li64, li72, li87, li97, li98, li99, li100, li101, li102, li103, li104, li105, li108, li109, li110, li111, li112, li114, li115, li116, li117, li119, li120, li124, li126, li132, li139, li140, li148, li156, li1000, li1092, li1248, rf_rank_S, fX12_rank_L4b, fX12_rank_B37, fX12_rank_B36, hN1, rf_waits_t hF hS hN hI hB hi hw, rf_isBefore_f hN hI hB hi hp hb9, ih k (i + 1), Bool.and_false, Bool.false_eq_true, Nat.zero_add, Nat.add_zero]
      · replace hw := Bool.eq_false_iff.mpr hw
        rw [hw]
        simp (disch := omega) only [pu_OB, pu_LET, pu_OX0, pu_BND, pu_NZ, pu_BL, pu_m1, nI_add, pk_sub, pk_mul, pk_div, nI_clamp, pu_eq, pu_ne, pu_le_t, pu_le_f, pu_lt_t, pu_lt_f, pu_nm, pu_mm, pu_u2e, pu_u2n, ↓reduceIte, li0, li1, li2, li3, li4, li5, li6, li7, li8, li9, li10, li11, li12, li13, li14, li15, li16, li17, li18, li19, li20, li21, li22, li23, li24, li25, li26, li27, li28, li29, li30, li31, li32, li33, li34, li35, li36, li37, li38, li39, li40, li41, li42, li43, li44, li45, li46, li47, li48, li49, li50, li51, li52, li53, li54, li55, li56, li57, li58, li59, li60, li64, li72, li87, li97, li98, li99, li100, li101, li102, li103, li104, li105, li108, li109, li110, li111, li112, li114, li115, li116, li117, li119, li120, li124, li126, li132, li139, li140, li148, li156, li1000, li1092, li1248, rf_rank_S, fX12_rank_L4b, fX12_rank_B37, fX12_rank_B36, hN1, rf_waits_f hF hS hN hI hB hi hw, ih k (i + 1), Bool.false_and, Bool.false_eq_true, Nat.zero_add, Nat.add_zero]
  have h := key L.length m 0 0 (by omega) (by omega)
  rw [sumF_countP (fun o => wt sc o && bef o (L.getD p z4)), Nat.zero_add] at h
  exact h
theorem rf_ranked_S (k : Nat) (x i : Int32) : fX12_ranked_L2 m (k + 1) x i s = fX12_ranked_L2b m (fX12_ranked_L2 m k) x i s := rfl
theorem rf_ranked_none {x : Int32} (hF : 2000 ≤ m) (hS : SM s 1 sc) (hN : NM s 1 L) (hI : IN sc L) (hB : sc 1 < 2 ^ 30) (hx : ∀ j, j < L.length → wt sc (L.getD j z4) = true → nI (rk sc L (L.getD j z4)) ≠ x) : fX12_ranked m x s = some (mI, s) := by
  have hN1 := hN.1
  have hl := hI.len
  have key : ∀ d n i, i + d = L.length → d < n → fX12_ranked_L2 m n x (nI i) s = some (mI, s) := by
    intro d
    induction d with
    | zero =>
      intro n i h1 h2
      obtain ⟨k, rfl⟩ : ∃ k, n = k + 1 := ⟨n - 1, by omega⟩
      simp (disch := omega) only [pu_OB, pu_LET, pu_OX0, pu_BND, pu_NZ, pu_BL, pu_m1, nI_add, pk_sub, pk_mul, pk_div, nI_clamp, pu_eq, pu_ne, pu_le_t, pu_le_f, pu_lt_t, pu_lt_f, pu_nm, pu_mm, pu_u2e, pu_u2n, ↓reduceIte, li0, li1, li2, li3, li4, li5, li6, li7, li8, li9, li10, li11, li12, li13, li14, li15, li16, li17, li18, li19, li20, li21, li22, li23, li24, li25, li26, li27, li28, li29, li30, li31, li32, li33, li34, li35, li36, li37, li38, li39, li40, li41, li42, li43, li44, li45, li46, li47, li48, li49, li50, li51, li52, li53, li54, li55, li56, li57, li58, li59, li60, li64, li72, li87, li97, li98, li99, li100, li101, li102, li103, li104, li105, li108, li109, li110, li111, li112, li114, li115, li116, li117, li119, li120, li124, li126, li132, li139, li140, li148, li156, li1000, li1092, li1248, rf_ranked_S, fX12_ranked_L2b, hN1]
    | succ d ih =>
      intro n i h1 h2
      obtain ⟨k, rfl⟩ : ∃ k, n = k + 1 := ⟨n - 1, by omega⟩
      have hi : i < L.length := by omega
      by_cases hw : wt sc (L.getD i z4) = true
      · simp (disch := omega) only [pu_OB, pu_LET, pu_OX0, pu_BND, pu_NZ, pu_BL, pu_m1, nI_add, pk_sub, pk_mul, pk_div, nI_clamp, pu_eq, pu_ne, pu_le_t, pu_le_f, pu_lt_t, pu_lt_f, pu_nm, pu_mm, pu_u2e, pu_u2n, ↓reduceIte, li0, li1, li2, li3, li4, li5, li6, li7, li8, li9, li10, li11, li12, li13, li14, li15, li16, li17, li18, li19, li20, li21, li22, li23, li24, li25, li26, li27, li28, li29, li30, li31, li32, li33, li34, li35, li36, li37, li38, li39, li40, li41, li42, li43, li44, li45, li46, li47, li48, li49, li50, li51, li52, li53, li54, li55, li56, li57, li58, li59, li60, li64, li72, li87, li97, li98, li99, li100, li101, li102, li103, li104, li105, li108, li109, li110, li111, li112, li114, li115, li116, li117, li119, li120, li124, li126, li132, li139, li140, li148, li156, li1000, li1092, li1248, rf_ranked_S, fX12_ranked_L2b, fX12_ranked_B31, hN1, rf_waits_t hF hS hN hI hB hi hw, rf_rank hF hS hN hI hB hi, if_neg (hx i hi hw), ih k (i + 1)]
      · simp (disch := omega) only [pu_OB, pu_LET, pu_OX0, pu_BND, pu_NZ, pu_BL, pu_m1, nI_add, pk_sub, pk_mul, pk_div, nI_clamp, pu_eq, pu_ne, pu_le_t, pu_le_f, pu_lt_t, pu_lt_f, pu_nm, pu_mm, pu_u2e, pu_u2n, ↓reduceIte, li0, li1, li2, li3, li4, li5, li6, li7, li8, li9, li10, li11, li12, li13, li14, li15, li16, li17, li18, li19, li20, li21, li22, li23, li24, li25, li26, li27, li28, li29, li30, li31, li32, li33, li34, li35, li36, li37, li38, li39, li40, li41, li42, li43, li44, li45, li46, li47, li48, li49, li50, li51, li52, li53, li54, li55, li56, li57, li58, li59, li60, li64, li72, li87, li97, li98, li99, li100, li101, li102, li103, li104, li105, li108, li109, li110, li111, li112, li114, li115, li116, li117, li119, li120, li124, li126, li132, li139, li140, li148, li156, li1000, li1092, li1248, rf_ranked_S, fX12_ranked_L2b, fX12_ranked_B31, hN1, rf_waits_f hF hS hN hI hB hi (Bool.eq_false_iff.mpr hw), ih k (i + 1)]
  exact key L.length m 0 (by omega) (by omega)
/-- ranks of waiting noises differ -/
theorem rk_lt {e f : E4} (he : e ∈ L) (hw : wt sc e = true) (h : bef e f = true) : rk sc L e < rk sc L f := by
  obtain ⟨i, hi, rfl⟩ := mem_getD he
  have hp := er_perm hi
  unfold rk
  rw [hp.countP_eq, hp.countP_eq, List.countP_cons, List.countP_cons, if_neg (by simp [bef]), if_pos (by rw [hw, h]; rfl)]
  have : (L.eraseIdx i).countP (fun o => wt sc o && bef o (L.getD i z4)) ≤ (L.eraseIdx i).countP (fun o => wt sc o && bef o f) := List.countP_mono_left fun o _ ho => by
    rw [Bool.and_eq_true] at ho ⊢
    refine ⟨ho.1, ?_⟩
    have h1 := bef_t.mp ho.2
    have h2 := bef_t.mp h
    rw [bef_t]
    omega
  omega
theorem bef_tri {e f : E4} (h : e.1 ≠ f.1) : bef e f = true ∨ bef f e = true := by
  rw [bef_t, bef_t]
  omega
theorem rk_inj (hn : (L.map (·.1)).Nodup) {e f : E4} (he : e ∈ L) (hf : f ∈ L) (hwe : wt sc e = true) (hwf : wt sc f = true) (h : rk sc L e = rk sc L f) : e = f := by
  by_cases c : e.1 = f.1
  · exact nd_inj hn he hf c
  · rcases bef_tri c with q | q
    · have := rk_lt he hwe q
      omega
    · have := rk_lt hf hwf q
      omega
theorem rk_le {e : E4} : rk sc L e ≤ L.length := List.countP_le_length
theorem rf_ranked_at {p : Nat} (hF : 2000 ≤ m) (hS : SM s 1 sc) (hN : NM s 1 L) (hI : IN sc L) (hB : sc 1 < 2 ^ 30) (hp : p < L.length) (hwp : wt sc (L.getD p z4) = true) : fX12_ranked m (nI (rk sc L (L.getD p z4))) s = some (nI p, s) := by
  have hN1 := hN.1
  have hl := hI.len
  have hr : ∀ e, rk sc L e ≤ 15 := fun e => Nat.le_trans rk_le hl
  have hrp := hr (L.getD p z4)
  have key : ∀ d n i, i + d = p → d < n → fX12_ranked_L2 m n (nI (rk sc L (L.getD p z4))) (nI i) s = some (nI p, s) := by
    intro d
    induction d with
    | zero =>
      intro n i h1 h2
      obtain ⟨k, rfl⟩ : ∃ k, n = k + 1 := ⟨n - 1, by omega⟩
      obtain rfl : i = p := by omega
      simp (disch := omega) only [pu_OB, pu_LET, pu_OX0, pu_BND, pu_NZ, pu_BL, pu_m1, nI_add, pk_sub, pk_mul, pk_div, nI_clamp, pu_eq, pu_ne, pu_le_t, pu_le_f, pu_lt_t, pu_lt_f, pu_nm, pu_mm, pu_u2e, pu_u2n, ↓reduceIte, li0, li1, li2, li3, li4, li5, li6, li7, li8, li9, li10, li11, li12, li13, li14, li15, li16, li17, li18, li19, li20, li21, li22, li23, li24, li25, li26, li27, li28, li29, li30, li31, li32, li33, li34, li35, li36, li37, li38, li39, li40, li41, li42, li43, li44, li45, li46, li47, li48, li49, li50, li51, li52, li53, li54, li55, li56, li57, li58, li59, li60, li64, li72, li87, li97, li98, li99, li100, li101, li102, li103, li104, li105, li108, li109, li110, li111, li112, li114, li115, li116, li117, li119, li120, li124, li126, li132, li139, li140, li148, li156, li1000, li1092, li1248, rf_ranked_S, fX12_ranked_L2b, hN1, rf_waits_t hF hS hN hI hB hp hwp, rf_rank hF hS hN hI hB hp]
    | succ d ih =>
      intro n i h1 h2
      obtain ⟨k, rfl⟩ : ∃ k, n = k + 1 := ⟨n - 1, by omega⟩
      have hi : i < L.length := by omega
      have hri := hr (L.getD i z4)
      by_cases hw : wt sc (L.getD i z4) = true
      · have e2 : rk sc L (L.getD i z4) ≠ rk sc L (L.getD p z4) := fun q => by
          have h3 := rk_inj hI.1 (getD_mem hi) (getD_mem hp) hw hwp q
          have := nd_ix hI.1 hi hp (congrArg (·.1) h3)
          omega
        simp (disch := omega) only [pu_OB, pu_LET, pu_OX0, pu_BND, pu_NZ, pu_BL, pu_m1, nI_add, pk_sub, pk_mul, pk_div, nI_clamp, pu_eq, pu_ne, pu_le_t, pu_le_f, pu_lt_t, pu_lt_f, pu_nm, pu_mm, pu_u2e, pu_u2n, ↓reduceIte, li0, li1, li2, li3, li4, li5, li6, li7, li8, li9, li10, li11, li12, li13, li14, li15, li16, li17, li18, li19, li20, li21, li22, li23, li24, li25, li26, li27, li28, li29, li30, li31, li32, li33, li34, li35, li36, li37, li38, li39, li40, li41, li42, li43, li44, li45, li46, li47, li48, li49, li50, li51, li52, li53, li54, li55, li56, li57, li58, li59, li60, li64, li72, li87, li97, li98, li99, li100, li101, li102, li103, li104, li105, li108, li109, li110, li111, li112, li114, li115, li116, li117, li119, li120, li124, li126, li132, li139, li140, li148, li156, li1000, li1092, li1248, rf_ranked_S, fX12_ranked_L2b, fX12_ranked_B31, hN1, rf_waits_t hF hS hN hI hB hi hw, rf_rank hF hS hN hI hB hi, ih k (i + 1)]
      · simp (disch := omega) only [pu_OB, pu_LET, pu_OX0, pu_BND, pu_NZ, pu_BL, pu_m1, nI_add, pk_sub, pk_mul, pk_div, nI_clamp, pu_eq, pu_ne, pu_le_t, pu_le_f, pu_lt_t, pu_lt_f, pu_nm, pu_mm, pu_u2e, pu_u2n, ↓reduceIte, li0, li1, li2, li3, li4, li5, li6, li7, li8, li9, li10, li11, li12, li13, li14, li15, li16, li17, li18, li19, li20, li21, li22, li23, li24, li25, li26, li27, li28, li29, li30, li31, li32, li33, li34, li35, li36, li37, li38, li39, li40, li41, li42, li43, li44, li45, li46, li47, li48, li49, li50, li51, li52, li53, li54, li55, li56, li57, li58, li59, li60, li64, li72, li87, li97, li98, li99, li100, li101, li102, li103, li104, li105, li108, li109, li110, li111, li112, li114, li115, li116, li117, li119, li120, li124, li126, li132, li139, li140, li148, li156, li1000, li1092, li1248, rf_ranked_S, fX12_ranked_L2b, fX12_ranked_B31, hN1, rf_waits_f hF hS hN hI hB hi (Bool.eq_false_iff.mpr hw), ih k (i + 1)]
  exact key p m 0 (by omega) (by omega)
end RF
