-- ===== the reference's reads, evaluated =====
theorem IN.len {sc : Nat → Nat} {L : List E4} (h : IN sc L) : L.length ≤ 15 := by
  obtain ⟨-, -, h1, -, -, h2⟩ := h
  have h3 : sumF (nzf sc) 0 3 ≤ 1 * 3 := sumF_le fun j _ _ => by
    show (if sc (13 + j) = 0 then 0 else 1) ≤ 1
    split <;> omega
  omega
theorem IN.held {sc : Nat → Nat} {L : List E4} (h : IN sc L) {w : Nat} (hw : w < 3) : sc (13 + w) ≤ sc 1 := by
  rcases h.2.2.2.1 w hw with h1 | ⟨e, he, h1⟩
  · omega
  · have := (h.2.1 e he).1
    omega
theorem IN.held3 {sc : Nat → Nat} {L : List E4} (h : IN sc L) : sc 13 ≤ sc 1 ∧ sc 14 ≤ sc 1 ∧ sc 15 ≤ sc 1 := ⟨h.held (w := 0) (by omega), h.held (w := 1) (by omega), h.held (w := 2) (by omega)⟩
theorem getD_mem {L : List E4} {p : Nat} (h : p < L.length) : L.getD p z4 ∈ L := by
  rw [List.getD_eq_getElem?_getD, List.getElem?_eq_getElem h]
  exact List.getElem_mem h
theorem IN.at {sc : Nat → Nat} {L : List E4} (h : IN sc L) {p : Nat} (hp : p < L.length) : (L.getD p z4).1 < sc 1 ∧ (L.getD p z4).2.1 < 8 ∧ 1 ≤ (L.getD p z4).2.2.1 ∧ (L.getD p z4).2.2.1 ≤ 9 ∧ 1 ≤ (L.getD p z4).2.2.2 ∧ (L.getD p z4).2.2.2 ≤ 60 := h.2.1 _ (getD_mem hp)
theorem nd_inj {L : List E4} (h : (L.map (·.1)).Nodup) {e f : E4} (he : e ∈ L) (hf : f ∈ L) (hn : e.1 = f.1) : e = f := by
  induction L with
  | nil => cases he
  | cons a L ih =>
    rw [List.map_cons, List.nodup_cons] at h
    rcases List.mem_cons.mp he with rfl | he1
    · rcases List.mem_cons.mp hf with rfl | hf1
      · rfl
      · exact absurd (hn ▸ List.mem_map_of_mem hf1) h.1
    · rcases List.mem_cons.mp hf with rfl | hf1
      · exact absurd (hn ▸ List.mem_map_of_mem he1) h.1
      · exact ih h.2 he1 hf1
theorem nd_ix {L : List E4} (h : (L.map (·.1)).Nodup) : ∀ {p q : Nat}, p < L.length → q < L.length → (L.getD p z4).1 = (L.getD q z4).1 → p = q := by
  induction L with
  | nil => intro p q hp; cases hp
  | cons a L ih =>
    rw [List.map_cons, List.nodup_cons] at h
    intro p q hp hq hn
    cases p with
    | zero =>
      cases q with
      | zero => rfl
      | succ q =>
        rw [List.getD_cons_zero, List.getD_cons_succ] at hn
        exact absurd (hn ▸ List.mem_map_of_mem (getD_mem (Nat.lt_of_succ_lt_succ hq))) h.1
    | succ p =>
      cases q with
      | zero =>
        rw [List.getD_cons_zero, List.getD_cons_succ] at hn
        exact absurd (hn ▸ List.mem_map_of_mem (getD_mem (Nat.lt_of_succ_lt_succ hp))) h.1
      | succ q =>
        rw [List.getD_cons_succ, List.getD_cons_succ] at hn
        rw [ih h.2 (Nat.lt_of_succ_lt_succ hp) (Nat.lt_of_succ_lt_succ hq) hn]
theorem mem_getD {L : List E4} {e : E4} (h : e ∈ L) : ∃ p, p < L.length ∧ L.getD p z4 = e := by
  obtain ⟨p, hp, he⟩ := List.getElem_of_mem h
  exact ⟨p, hp, by rw [List.getD_eq_getElem?_getD, List.getElem?_eq_getElem hp]; exact he⟩
-- a difference that is below 0
theorem pu_sn1 {a b : Nat} (h : a < b) (hb : b < 2 ^ 30) : (nI 0 < nI a - nI b) = False := eq_false fun q => by
  have h1 := pk_sneg hb h
  rw [Int32.lt_iff_toInt_lt] at h1 q
  rw [nI_toInt (by omega)] at q
  rw [Int32.toInt_zero] at h1
  omega
theorem pu_sn2 {a b : Nat} (h : a < b) (hb : b < 2 ^ 30) : (nI a - nI b = nI 0) = False := eq_false fun q => by
  have h1 := pk_sneg hb h
  rw [q] at h1
  exact absurd h1 (by decide +kernel)
theorem rf_in_good {j lo hi : Nat} {s : St} (h1 : lo ≤ j) (h2 : j ≤ hi) (h3 : hi < 2 ^ 31) : fX12_in (nI j) (nI lo) (nI hi) s = some (nI 1, s) := by
  unfold fX12_in
  simp (disch := omega) only [pu_OB, pu_LET, pu_OX0, pu_BND, pu_NZ, pu_BL, pu_m1, nI_add, pk_sub, pk_mul, pk_div, nI_clamp, pu_eq, pu_ne, pu_le_t, pu_le_f, pu_lt_t, pu_lt_f, pu_nm, pu_mm, pu_u2e, pu_u2n, ↓reduceIte, li0, li1, li2, li3, li4, li5, li6, li7, li8, li9, li10, li11, li12, li13, li14, li15, li16, li17, li18, li19, li20, li21, li22, li23, li24, li25, li26, li27, li28, li29, li30, li31, li32, li33, li34, li35, li36, li37, li38, li39, li40, li41, li42, li43, li44, li45, li46, li47, li48, li49, li50, li51, li52, li53, li54, li55, li56, li57, li58, li59, li60, li64, li72, li87, li97, li98, li99, li100, li101, li102, li103, li104, li105, li108, li109, li110, li111, li112, li114, li115, li116, li117, li119, li120, li124, li126, li132, li139, li140, li148, li156, li1000, li1092, li1248]
theorem rf_in_bad {p : Int32} {lo hi : Nat} {s : St} (h : p < nI lo ∨ nI (hi + 1) ≤ p) (hh : hi + 1 < 2 ^ 31) : fX12_in p (nI lo) (nI hi) s = some (nI 0, s) := by
  unfold fX12_in
  by_cases c : p < nI lo
  · rw [if_pos c]
    rfl
  · rw [if_neg c, if_pos]
    · rfl
    · rcases h with h | h
      · exact absurd h c
      · rw [Int32.le_iff_toInt_le, nI_toInt hh] at h
        rw [Int32.lt_iff_toInt_lt, nI_toInt (by omega)]
        omega
theorem rf_isWheel {w : Nat} {s : St} (h : w < 3) : fX12_isWheel (nI w) s = some (nI 1, s) := by
  unfold fX12_isWheel
  simp (disch := omega) only [pu_OB, pu_LET, pu_OX0, pu_BND, pu_NZ, pu_BL, pu_m1, nI_add, pk_sub, pk_mul, pk_div, nI_clamp, pu_eq, pu_ne, pu_le_t, pu_le_f, pu_lt_t, pu_lt_f, pu_nm, pu_mm, pu_u2e, pu_u2n, ↓reduceIte, li0, li1, li2, li3, li4, li5, li6, li7, li8, li9, li10, li11, li12, li13, li14, li15, li16, li17, li18, li19, li20, li21, li22, li23, li24, li25, li26, li27, li28, li29, li30, li31, li32, li33, li34, li35, li36, li37, li38, li39, li40, li41, li42, li43, li44, li45, li46, li47, li48, li49, li50, li51, li52, li53, li54, li55, li56, li57, li58, li59, li60, li64, li72, li87, li97, li98, li99, li100, li101, li102, li103, li104, li105, li108, li109, li110, li111, li112, li114, li115, li116, li117, li119, li120, li124, li126, li132, li139, li140, li148, li156, li1000, li1092, li1248, rf_in_good]
theorem rf_isWheel_x {p : Int32} {s : St} (h : p < 0 ∨ nI 3 ≤ p) : fX12_isWheel p s = some (nI 0, s) := by
  unfold fX12_isWheel
  rw [show fX12_in p 0 2 s = some (nI 0, s) from rf_in_bad (lo := 0) (hi := 2) h (by omega)]
  rfl
theorem rf_isBand {w : Nat} {s : St} (h : w < 8) : fX12_isBand (nI w) s = some (nI 1, s) := by
  unfold fX12_isBand
  simp (disch := omega) only [pu_OB, pu_LET, pu_OX0, pu_BND, pu_NZ, pu_BL, pu_m1, nI_add, pk_sub, pk_mul, pk_div, nI_clamp, pu_eq, pu_ne, pu_le_t, pu_le_f, pu_lt_t, pu_lt_f, pu_nm, pu_mm, pu_u2e, pu_u2n, ↓reduceIte, li0, li1, li2, li3, li4, li5, li6, li7, li8, li9, li10, li11, li12, li13, li14, li15, li16, li17, li18, li19, li20, li21, li22, li23, li24, li25, li26, li27, li28, li29, li30, li31, li32, li33, li34, li35, li36, li37, li38, li39, li40, li41, li42, li43, li44, li45, li46, li47, li48, li49, li50, li51, li52, li53, li54, li55, li56, li57, li58, li59, li60, li64, li72, li87, li97, li98, li99, li100, li101, li102, li103, li104, li105, li108, li109, li110, li111, li112, li114, li115, li116, li117, li119, li120, li124, li126, li132, li139, li140, li148, li156, li1000, li1092, li1248, rf_in_good]
theorem rf_isBand_x {p : Int32} {s : St} (h : p < 0 ∨ nI 8 ≤ p) : fX12_isBand p s = some (nI 0, s) := by
  unfold fX12_isBand
  rw [show fX12_in p 0 7 s = some (nI 0, s) from rf_in_bad (lo := 0) (hi := 7) h (by omega)]
  rfl
theorem rf_isGrade {w : Nat} {s : St} (h : w < 4) : fX12_isGrade (nI w) s = some (nI 1, s) := by
  unfold fX12_isGrade
  simp (disch := omega) only [pu_OB, pu_LET, pu_OX0, pu_BND, pu_NZ, pu_BL, pu_m1, nI_add, pk_sub, pk_mul, pk_div, nI_clamp, pu_eq, pu_ne, pu_le_t, pu_le_f, pu_lt_t, pu_lt_f, pu_nm, pu_mm, pu_u2e, pu_u2n, ↓reduceIte, li0, li1, li2, li3, li4, li5, li6, li7, li8, li9, li10, li11, li12, li13, li14, li15, li16, li17, li18, li19, li20, li21, li22, li23, li24, li25, li26, li27, li28, li29, li30, li31, li32, li33, li34, li35, li36, li37, li38, li39, li40, li41, li42, li43, li44, li45, li46, li47, li48, li49, li50, li51, li52, li53, li54, li55, li56, li57, li58, li59, li60, li64, li72, li87, li97, li98, li99, li100, li101, li102, li103, li104, li105, li108, li109, li110, li111, li112, li114, li115, li116, li117, li119, li120, li124, li126, li132, li139, li140, li148, li156, li1000, li1092, li1248, rf_in_good]
theorem rf_isGrade_x {p : Int32} {s : St} (h : p < 0 ∨ nI 4 ≤ p) : fX12_isGrade p s = some (nI 0, s) := by
  unfold fX12_isGrade
  rw [show fX12_in p 0 3 s = some (nI 0, s) from rf_in_bad (lo := 0) (hi := 3) h (by omega)]
  rfl
theorem rf_holder_S (m k : Nat) (x i : Int32) (s : St) : fX12_holder_L2 m (k + 1) x i s = fX12_holder_L2b m (fX12_holder_L2 m k) x i s := rfl
def hwI (sc : Nat → Nat) (n : Nat) : Int32 := if sc 13 = n + 1 then nI 0 else if sc 14 = n + 1 then nI 1 else if sc 15 = n + 1 then nI 2 else mI
section RF
variable {s : St} {sc : Nat → Nat} {L : List E4} {m : Nat}
theorem rf_holder {x : Nat} (hF : 2000 ≤ m) (hS : SM s 1 sc) (hI : IN sc L) (hB : sc 1 < 2 ^ 30) (hx : x < 2 ^ 30) : fX12_holder m (nI x) s = some (hwI sc x, s) := by
  have key : ∀ n, 4 ≤ n → fX12_holder_L2 m n (nI x) (nI 0) s = some (hwI sc x, s) := by
    intro n hn
    obtain ⟨k, rfl⟩ : ∃ k, n = k + 4 := ⟨n - 4, by omega⟩
    have e13 : s 1 13 = nI (sc 13) := hS 13 (by omega) (by omega) (by omega)
    have e14 : s 1 14 = nI (sc 14) := hS 14 (by omega) (by omega) (by omega)
    have e15 : s 1 15 = nI (sc 15) := hS 15 (by omega) (by omega) (by omega)
    have hh := hI.held3
    unfold hwI
    by_cases c13 : sc 13 = x + 1
    · simp (disch := omega) only [pu_OB, pu_LET, pu_OX0, pu_BND, pu_NZ, pu_BL, pu_m1, nI_add, pk_sub, pk_mul, pk_div, nI_clamp, pu_eq, pu_ne, pu_le_t, pu_le_f, pu_lt_t, pu_lt_f, pu_nm, pu_mm, pu_u2e, pu_u2n, ↓reduceIte, li0, li1, li2, li3, li4, li5, li6, li7, li8, li9, li10, li11, li12, li13, li14, li15, li16, li17, li18, li19, li20, li21, li22, li23, li24, li25, li26, li27, li28, li29, li30, li31, li32, li33, li34, li35, li36, li37, li38, li39, li40, li41, li42, li43, li44, li45, li46, li47, li48, li49, li50, li51, li52, li53, li54, li55, li56, li57, li58, li59, li60, li64, li72, li87, li97, li98, li99, li100, li101, li102, li103, li104, li105, li108, li109, li110, li111, li112, li114, li115, li116, li117, li119, li120, li124, li126, li132, li139, li140, li148, li156, li1000, li1092, li1248, rf_holder_S, fX12_holder_L2b, e13, if_pos c13]
    · by_cases c14 : sc 14 = x + 1
      · simp (disch := omega) only [pu_OB, pu_LET, pu_OX0, pu_BND, pu_NZ, pu_BL, pu_m1, nI_add, pk_sub, pk_mul, pk_div, nI_clamp, pu_eq, pu_ne, pu_le_t, pu_le_f, pu_lt_t, pu_lt_f, pu_nm, pu_mm, pu_u2e, pu_u2n, ↓reduceIte, li0, li1, li2, li3, li4, li5, li6, li7, li8, li9, li10, li11, li12, li13, li14, li15, li16, li17, li18, li19, li20, li21, li22, li23, li24, li25, li26, li27, li28, li29, li30, li31, li32, li33, li34, li35, li36, li37, li38, li39, li40, li41, li42, li43, li44, li45, li46, li47, li48, li49, li50, li51, li52, li53, li54, li55, li56, li57, li58, li59, li60, li64, li72, li87, li97, li98, li99, li100, li101, li102, li103, li104, li105, li108, li109, li110, li111, li112, li114, li115, li116, li117, li119, li120, li124, li126, li132, li139, li140, li148, li156, li1000, li1092, li1248, rf_holder_S, fX12_holder_L2b, e13, e14, if_neg c13, if_pos c14]
      · by_cases c15 : sc 15 = x + 1
        · simp (disch := omega) only [pu_OB, pu_LET, pu_OX0, pu_BND, pu_NZ, pu_BL, pu_m1, nI_add, pk_sub, pk_mul, pk_div, nI_clamp, pu_eq, pu_ne, pu_le_t, pu_le_f, pu_lt_t, pu_lt_f, pu_nm, pu_mm, pu_u2e, pu_u2n, ↓reduceIte, li0, li1, li2, li3, li4, li5, li6, li7, li8, li9, li10, li11, li12, li13, li14, li15, li16, li17, li18, li19, li20, li21, li22, li23, li24, li25, li26, li27, li28, li29, li30, li31, li32, li33, li34, li35, li36, li37, li38, li39, li40, li41, li42, li43, li44, li45, li46, li47, li48, li49, li50, li51, li52, li53, li54, li55, li56, li57, li58, li59, li60, li64, li72, li87, li97, li98, li99, li100, li101, li102, li103, li104, li105, li108, li109, li110, li111, li112, li114, li115, li116, li117, li119, li120, li124, li126, li132, li139, li140, li148, li156, li1000, li1092, li1248, rf_holder_S, fX12_holder_L2b, e13, e14, e15, if_neg c13, if_neg c14, if_pos c15]
        · simp (disch := omega) only [pu_OB, pu_LET, pu_OX0, pu_BND, pu_NZ, pu_BL, pu_m1, nI_add, pk_sub, pk_mul, pk_div, nI_clamp, pu_eq, pu_ne, pu_le_t, pu_le_f, pu_lt_t, pu_lt_f, pu_nm, pu_mm, pu_u2e, pu_u2n, ↓reduceIte, li0, li1, li2, li3, li4, li5, li6, li7, li8, li9, li10, li11, li12, li13, li14, li15, li16, li17, li18, li19, li20, li21, li22, li23, li24, li25, li26, li27, li28, li29, li30, li31, li32, li33, li34, li35, li36, li37, li38, li39, li40, li41, li42, li43, li44, li45, li46, li47, li48, li49, li50, li51, li52, li53, li54, li55, li56, li57, li58, li59, li60, li64, li72, li87, li97, li98, li99, li100, li101, li102, li103, li104, li105, li108, li109, li110, li111, li112, li114, li115, li116, li117, li119, li120, li124, li126, li132, li139, li140, li148, li156, li1000, li1092, li1248, rf_holder_S, fX12_holder_L2b, e13, e14, e15, if_neg c13, if_neg c14, if_neg c15]
  exact key m (by omega)
theorem rf_waits_t {p : Nat} (hF : 2000 ≤ m) (hS : SM s 1 sc) (hN : NM s 1 L) (hI : IN sc L) (hB : sc 1 < 2 ^ 30) (hp : p < L.length) (h : wt sc (L.getD p z4) = true) : fX12_waits m (nI p) s = some (nI 1, s) := by
  have hl := hI.len
  have h1 := (hN.2 p hp).1
  have h2 := (hI.at hp).1
  have h3 := wt_t.mp h
  unfold fX12_waits
  simp (disch := omega) only [pu_OB, pu_LET, pu_OX0, pu_BND, pu_NZ, pu_BL, pu_m1, nI_add, pk_sub, pk_mul, pk_div, nI_clamp, pu_eq, pu_ne, pu_le_t, pu_le_f, pu_lt_t, pu_lt_f, pu_nm, pu_mm, pu_u2e, pu_u2n, ↓reduceIte, li0, li1, li2, li3, li4, li5, li6, li7, li8, li9, li10, li11, li12, li13, li14, li15, li16, li17, li18, li19, li20, li21, li22, li23, li24, li25, li26, li27, li28, li29, li30, li31, li32, li33, li34, li35, li36, li37, li38, li39, li40, li41, li42, li43, li44, li45, li46, li47, li48, li49, li50, li51, li52, li53, li54, li55, li56, li57, li58, li59, li60, li64, li72, li87, li97, li98, li99, li100, li101, li102, li103, li104, li105, li108, li109, li110, li111, li112, li114, li115, li116, li117, li119, li120, li124, li126, li132, li139, li140, li148, li156, li1000, li1092, li1248, h1, rf_holder hF hS hI hB]
  rw [hwI, if_neg h3.1, if_neg h3.2.1, if_neg h3.2.2]
  rfl
theorem rf_waits_f {p : Nat} (hF : 2000 ≤ m) (hS : SM s 1 sc) (hN : NM s 1 L) (hI : IN sc L) (hB : sc 1 < 2 ^ 30) (hp : p < L.length) (h : wt sc (L.getD p z4) = false) : fX12_waits m (nI p) s = some (nI 0, s) := by
  have hl := hI.len
  have h1 := (hN.2 p hp).1
  have h2 := (hI.at hp).1
  have h3 := wt_f.mp h
  unfold fX12_waits
  simp (disch := omega) only [pu_OB, pu_LET, pu_OX0, pu_BND, pu_NZ, pu_BL, pu_m1, nI_add, pk_sub, pk_mul, pk_div, nI_clamp, pu_eq, pu_ne, pu_le_t, pu_le_f, pu_lt_t, pu_lt_f, pu_nm, pu_mm, pu_u2e, pu_u2n, ↓reduceIte, li0, li1, li2, li3, li4, li5, li6, li7, li8, li9, li10, li11, li12, li13, li14, li15, li16, li17, li18, li19, li20, li21, li22, li23, li24, li25, li26, li27, li28, li29, li30, li31, li32, li33, li34, li35, li36, li37, li38, li39, li40, li41, li42, li43, li44, li45, li46, li47, li48, li49, li50, li51, li52, li53, li54, li55, li56, li57, li58, li59, li60, li64, li72, li87, li97, li98, li99, li100, li101, li102, li103, li104, li105, li108, li109, li110, li111, li112, li114, li115, li116, li117, li119, li120, li124, li126, li132, li139, li140, li148, li156, li1000, li1092, li1248, h1, rf_holder hF hS hI hB]
  unfold hwI
  by_cases c13 : sc 13 = (L.getD p z4).1 + 1
  · simp (disch := omega) only [pu_OB, pu_LET, pu_OX0, pu_BND, pu_NZ, pu_BL, pu_m1, nI_add, pk_sub, pk_mul, pk_div, nI_clamp, pu_eq, pu_ne, pu_le_t, pu_le_f, pu_lt_t, pu_lt_f, pu_nm, pu_mm, pu_u2e, pu_u2n, ↓reduceIte, li0, li1, li2, li3, li4, li5, li6, li7, li8, li9, li10, li11, li12, li13, li14, li15, li16, li17, li18, li19, li20, li21, li22, li23, li24, li25, li26, li27, li28, li29, li30, li31, li32, li33, li34, li35, li36, li37, li38, li39, li40, li41, li42, li43, li44, li45, li46, li47, li48, li49, li50, li51, li52, li53, li54, li55, li56, li57, li58, li59, li60, li64, li72, li87, li97, li98, li99, li100, li101, li102, li103, li104, li105, li108, li109, li110, li111, li112, li114, li115, li116, li117, li119, li120, li124, li126, li132, li139, li140, li148, li156, li1000, li1092, li1248, if_pos c13]
  · by_cases c14 : sc 14 = (L.getD p z4).1 + 1
    · simp (disch := omega) only [pu_OB, pu_LET, pu_OX0, pu_BND, pu_NZ, pu_BL, pu_m1, nI_add, pk_sub, pk_mul, pk_div, nI_clamp, pu_eq, pu_ne, pu_le_t, pu_le_f, pu_lt_t, pu_lt_f, pu_nm, pu_mm, pu_u2e, pu_u2n, ↓reduceIte, li0, li1, li2, li3, li4, li5, li6, li7, li8, li9, li10, li11, li12, li13, li14, li15, li16, li17, li18, li19, li20, li21, li22, li23, li24, li25, li26, li27, li28, li29, li30, li31, li32, li33, li34, li35, li36, li37, li38, li39, li40, li41, li42, li43, li44, li45, li46, li47, li48, li49, li50, li51, li52, li53, li54, li55, li56, li57, li58, li59, li60, li64, li72, li87, li97, li98, li99, li100, li101, li102, li103, li104, li105, li108, li109, li110, li111, li112, li114, li115, li116, li117, li119, li120, li124, li126, li132, li139, li140, li148, li156, li1000, li1092, li1248, if_neg c13, if_pos c14]
    · have c15 : sc 15 = (L.getD p z4).1 + 1 := by omega
      simp (disch := omega) only [pu_OB, pu_LET, pu_OX0, pu_BND, pu_NZ, pu_BL, pu_m1, nI_add, pk_sub, pk_mul, pk_div, nI_clamp, pu_eq, pu_ne, pu_le_t, pu_le_f, pu_lt_t, pu_lt_f, pu_nm, pu_mm, pu_u2e, pu_u2n, ↓reduceIte, li0, li1, li2, li3, li4, li5, li6, li7, li8, li9, li10, li11, li12, li13, li14, li15, li16, li17, li18, li19, li20, li21, li22, li23, li24, li25, li26, li27, li28, li29, li30, li31, li32, li33, li34, li35, li36, li37, li38, li39, li40, li41, li42, li43, li44, li45, li46, li47, li48, li49, li50, li51, li52, li53, li54, li55, li56, li57, li58, li59, li60, li64, li72, li87, li97, li98, li99, li100, li101, li102, li103, li104, li105, li108, li109, li110, li111, li112, li114, li115, li116, li117, li119, li120, li124, li126, li132, li139, li140, li148, li156, li1000, li1092, li1248, if_neg c13, if_neg c14, if_pos c15]
theorem rf_waiting_S (k : Nat) (x i : Int32) : fX12_waiting_L4 m (k + 1) x i s = fX12_waiting_L4b m (fX12_waiting_L4 m k) x i s := rfl
theorem rf_waiting (hF : 2000 ≤ m) (hS : SM s 1 sc) (hN : NM s 1 L) (hI : IN sc L) (hB : sc 1 < 2 ^ 30) : fX12_waiting m s = some (nI (L.countP (wt sc)), s) := by
  have hl := hI.len
  have hN1 := hN.1
  have key : ∀ d n i c, i + d = L.length → d < n → fX12_waiting_L4 m n (nI c) (nI i) s = some (nI (c + sumF (fun j => if wt sc (L.getD j z4) then 1 else 0) i d), s) := by
    intro d
    induction d with
    | zero =>
      intro n i c h1 h2
      obtain ⟨k, rfl⟩ : ∃ k, n = k + 1 := ⟨n - 1, by omega⟩
      simp (disch := omega) only [pu_OB, pu_LET, pu_OX0, pu_BND, pu_NZ, pu_BL, pu_m1, nI_add, pk_sub, pk_mul, pk_div, nI_clamp, pu_eq, pu_ne, pu_le_t, pu_le_f, pu_lt_t, pu_lt_f, pu_nm, pu_mm, pu_u2e, pu_u2n, ↓reduceIte, li0, li1, li2, li3, li4, li5, li6, li7, li8, li9, li10, li11, li12, li13, li14, li15, li16, li17, li18, li19, li20, li21, li22, li23, li24, li25, li26, li27, li28, li29, li30, li31, li32, li33, li34, li35, li36, li37, li38, li39, li40, li41, li42, li43, li44, li45, li46, li47, li48, li49, li50, li51, li52, li53, li54, li55, li56, li57, li58, li59, li60, li64, li72, li87, li97, li98, li99, li100, li101, li102, li103, li104, li105, li108, li109, li110, li111, li112, li114, li115, li116, li117, li119, li120, li124, li126, li132, li139, li140, li148, li156, li1000, li1092, li1248, rf_waiting_S, fX12_waiting_L4b, hN1, sumF_0, Nat.add_zero]
    | succ d ih =>
      intro n i c h1 h2
      obtain ⟨k, rfl⟩ : ∃ k, n = k + 1 := ⟨n - 1, by omega⟩
      rw [sumF_S]
      by_cases hw : wt sc (L.getD i z4) = true
      · simp (disch := omega) only [pu_OB, pu_LET, pu_OX0, pu_BND, pu_NZ, pu_BL, pu_m1, nI_add, pk_sub, pk_mul, pk_div, nI_clamp, pu_eq, pu_ne, pu_le_t, pu_le_f, pu_lt_t, pu_lt_f, pu_nm, pu_mm, pu_u2e, pu_u2n, ↓reduceIte, li0, li1, li2, li3, li4, li5, li6, li7, li8, li9, li10, li11, li12, li13, li14, li15, li16, li17, li18, li19, li20, li21, li22, li23, li24, li25, li26, li27, li28, li29, li30, li31, li32, li33, li34, li35, li36, li37, li38, li39, li40, li41, li42, li43, li44, li45, li46, li47, li48, li49, li50, li51, li52, li53, li54, li55, li56, li57, li58, li59, li60, li64, li72, li87, li97, li98, li99, li100, li101, li102, li103, li104, li105, li108, li109, li110, li111, li112, li114, li115, li116, li117, li119, li120, li124, li126, li132, li139, li140, li148, li156, li1000, li1092, li1248, rf_waiting_S, fX12_waiting_L4b, fX12_waiting_B28, hN1, rf_waits_t hF hS hN hI hB (by omega) hw, ih k (i + 1), if_pos hw, Nat.add_assoc]
      · simp (disch := omega) only [pu_OB, pu_LET, pu_OX0, pu_BND, pu_NZ, pu_BL, pu_m1, nI_add, pk_sub, pk_mul, pk_div, nI_clamp, pu_eq, pu_ne, pu_le_t, pu_le_f, pu_lt_t, pu_lt_f, pu_nm, pu_mm, pu_u2e, pu_u2n, ↓reduceIte, li0, li1, li2, li3, li4, li5, li6, li7, li8, li9, li10, li11, li12, li13, li14, li15, li16, li17, li18, li19, li20, li21, li22, li23, li24, li25, li26, li27, li28, li29, li30, li31, li32, li33, li34, li35, li36, li37, li38, li39, li40, li41, li42, li43, li44, li45, li46, li47, li48, li49, li50, li51, li52, li53, li54, li55, li56, li57, li58, li59, li60, li64, li72, li87, li97, li98, li99, li100, li101, li102, li103, li104, li105, li108, li109, li110, li111, li112, li114, li115, li116, li117, li119, li120, li124, li126, li132, li139, li140, li148, li156, li1000, li1092, li1248, rf_waiting_S, fX12_waiting_L4b, fX12_waiting_B28, hN1, rf_waits_f hF hS hN hI hB (by omega) (Bool.eq_false_iff.mpr hw), ih k (i + 1), if_neg hw, Nat.add_assoc]
  have h := key L.length m 0 0 (by omega) (by omega)
  rw [sumF_countP, Nat.zero_add] at h
  exact h
end RF
