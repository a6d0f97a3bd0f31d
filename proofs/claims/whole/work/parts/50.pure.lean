-- ===== a script read: the reference =====
def hI (B : List Nat) (q : Nat) : Int32 := if cb B q = 0 then mI else nI (cb B q)
/-- the reference's buffer, fault flag and place -/
def RP (s : St) (B : List Nat) (x : Bool × Nat) : Prop := (s 0 8 = nI B.length ∧ B.length ≤ 60 ∧ ∀ j, j < B.length → s 6 j = nI (B.getD j 0)) ∧ s 0 15 = nI (if x.1 = true then 0 else 1) ∧ s 0 14 = nI x.2
def Fr (s t : St) (lo hi : Nat) : Prop := ∀ i j, ¬ (i = 0 ∧ j = 14) → ¬ (i = 0 ∧ j = 15) → ¬ (i = 8 ∧ lo ≤ j ∧ j < hi) → t i j = s i j
theorem Fr.trans {s t u : St} {a b c d lo hi : Nat} (h1 : Fr s t a b) (h2 : Fr t u c d) (h : (a < b → lo ≤ a ∧ b ≤ hi) ∧ (c < d → lo ≤ c ∧ d ≤ hi)) : Fr s u lo hi := fun i j x y z => by
  rw [h2 i j x y (by omega), h1 i j x y (by omega)]
theorem nd1_le {B : List Nat} {c : Nat} {x : Bool × Nat} : x.2 ≤ (nd1 B c x).2 ∧ (nd1 B c x).2 ≤ x.2 + 1 := by
  unfold nd1
  split
  · exact ⟨by show x.2 ≤ x.2 + 1; omega, by show x.2 + 1 ≤ _; omega⟩
  · exact ⟨by show x.2 ≤ x.2; omega, by show x.2 ≤ _; omega⟩
theorem nds_le {B : List Nat} : ∀ {w : List Nat} {x : Bool × Nat}, x.2 ≤ (nds B w x).2 ∧ (nds B w x).2 ≤ x.2 + w.length := by
  intro w
  induction w with
  | nil => intro x; exact ⟨Nat.le_refl _, Nat.le_refl _⟩
  | cons c w ih =>
    intro x
    have h1 := nd1_le (B := B) (c := c) (x := x)
    have h2 := ih (x := nd1 B c x)
    rw [List.length_cons]
    show x.2 ≤ (nds B w (nd1 B c x)).2 ∧ (nds B w (nd1 B c x)).2 ≤ _
    omega
section RS
variable {s : St} {m : Nat} {B : List Nat} {x : Bool × Nat}
theorem RP.w8 {j : Nat} {v : Int32} (h : RP s B x) : RP (u2 s 8 j v) B x := by
  obtain ⟨⟨h1, h2, h3⟩, h4, h5⟩ := h
  exact ⟨⟨by rw [pu_u2n (by omega)]; exact h1, h2, fun j hj => by rw [pu_u2n (by omega)]; exact h3 j hj⟩, by rw [pu_u2n (by omega)]; exact h4, by rw [pu_u2n (by omega)]; exact h5⟩
theorem RP.go {q : Nat} (h : RP s B x) : RP (u2 s 0 14 (nI q)) B (x.1, q) := by
  obtain ⟨⟨h1, h2, h3⟩, h4, h5⟩ := h
  exact ⟨⟨by rw [pu_u2n (by omega)]; exact h1, h2, fun j hj => by rw [pu_u2n (by omega)]; exact h3 j hj⟩, by rw [pu_u2n (by omega)]; exact h4, by rw [pu_u2e ⟨rfl, rfl⟩]⟩
theorem RP.fl {b : Bool} {z : Int32} (h : RP s B x) (hz : z = nI (if b = true then 0 else 1)) : RP (u2 s 0 15 z) B (b, x.2) := by
  obtain ⟨⟨h1, h2, h3⟩, h4, h5⟩ := h
  exact ⟨⟨by rw [pu_u2n (by omega)]; exact h1, h2, fun j hj => by rw [pu_u2n (by omega)]; exact h3 j hj⟩, by rw [pu_u2e ⟨rfl, rfl⟩]; exact hz, by rw [pu_u2n (by omega)]; exact h5⟩
theorem rf_here (hR : RP s B x) (hB : bOk B) (hx : x.2 < 1000) : fX12_here s = some (hI B x.2, s) := by
  obtain ⟨⟨h1, h2, h3⟩, h4, h5⟩ := hR
  unfold fX12_here
  by_cases c : x.2 < B.length
  · have e := h3 _ c
    have hc := cb_in hB c
    change s 6 x.2 = nI (cb B x.2) at e
    have e2 : hI B x.2 = nI (cb B x.2) := by
      unfold hI
      rw [if_neg (by omega)]
    rw [e2]
    simp (disch := omega) only [pu_OB, pu_LET, pu_OX0, pu_BND, pu_NZ, pu_BL, pu_m1, nI_add, pk_sub, pk_mul, pk_div, nI_clamp, pu_eq, pu_ne, pu_le_t, pu_le_f, pu_lt_t, pu_lt_f, pu_nm, pu_mm, pu_u2e, pu_u2n, ↓reduceIte, li0, li1, li2, li3, li4, li5, li6, li7, li8, li9, li10, li11, li12, li13, li14, li15, li16, li17, li18, li19, li20, li21, li22, li23, li24, li25, li26, li27, li28, li29, li30, li31, li32, li33, li34, li35, li36, li37, li38, li39, li40, li41, li42, li43, li44, li45, li46, li47, li48, li49, li50, li51, li52, li53, li54, li55, li56, li57, li58, li59, li60, li64, li72, li87, li97, li98, li99, li100, li101, li102, li103, li104, li105, li108, li109, li110, li111, li112, li114, li115, li116, li117, li119, li120, li124, li126, li132, li139, li140, li148, li156, li1000, li1092, li1248, h1, h5, e]
  · unfold hI
    rw [if_pos (cb_out (by omega))]
    simp (disch := omega) only [pu_OB, pu_LET, pu_OX0, pu_BND, pu_NZ, pu_BL, pu_m1, nI_add, pk_sub, pk_mul, pk_div, nI_clamp, pu_eq, pu_ne, pu_le_t, pu_le_f, pu_lt_t, pu_lt_f, pu_nm, pu_mm, pu_u2e, pu_u2n, ↓reduceIte, li0, li1, li2, li3, li4, li5, li6, li7, li8, li9, li10, li11, li12, li13, li14, li15, li16, li17, li18, li19, li20, li21, li22, li23, li24, li25, li26, li27, li28, li29, li30, li31, li32, li33, li34, li35, li36, li37, li38, li39, li40, li41, li42, li43, li44, li45, li46, li47, li48, li49, li50, li51, li52, li53, li54, li55, li56, li57, li58, li59, li60, li64, li72, li87, li97, li98, li99, li100, li101, li102, li103, li104, li105, li108, li109, li110, li111, li112, li114, li115, li116, li117, li119, li120, li124, li126, li132, li139, li140, li148, li156, li1000, li1092, li1248, h1, h5]
theorem hI_e {q c : Nat} (h : cb B q = c) (hc : 0 < c) : hI B q = nI c := by
  unfold hI
  rw [if_neg (by omega), h]
theorem hI_n {q c : Nat} (hB : bOk B) (h : ¬ cb B q = c) (hc : c < 200) : (hI B q = nI c) = False := by
  unfold hI
  have := cb_le hB (i := q)
  by_cases d : cb B q = 0
  · rw [if_pos d]
    exact pu_mn (by omega)
  · rw [if_neg d]
    exact pu_ne h (by omega) (by omega)
theorem rf_needs {c : Nat} (hR : RP s B x) (hB : bOk B) (hx : x.2 < 900) (hc : 0 < c ∧ c < 200) : ∃ t, fX12_needs (nI c) s = some (nI 0, t) ∧ RP t B (nd1 B c x) ∧ Fr s t 0 0 := by
  have hh := rf_here hR hB (by omega)
  have h15 := hR.2.1
  have h14 := hR.2.2
  unfold fX12_needs fX12_needs_B16 fX12_needs_B21
  by_cases d : x.1 = true
  · rw [if_pos d] at h15
    by_cases e : cb B x.2 = c
    · refine ⟨u2 (u2 s 0 15 (nI 0)) 0 14 (nI (x.2 + 1)), ?_, ?_, fun i j a b _ => by rw [pu_u2n (by omega), pu_u2n (by omega)]⟩
      · have e9 := hI_e e hc.1
        rw [e9] at hh
        simp (disch := omega) only [pu_OB, pu_LET, pu_OX0, pu_BND, pu_NZ, pu_BL, pu_m1, nI_add, pk_sub, pk_mul, pk_div, nI_clamp, pu_eq, pu_ne, pu_le_t, pu_le_f, pu_lt_t, pu_lt_f, pu_nm, pu_mm, pu_u2e, pu_u2n, ↓reduceIte, li0, li1, li2, li3, li4, li5, li6, li7, li8, li9, li10, li11, li12, li13, li14, li15, li16, li17, li18, li19, li20, li21, li22, li23, li24, li25, li26, li27, li28, li29, li30, li31, li32, li33, li34, li35, li36, li37, li38, li39, li40, li41, li42, li43, li44, li45, li46, li47, li48, li49, li50, li51, li52, li53, li54, li55, li56, li57, li58, li59, li60, li64, li72, li87, li97, li98, li99, li100, li101, li102, li103, li104, li105, li108, li109, li110, li111, li112, li114, li115, li116, li117, li119, li120, li124, li126, li132, li139, li140, li148, li156, li1000, li1092, li1248, h15, hh, h14]
      · rw [show nd1 B c x = (true, x.2 + 1) from if_pos ⟨d, e⟩]
        exact (hR.fl (b := true) rfl).go
    · refine ⟨u2 (u2 s 0 15 (nI 1)) 0 14 (nI x.2), ?_, ?_, fun i j a b _ => by rw [pu_u2n (by omega), pu_u2n (by omega)]⟩
      · simp (disch := omega) only [pu_OB, pu_LET, pu_OX0, pu_BND, pu_NZ, pu_BL, pu_m1, nI_add, pk_sub, pk_mul, pk_div, nI_clamp, pu_eq, pu_ne, pu_le_t, pu_le_f, pu_lt_t, pu_lt_f, pu_nm, pu_mm, pu_u2e, pu_u2n, ↓reduceIte, li0, li1, li2, li3, li4, li5, li6, li7, li8, li9, li10, li11, li12, li13, li14, li15, li16, li17, li18, li19, li20, li21, li22, li23, li24, li25, li26, li27, li28, li29, li30, li31, li32, li33, li34, li35, li36, li37, li38, li39, li40, li41, li42, li43, li44, li45, li46, li47, li48, li49, li50, li51, li52, li53, li54, li55, li56, li57, li58, li59, li60, li64, li72, li87, li97, li98, li99, li100, li101, li102, li103, li104, li105, li108, li109, li110, li111, li112, li114, li115, li116, li117, li119, li120, li124, li126, li132, li139, li140, li148, li156, li1000, li1092, li1248, h15, hh, h14, hI_n hB e hc.2]
        rfl
      · rw [show nd1 B c x = (false, x.2) from if_neg (fun h => e h.2)]
        exact (hR.fl (b := false) rfl).go
  · rw [if_neg d] at h15
    refine ⟨u2 (u2 s 0 15 (nI 1)) 0 14 (nI x.2), ?_, ?_, fun i j a b _ => by rw [pu_u2n (by omega), pu_u2n (by omega)]⟩
    · simp (disch := omega) only [pu_OB, pu_LET, pu_OX0, pu_BND, pu_NZ, pu_BL, pu_m1, nI_add, pk_sub, pk_mul, pk_div, nI_clamp, pu_eq, pu_ne, pu_le_t, pu_le_f, pu_lt_t, pu_lt_f, pu_nm, pu_mm, pu_u2e, pu_u2n, ↓reduceIte, li0, li1, li2, li3, li4, li5, li6, li7, li8, li9, li10, li11, li12, li13, li14, li15, li16, li17, li18, li19, li20, li21, li22, li23, li24, li25, li26, li27, li28, li29, li30, li31, li32, li33, li34, li35, li36, li37, li38, li39, li40, li41, li42, li43, li44, li45, li46, li47, li48, li49, li50, li51, li52, li53, li54, li55, li56, li57, li58, li59, li60, li64, li72, li87, li97, li98, li99, li100, li101, li102, li103, li104, li105, li108, li109, li110, li111, li112, li114, li115, li116, li117, li119, li120, li124, li126, li132, li139, li140, li148, li156, li1000, li1092, li1248, h15, hh, h14]
      rfl
    · rw [show nd1 B c x = (false, x.2) from if_neg (fun h => d h.1)]
      exact (hR.fl (b := false) rfl).go
theorem rf_needsThree {a b c : Nat} (hR : RP s B x) (hB : bOk B) (hx : x.2 < 800) (ha : 0 < a ∧ a < 200) (hb : 0 < b ∧ b < 200) (hc : 0 < c ∧ c < 200) : ∃ t, fX12_needsThree (nI a) (nI b) (nI c) s = some (nI 0, t) ∧ RP t B (nds B [a, b, c] x) ∧ Fr s t 0 0 := by
  have l1 := nd1_le (B := B) (c := a) (x := x)
  have l2 := nd1_le (B := B) (c := b) (x := nd1 B a x)
  obtain ⟨t1, a1, b1, c1⟩ := rf_needs hR hB (by omega) ha
  obtain ⟨t2, a2, b2, c2⟩ := rf_needs b1 hB (by omega) hb
  obtain ⟨t3, a3, b3, c3⟩ := rf_needs b2 hB (by omega) hc
  refine ⟨t3, ?_, b3, (c1.trans (lo := 0) (hi := 0) c2 (by omega)).trans c3 (by omega)⟩
  unfold fX12_needsThree
  simp (disch := omega) only [pu_OB, pu_LET, pu_OX0, pu_BND, pu_NZ, pu_BL, pu_m1, nI_add, pk_sub, pk_mul, pk_div, nI_clamp, pu_eq, pu_ne, pu_le_t, pu_le_f, pu_lt_t, pu_lt_f, pu_nm, pu_mm, pu_u2e, pu_u2n, ↓reduceIte, li0, li1, li2, li3, li4, li5, li6, li7, li8, li9, li10, li11, li12, li13, li14, li15, li16, li17, li18, li19, li20, li21, li22, li23, li24, li25, li26, li27, li28, li29, li30, li31, li32, li33, li34, li35, li36, li37, li38, li39, li40, li41, li42, li43, li44, li45, li46, li47, li48, li49, li50, li51, li52, li53, li54, li55, li56, li57, li58, li59, li60, li64, li72, li87, li97, li98, li99, li100, li101, li102, li103, li104, li105, li108, li109, li110, li111, li112, li114, li115, li116, li117, li119, li120, li124, li126, li132, li139, li140, li148, li156, li1000, li1092, li1248, a1, a2, a3]
theorem rf_inD {q : Nat} (hB : bOk B) : fX12_in (hI B q) (nI 48) (nI 57) s = some (nI (if dig B q = true then 1 else 0), s) := by
  have h9 := cb_le hB (i := q)
  by_cases d : dig B q = true
  · have := dig_t.mp d
    rw [if_pos d, hI_e rfl (by omega)]
    exact rf_in_good (by omega) (by omega) (by omega)
  · have hd : ¬ _ := fun h => d (dig_t.mpr h)
    rw [if_neg d]
    refine rf_in_bad (lo := 48) (hi := 57) ?_ (by omega)
    unfold hI
    by_cases e : cb B q = 0
    · rw [if_pos e]
      exact Or.inl (by decide +kernel)
    · rw [if_neg e]
      by_cases e2 : cb B q < 48
      · exact Or.inl (nI_lt e2 (by omega))
      · exact Or.inr (nI_le (by omega) (by omega))
theorem rf_dg_S (r : Nat) (x1 x2 x3 : Int32) (s : St) : fX12_digits_L40 m (r + 1) x1 x2 x3 s = fX12_digits_L40b m (fX12_digits_L40 m r) x1 x2 x3 s := rfl
theorem rf_dg_end {n i k : Nat} {v : Int32} (h : n ≤ i) (hi : i < 100) : fX12_digits_L40 m (k + 1) (nI n) v (nI i) s = some (v, s) := by
  rw [rf_dg_S]
  unfold fX12_digits_L40b
  by_cases c : s 0 15 = nI 0
  · simp (disch := omega) only [pu_OB, pu_LET, pu_OX0, pu_BND, pu_NZ, pu_BL, pu_m1, nI_add, pk_sub, pk_mul, pk_div, nI_clamp, pu_eq, pu_ne, pu_le_t, pu_le_f, pu_lt_t, pu_lt_f, pu_nm, pu_mm, pu_u2e, pu_u2n, ↓reduceIte, li0, li1, li2, li3, li4, li5, li6, li7, li8, li9, li10, li11, li12, li13, li14, li15, li16, li17, li18, li19, li20, li21, li22, li23, li24, li25, li26, li27, li28, li29, li30, li31, li32, li33, li34, li35, li36, li37, li38, li39, li40, li41, li42, li43, li44, li45, li46, li47, li48, li49, li50, li51, li52, li53, li54, li55, li56, li57, li58, li59, li60, li64, li72, li87, li97, li98, li99, li100, li101, li102, li103, li104, li105, li108, li109, li110, li111, li112, li114, li115, li116, li117, li119, li120, li124, li126, li132, li139, li140, li148, li156, li1000, li1092, li1248, c]
  · exact if_neg c
theorem rf_dg_no {n i k q : Nat} {v : Int32} (hR : RP s B (true, q)) (hB : bOk B) (hq : q < 1000) (h : i < n) (hi : n < 100) (hd : ¬ dig B q = true) : fX12_digits_L40 m (k + 1) (nI n) v (nI i) s = some (v, s) := by
  have h15 : s 0 15 = nI 0 := hR.2.1
  have hh := rf_here hR hB hq
  have hi := rf_inD (s := s) (q := q) hB
  rw [if_neg hd] at hi
  rw [rf_dg_S]
  unfold fX12_digits_L40b
  simp (disch := omega) only [pu_OB, pu_LET, pu_OX0, pu_BND, pu_NZ, pu_BL, pu_m1, nI_add, pk_sub, pk_mul, pk_div, nI_clamp, pu_eq, pu_ne, pu_le_t, pu_le_f, pu_lt_t, pu_lt_f, pu_nm, pu_mm, pu_u2e, pu_u2n, ↓reduceIte, li0, li1, li2, li3, li4, li5, li6, li7, li8, li9, li10, li11, li12, li13, li14, li15, li16, li17, li18, li19, li20, li21, li22, li23, li24, li25, li26, li27, li28, li29, li30, li31, li32, li33, li34, li35, li36, li37, li38, li39, li40, li41, li42, li43, li44, li45, li46, li47, li48, li49, li50, li51, li52, li53, li54, li55, li56, li57, li58, li59, li60, li64, li72, li87, li97, li98, li99, li100, li101, li102, li103, li104, li105, li108, li109, li110, li111, li112, li114, li115, li116, li117, li119, li120, li124, li126, li132, li139, li140, li148, li156, li1000, li1092, li1248, h15, hh, hi]
theorem rf_dg_go {n i k q v : Nat} (hR : RP s B (true, q)) (hB : bOk B) (hq : q < 1000) (h : i < n) (hn : n < 100) (hv : v < 100) (hd : dig B q = true) : fX12_digits_L40 m (k + 1) (nI n) (nI v) (nI i) s = fX12_digits_L40 m k (nI n) (nI (10 * v + (cb B q - 48))) (nI (i + 1)) (u2 s 0 14 (nI (q + 1))) := by
  have h15 : s 0 15 = nI 0 := hR.2.1
  have h14 : s 0 14 = nI q := hR.2.2
  have hh := rf_here hR hB hq
  have hi := rf_inD (s := s) (q := q) hB
  have hdd := dig_t.mp hd
  have hcl := cb_le hB (i := q)
  rw [if_pos hd] at hi
  have e : hI B q = nI (cb B q) := hI_e rfl (by omega)
  change fX12_here s = some (hI B q, s) at hh
  rw [e] at hh hi
  rw [rf_dg_S]
  unfold fX12_digits_L40b
  simp (disch := omega) only [pu_OB, pu_LET, pu_OX0, pu_BND, pu_NZ, pu_BL, pu_m1, nI_add, pk_sub, pk_mul, pk_div, nI_clamp, pu_eq, pu_ne, pu_le_t, pu_le_f, pu_lt_t, pu_lt_f, pu_nm, pu_mm, pu_u2e, pu_u2n, ↓reduceIte, li0, li1, li2, li3, li4, li5, li6, li7, li8, li9, li10, li11, li12, li13, li14, li15, li16, li17, li18, li19, li20, li21, li22, li23, li24, li25, li26, li27, li28, li29, li30, li31, li32, li33, li34, li35, li36, li37, li38, li39, li40, li41, li42, li43, li44, li45, li46, li47, li48, li49, li50, li51, li52, li53, li54, li55, li56, li57, li58, li59, li60, li64, li72, li87, li97, li98, li99, li100, li101, li102, li103, li104, li105, li108, li109, li110, li111, li112, li114, li115, li116, li117, li119, li120, li124, li126, li132, li139, li140, li148, li156, li1000, li1092, li1248, h15, hh, hi, h14]
  rw [show 10 * v + cb B q - 48 = 10 * v + (cb B q - 48) by omega]
theorem rf_digits {n : Nat} (hF : 2000 ≤ m) (hn : n = 1 ∨ n = 2) (hR : RP s B x) (hB : bOk B) (hx : x.2 < 800) : ∃ t, fX12_digits m (nI n) s = some (nI (dgS B n x).2, t) ∧ RP t B (dgS B n x).1 ∧ Fr s t 0 0 := by
  obtain ⟨r, rfl⟩ : ∃ r, m = r + 5 := ⟨m - 5, by omega⟩
  have l1 := nd1_le (B := B) (c := 32) (x := x)
  obtain ⟨t1, a1, b1, c1⟩ := rf_needs hR hB (by omega) (show 0 < 32 ∧ 32 < 200 by omega)
  have stop : ∀ (t : St) (v1 v2 v3 : Int32), t 0 15 = nI 1 → fX12_digits_L40 (r + 5) (r + 5) v1 v2 v3 t = some (v2, t) := fun t v1 v2 v3 h => by
    rw [rf_dg_S]
    unfold fX12_digits_L40b
    simp (disch := omega) only [pu_OB, pu_LET, pu_OX0, pu_BND, pu_NZ, pu_BL, pu_m1, nI_add, pk_sub, pk_mul, pk_div, nI_clamp, pu_eq, pu_ne, pu_le_t, pu_le_f, pu_lt_t, pu_lt_f, pu_nm, pu_mm, pu_u2e, pu_u2n, ↓reduceIte, li0, li1, li2, li3, li4, li5, li6, li7, li8, li9, li10, li11, li12, li13, li14, li15, li16, li17, li18, li19, li20, li21, li22, li23, li24, li25, li26, li27, li28, li29, li30, li31, li32, li33, li34, li35, li36, li37, li38, li39, li40, li41, li42, li43, li44, li45, li46, li47, li48, li49, li50, li51, li52, li53, li54, li55, li56, li57, li58, li59, li60, li64, li72, li87, li97, li98, li99, li100, li101, li102, li103, li104, li105, li108, li109, li110, li111, li112, li114, li115, li116, li117, li119, li120, li124, li126, li132, li139, li140, li148, li156, li1000, li1092, li1248, h]
  unfold fX12_digits fX12_digits_B28 fX12_digits_B33
  by_cases d : x.1 = true ∧ cb B x.2 = 32
  · rw [show nd1 B 32 x = (true, x.2 + 1) from if_pos d] at b1
    have h15 : t1 0 15 = nI 0 := b1.2.1
    have hh : fX12_here t1 = some (hI B (x.2 + 1), t1) := rf_here b1 hB (by show x.2 + 1 < 1000; omega)
    have hx2 : x = (true, x.2) := Prod.ext d.1 rfl
    have hi := rf_inD (s := t1) (q := x.2 + 1) hB
    by_cases e : dig B (x.2 + 1) = true
    · rw [if_pos e] at hi
      have b2 : RP (u2 t1 0 15 (nI 0)) B (true, x.2 + 1) := b1.fl (b := true) rfl
      have b3 : RP (u2 (u2 t1 0 15 (nI 0)) 0 14 (nI (x.2 + 1 + 1))) B (true, x.2 + 1 + 1) := b2.go
      have f3 : Fr s (u2 (u2 t1 0 15 (nI 0)) 0 14 (nI (x.2 + 1 + 1))) 0 0 := fun i j y z w => by
        rw [pu_u2n (by omega), pu_u2n (by omega)]
        exact c1 i j y z w
      have s1 : fX12_digits_L40 (r + 5) (r + 5) (nI n) (nI 0) (nI 0) (u2 t1 0 15 (nI 0)) = _ := rf_dg_go (k := r + 4) b2 hB (by omega) (by omega) (by omega) (by omega) e
      rw [show 10 * 0 + (cb B (x.2 + 1) - 48) = cb B (x.2 + 1) - 48 by omega] at s1
      have hcl := cb_le hB (i := x.2 + 1)
      by_cases f : n = 2 ∧ dig B (x.2 + 2) = true
      · rw [hx2, dgS_2 d.2 e f]
        have hcl2 := cb_le hB (i := x.2 + 2)
        refine ⟨u2 (u2 (u2 t1 0 15 (nI 0)) 0 14 (nI (x.2 + 1 + 1))) 0 14 (nI (x.2 + 1 + 1 + 1)), ?_, b3.go, fun i j y z w => by rw [pu_u2n (by omega)]; exact f3 i j y z w⟩
        have s2 := rf_dg_go (m := r + 5) (n := n) (i := 0 + 1) (k := r + 3) (v := cb B (x.2 + 1) - 48) b3 hB (by omega) (by omega) (by omega) (by omega) f.2
        have s3 := rf_dg_end (m := r + 5) (n := n) (i := 0 + 1 + 1) (k := r + 2) (v := nI (10 * (cb B (x.2 + 1) - 48) + (cb B (x.2 + 2) - 48))) (s := u2 (u2 (u2 t1 0 15 (nI 0)) 0 14 (nI (x.2 + 1 + 1))) 0 14 (nI (x.2 + 1 + 1 + 1))) (by omega) (by omega)
        simp (disch := omega) only [pu_OB, pu_LET, pu_OX0, pu_BND, pu_NZ, pu_BL, pu_m1, nI_add, pk_sub, pk_mul, pk_div, nI_clamp, pu_eq, pu_ne, pu_le_t, pu_le_f, pu_lt_t, pu_lt_f, pu_nm, pu_mm, pu_u2e, pu_u2n, ↓reduceIte, li0, li1, li2, li3, li4, li5, li6, li7, li8, li9, li10, li11, li12, li13, li14, li15, li16, li17, li18, li19, li20, li21, li22, li23, li24, li25, li26, li27, li28, li29, li30, li31, li32, li33, li34, li35, li36, li37, li38, li39, li40, li41, li42, li43, li44, li45, li46, li47, li48, li49, li50, li51, li52, li53, li54, li55, li56, li57, li58, li59, li60, li64, li72, li87, li97, li98, li99, li100, li101, li102, li103, li104, li105, li108, li109, li110, li111, li112, li114, li115, li116, li117, li119, li120, li124, li126, li132, li139, li140, li148, li156, li1000, li1092, li1248, a1, h15, hh, hi]
        exact s1.trans (s2.trans s3)
      · rw [hx2, dgS_1 d.2 e f]
        refine ⟨u2 (u2 t1 0 15 (nI 0)) 0 14 (nI (x.2 + 1 + 1)), ?_, b3, f3⟩
        simp (disch := omega) only [pu_OB, pu_LET, pu_OX0, pu_BND, pu_NZ, pu_BL, pu_m1, nI_add, pk_sub, pk_mul, pk_div, nI_clamp, pu_eq, pu_ne, pu_le_t, pu_le_f, pu_lt_t, pu_lt_f, pu_nm, pu_mm, pu_u2e, pu_u2n, ↓reduceIte, li0, li1, li2, li3, li4, li5, li6, li7, li8, li9, li10, li11, li12, li13, li14, li15, li16, li17, li18, li19, li20, li21, li22, li23, li24, li25, li26, li27, li28, li29, li30, li31, li32, li33, li34, li35, li36, li37, li38, li39, li40, li41, li42, li43, li44, li45, li46, li47, li48, li49, li50, li51, li52, li53, li54, li55, li56, li57, li58, li59, li60, li64, li72, li87, li97, li98, li99, li100, li101, li102, li103, li104, li105, li108, li109, li110, li111, li112, li114, li115, li116, li117, li119, li120, li124, li126, li132, li139, li140, li148, li156, li1000, li1092, li1248, a1, h15, hh, hi]
        refine s1.trans ?_
        rcases hn with rfl | rfl
        · exact rf_dg_end (k := r + 3) (by omega) (by omega)
        · exact rf_dg_no (k := r + 3) b3 hB (by omega) (by omega) (by omega) fun g => f ⟨rfl, g⟩
    · rw [if_neg e] at hi
      rw [hx2, dgS_b d.2 e]
      refine ⟨u2 t1 0 15 (nI 1), ?_, b1.fl (b := false) rfl, fun i j y z w => by rw [pu_u2n (by omega)]; exact c1 i j y z w⟩
      have st := stop (u2 t1 0 15 (nI 1)) (nI n) (nI 0) (nI 0) (pu_u2e ⟨rfl, rfl⟩)
      simp (disch := omega) only [pu_OB, pu_LET, pu_OX0, pu_BND, pu_NZ, pu_BL, pu_m1, nI_add, pk_sub, pk_mul, pk_div, nI_clamp, pu_eq, pu_ne, pu_le_t, pu_le_f, pu_lt_t, pu_lt_f, pu_nm, pu_mm, pu_u2e, pu_u2n, ↓reduceIte, li0, li1, li2, li3, li4, li5, li6, li7, li8, li9, li10, li11, li12, li13, li14, li15, li16, li17, li18, li19, li20, li21, li22, li23, li24, li25, li26, li27, li28, li29, li30, li31, li32, li33, li34, li35, li36, li37, li38, li39, li40, li41, li42, li43, li44, li45, li46, li47, li48, li49, li50, li51, li52, li53, li54, li55, li56, li57, li58, li59, li60, li64, li72, li87, li97, li98, li99, li100, li101, li102, li103, li104, li105, li108, li109, li110, li111, li112, li114, li115, li116, li117, li119, li120, li124, li126, li132, li139, li140, li148, li156, li1000, li1092, li1248, a1, h15, hh, hi, st]
  · rw [dgS_n d]
    rw [show nd1 B 32 x = (false, x.2) from if_neg d] at b1
    have h15 : t1 0 15 = nI 1 := b1.2.1
    refine ⟨u2 t1 0 15 (nI 1), ?_, b1.fl (b := false) rfl, fun i j y z w => by rw [pu_u2n (by omega)]; exact c1 i j y z w⟩
    have st := stop (u2 t1 0 15 (nI 1)) (nI n) (nI 0) (nI 0) (pu_u2e ⟨rfl, rfl⟩)
    simp (disch := omega) only [pu_OB, pu_LET, pu_OX0, pu_BND, pu_NZ, pu_BL, pu_m1, nI_add, pk_sub, pk_mul, pk_div, nI_clamp, pu_eq, pu_ne, pu_le_t, pu_le_f, pu_lt_t, pu_lt_f, pu_nm, pu_mm, pu_u2e, pu_u2n, ↓reduceIte, li0, li1, li2, li3, li4, li5, li6, li7, li8, li9, li10, li11, li12, li13, li14, li15, li16, li17, li18, li19, li20, li21, li22, li23, li24, li25, li26, li27, li28, li29, li30, li31, li32, li33, li34, li35, li36, li37, li38, li39, li40, li41, li42, li43, li44, li45, li46, li47, li48, li49, li50, li51, li52, li53, li54, li55, li56, li57, li58, li59, li60, li64, li72, li87, li97, li98, li99, li100, li101, li102, li103, li104, li105, li108, li109, li110, li111, li112, li114, li115, li116, li117, li119, li120, li124, li126, li132, li139, li140, li148, li156, li1000, li1092, li1248, a1, h15, st]
end RS
