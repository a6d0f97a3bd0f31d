-- ===== bands by grains; the queue =====
section PR
variable {σ s : St} {m C : Nat} {T : List Nat}
def gof (sc : Nat → Nat) (b : Nat) : Nat := sumF (fun g => sc (32 + 4 * b + g)) 0 4
theorem gof_le {sc : Nat → Nat} {T' N' b : Nat} (hs : IS sc 0 T' N') (hb9 : b < 8) : gof sc b ≤ sc 3 := by
  have h1 := hs.2.2.2.2
  have h2 : ∀ (d i : Nat), i ≤ 4 * b → 4 * b + 4 ≤ i + d → sumF (fun g => sc (32 + 4 * b + g)) 0 4 ≤ sumF (fun r => sc (32 + r)) i d := by
    intro d
    induction d with
    | zero => intro i q1 q2; omega
    | succ d ih =>
      intro i q1 q2
      by_cases c : i < 4 * b
      · have e := sumF_S (fun r => sc (32 + r)) i d
        have := ih (i + 1) (by omega) (by omega)
        omega
      · obtain rfl : i = 4 * b := by omega
        obtain ⟨e, rfl⟩ : ∃ e, d = e + 3 := ⟨d - 3, by omega⟩
        have e1 : sumF (fun r => sc (32 + r)) (4 * b) (e + 3 + 1) = sc (32 + 4 * b) + (sc (32 + (4 * b + 1)) + (sc (32 + (4 * b + 1 + 1)) + (sc (32 + (4 * b + 1 + 1 + 1)) + sumF (fun r => sc (32 + r)) (4 * b + 1 + 1 + 1 + 1) e))) := rfl
        have e2 : sumF (fun g => sc (32 + 4 * b + g)) 0 4 = sc (32 + 4 * b) + (sc (32 + (4 * b + 1)) + (sc (32 + (4 * b + 1 + 1)) + sc (32 + (4 * b + 1 + 1 + 1)))) := by
          show sc (32 + 4 * b + 0) + (sc (32 + 4 * b + (0 + 1)) + (sc (32 + 4 * b + (0 + 1 + 1)) + (sc (32 + 4 * b + (0 + 1 + 1 + 1)) + 0))) = _
          simp only [Nat.add_assoc, Nat.reduceAdd, Nat.add_zero]
        omega
  have := h2 32 0 (by omega) (by omega)
  unfold gof
  omega
theorem cl_rob_S (k r : Nat) (x1 x2 x3 : Int32) (σ : St) : fX9_recordedOfBand_L4 m k (r + 1) x1 x2 x3 σ = fX9_recordedOfBand_L4b m k (fX9_recordedOfBand_L4 m k r) x1 x2 x3 σ := rfl
theorem cl_rob {k b : Nat} {A : AM} (hF : 2000 ≤ m) (hS : SR σ k A.1) (hb9 : b < 8) : fX9_recordedOfBand m (k + 7) (nI b) σ = some (nI (gof A.1 b), σ) := by
  have key : ∀ d n i x, i + d = 4 → d < n → fX9_recordedOfBand_L4 m (k + 7) n (nI b) (nI x) (nI i) σ = some (nI (x + sumF (fun g => A.1 (32 + 4 * b + g)) i d), σ) := by
    intro d
    induction d with
    | zero =>
      intro n i x h1 h2
      obtain ⟨n, rfl⟩ : ∃ q, n = q + 1 := ⟨n - 1, by omega⟩
      simp (disch := omega) only [pu_OB, pu_LET, pu_OX0, pu_BND, pu_NZ, pu_BL, pu_m1, nI_add, pk_sub, pk_mul, pk_div, nI_clamp, pu_eq, pu_ne, pu_le_t, pu_le_f, pu_lt_t, pu_lt_f, pu_nm, pu_mm, pu_u2e, pu_u2n, ↓reduceIte, li0, li1, li2, li3, li4, li5, li6, li7, li8, li9, li10, li11, li12, li13, li14, li15, li16, li17, li18, li19, li20, li21, li22, li23, li24, li25, li26, li27, li28, li29, li30, li31, li32, li33, li34, li35, li36, li37, li38, li39, li40, li41, li42, li43, li44, li45, li46, li47, li48, li49, li50, li51, li52, li53, li54, li55, li56, li57, li58, li59, li60, li64, li72, li87, li97, li98, li99, li100, li101, li102, li103, li104, li105, li108, li109, li110, li111, li112, li114, li115, li116, li117, li119, li120, li124, li126, li132, li139, li140, li148, li156, li1000, li1092, li1248, cl_rob_S, fX9_recordedOfBand_L4b, sumF_0, Nat.add_zero]
    | succ d ih =>
      intro n i x h1 h2
      obtain ⟨n, rfl⟩ : ∃ q, n = q + 1 := ⟨n - 1, by omega⟩
      have e1 := hS.rec (show 4 * b + i < 32 by omega)
      rw [← Nat.add_assoc] at e1
      rw [sumF_S, ← Nat.add_assoc]
      simp (disch := omega) only [pu_OB, pu_LET, pu_OX0, pu_BND, pu_NZ, pu_BL, pu_m1, nI_add, pk_sub, pk_mul, pk_div, nI_clamp, pu_eq, pu_ne, pu_le_t, pu_le_f, pu_lt_t, pu_lt_f, pu_nm, pu_mm, pu_u2e, pu_u2n, ↓reduceIte, li0, li1, li2, li3, li4, li5, li6, li7, li8, li9, li10, li11, li12, li13, li14, li15, li16, li17, li18, li19, li20, li21, li22, li23, li24, li25, li26, li27, li28, li29, li30, li31, li32, li33, li34, li35, li36, li37, li38, li39, li40, li41, li42, li43, li44, li45, li46, li47, li48, li49, li50, li51, li52, li53, li54, li55, li56, li57, li58, li59, li60, li64, li72, li87, li97, li98, li99, li100, li101, li102, li103, li104, li105, li108, li109, li110, li111, li112, li114, li115, li116, li117, li119, li120, li124, li126, li132, li139, li140, li148, li156, li1000, li1092, li1248, cl_rob_S, fX9_recordedOfBand_L4b, cl_row, e1, ih n (i + 1)]
  have hk := key 4 m 0 0 (by omega) (by omega)
  rw [Nat.zero_add] at hk
  exact hk
def bbf (sc : Nat → Nat) (o b : Nat) : Bool := decide (gof sc b < gof sc o) || (gof sc o == gof sc b && (decide (sc (16 + o) < sc (16 + b)) || (sc (16 + o) == sc (16 + b) && decide (o < b))))
theorem bbf_t {sc : Nat → Nat} {o b : Nat} : bbf sc o b = true ↔ (gof sc b < gof sc o ∨ gof sc o = gof sc b ∧ (sc (16 + o) < sc (16 + b) ∨ sc (16 + o) = sc (16 + b) ∧ o < b)) := by simp [bbf]
theorem cl_bb {k o w : Nat} {A : AM} (hF : 2000 ≤ m) (hS : SR σ k A.1) {T' N' : Nat} (hs : IS A.1 0 T' N') (hT : T' < 10 ^ 7) (ho : o < 8) (hw : w < 8) : fX6_isBandBefore m k (nI o) (nI w) σ = some (nI (if bbf A.1 o w = true then 1 else 0), σ) := by
  have b1 := (hs.2.2.1 o ho).1
  have b2 := (hs.2.2.1 w hw).1
  have b3 := gof_le hs ho
  have b4 := gof_le hs hw
  have b5 := hs.1
  have e1 := cl_rob (m := m) hF hS ho
  have e2 := cl_rob (m := m) hF hS hw
  have e3 := hS.mesh ho
  have e4 := hS.mesh hw
  have ht := bbf_t (sc := A.1) (o := o) (b := w)
  unfold fX6_isBandBefore
  by_cases c : bbf A.1 o w = true
  · rw [if_pos c]
    have h := ht.mp c
    by_cases c1 : gof A.1 o = gof A.1 w
    · by_cases c2 : A.1 (16 + o) = A.1 (16 + w)
      · simp (disch := omega) only [pu_OB, pu_LET, pu_OX0, pu_BND, pu_NZ, pu_BL, pu_m1, nI_add, pk_sub, pk_mul, pk_div, nI_clamp, pu_eq, pu_ne, pu_le_t, pu_le_f, pu_lt_t, pu_lt_f, pu_nm, pu_mm, pu_u2e, pu_u2n, ↓reduceIte, li0, li1, li2, li3, li4, li5, li6, li7, li8, li9, li10, li11, li12, li13, li14, li15, li16, li17, li18, li19, li20, li21, li22, li23, li24, li25, li26, li27, li28, li29, li30, li31, li32, li33, li34, li35, li36, li37, li38, li39, li40, li41, li42, li43, li44, li45, li46, li47, li48, li49, li50, li51, li52, li53, li54, li55, li56, li57, li58, li59, li60, li64, li72, li87, li97, li98, li99, li100, li101, li102, li103, li104, li105, li108, li109, li110, li111, li112, li114, li115, li116, li117, li119, li120, li124, li126, li132, li139, li140, li148, li156, li1000, li1092, li1248, e1, e2, e3, e4]
      · simp (disch := omega) only [pu_OB, pu_LET, pu_OX0, pu_BND, pu_NZ, pu_BL, pu_m1, nI_add, pk_sub, pk_mul, pk_div, nI_clamp, pu_eq, pu_ne, pu_le_t, pu_le_f, pu_lt_t, pu_lt_f, pu_nm, pu_mm, pu_u2e, pu_u2n, ↓reduceIte, li0, li1, li2, li3, li4, li5, li6, li7, li8, li9, li10, li11, li12, li13, li14, li15, li16, li17, li18, li19, li20, li21, li22, li23, li24, li25, li26, li27, li28, li29, li30, li31, li32, li33, li34, li35, li36, li37, li38, li39, li40, li41, li42, li43, li44, li45, li46, li47, li48, li49, li50, li51, li52, li53, li54, li55, li56, li57, li58, li59, li60, li64, li72, li87, li97, li98, li99, li100, li101, li102, li103, li104, li105, li108, li109, li110, li111, li112, li114, li115, li116, li117, li119, li120, li124, li126, li132, li139, li140, li148, li156, li1000, li1092, li1248, e1, e2, e3, e4]
    · simp (disch := omega) only [pu_OB, pu_LET, pu_OX0, pu_BND, pu_NZ, pu_BL, pu_m1, nI_add, pk_sub, pk_mul, pk_div, nI_clamp, pu_eq, pu_ne, pu_le_t, pu_le_f, pu_lt_t, pu_lt_f, pu_nm, pu_mm, pu_u2e, pu_u2n, ↓reduceIte, li0, li1, li2, li3, li4, li5, li6, li7, li8, li9, li10, li11, li12, li13, li14, li15, li16, li17, li18, li19, li20, li21, li22, li23, li24, li25, li26, li27, li28, li29, li30, li31, li32, li33, li34, li35, li36, li37, li38, li39, li40, li41, li42, li43, li44, li45, li46, li47, li48, li49, li50, li51, li52, li53, li54, li55, li56, li57, li58, li59, li60, li64, li72, li87, li97, li98, li99, li100, li101, li102, li103, li104, li105, li108, li109, li110, li111, li112, li114, li115, li116, li117, li119, li120, li124, li126, li132, li139, li140, li148, li156, li1000, li1092, li1248, e1, e2, e3, e4]
  · rw [if_neg c]
    have h : ¬ _ := fun x => c (ht.mpr x)
    by_cases c1 : gof A.1 o = gof A.1 w
    · by_cases c2 : A.1 (16 + o) = A.1 (16 + w)
      · simp (disch := omega) only [pu_OB, pu_LET, pu_OX0, pu_BND, pu_NZ, pu_BL, pu_m1, nI_add, pk_sub, pk_mul, pk_div, nI_clamp, pu_eq, pu_ne, pu_le_t, pu_le_f, pu_lt_t, pu_lt_f, pu_nm, pu_mm, pu_u2e, pu_u2n, ↓reduceIte, li0, li1, li2, li3, li4, li5, li6, li7, li8, li9, li10, li11, li12, li13, li14, li15, li16, li17, li18, li19, li20, li21, li22, li23, li24, li25, li26, li27, li28, li29, li30, li31, li32, li33, li34, li35, li36, li37, li38, li39, li40, li41, li42, li43, li44, li45, li46, li47, li48, li49, li50, li51, li52, li53, li54, li55, li56, li57, li58, li59, li60, li64, li72, li87, li97, li98, li99, li100, li101, li102, li103, li104, li105, li108, li109, li110, li111, li112, li114, li115, li116, li117, li119, li120, li124, li126, li132, li139, li140, li148, li156, li1000, li1092, li1248, e1, e2, e3, e4]
      · simp (disch := omega) only [pu_OB, pu_LET, pu_OX0, pu_BND, pu_NZ, pu_BL, pu_m1, nI_add, pk_sub, pk_mul, pk_div, nI_clamp, pu_eq, pu_ne, pu_le_t, pu_le_f, pu_lt_t, pu_lt_f, pu_nm, pu_mm, pu_u2e, pu_u2n, ↓reduceIte, li0, li1, li2, li3, li4, li5, li6, li7, li8, li9, li10, li11, li12, li13, li14, li15, li16, li17, li18, li19, li20, li21, li22, li23, li24, li25, li26, li27, li28, li29, li30, li31, li32, li33, li34, li35, li36, li37, li38, li39, li40, li41, li42, li43, li44, li45, li46, li47, li48, li49, li50, li51, li52, li53, li54, li55, li56, li57, li58, li59, li60, li64, li72, li87, li97, li98, li99, li100, li101, li102, li103, li104, li105, li108, li109, li110, li111, li112, li114, li115, li116, li117, li119, li120, li124, li126, li132, li139, li140, li148, li156, li1000, li1092, li1248, e1, e2, e3, e4]
    · simp (disch := omega) only [pu_OB, pu_LET, pu_OX0, pu_BND, pu_NZ, pu_BL, pu_m1, nI_add, pk_sub, pk_mul, pk_div, nI_clamp, pu_eq, pu_ne, pu_le_t, pu_le_f, pu_lt_t, pu_lt_f, pu_nm, pu_mm, pu_u2e, pu_u2n, ↓reduceIte, li0, li1, li2, li3, li4, li5, li6, li7, li8, li9, li10, li11, li12, li13, li14, li15, li16, li17, li18, li19, li20, li21, li22, li23, li24, li25, li26, li27, li28, li29, li30, li31, li32, li33, li34, li35, li36, li37, li38, li39, li40, li41, li42, li43, li44, li45, li46, li47, li48, li49, li50, li51, li52, li53, li54, li55, li56, li57, li58, li59, li60, li64, li72, li87, li97, li98, li99, li100, li101, li102, li103, li104, li105, li108, li109, li110, li111, li112, li114, li115, li116, li117, li119, li120, li124, li126, li132, li139, li140, li148, li156, li1000, li1092, li1248, e1, e2, e3, e4]
theorem cl_cb_S (k r : Nat) (x1 x2 x3 : Int32) (σ : St) : fX6_countBandsBefore_L4 m k (r + 1) x1 x2 x3 σ = fX6_countBandsBefore_L4b m k (fX6_countBandsBefore_L4 m k r) x1 x2 x3 σ := rfl
theorem cl_cb {k w : Nat} {A : AM} (hF : 2000 ≤ m) (hS : SR σ k A.1) {T' N' : Nat} (hs : IS A.1 0 T' N') (hT : T' < 10 ^ 7) (hw : w < 8) : fX6_countBandsBefore m k (nI w) σ = some (nI (0 + sumF (fun o => if bbf A.1 o w = true then 1 else 0) 0 8), σ) := by
  have key : ∀ d n i x, i + d = 8 → d < n → fX6_countBandsBefore_L4 m k n (nI w) (nI x) (nI i) σ = some (nI (x + sumF (fun o => if bbf A.1 o w = true then 1 else 0) i d), σ) := by
    intro d
    induction d with
    | zero =>
      intro n i x h1 h2
      obtain ⟨n, rfl⟩ : ∃ q, n = q + 1 := ⟨n - 1, by omega⟩
      simp (disch := omega) only [pu_OB, pu_LET, pu_OX0, pu_BND, pu_NZ, pu_BL, pu_m1, nI_add, pk_sub, pk_mul, pk_div, nI_clamp, pu_eq, pu_ne, pu_le_t, pu_le_f, pu_lt_t, pu_lt_f, pu_nm, pu_mm, pu_u2e, pu_u2n, ↓reduceIte, li0, li1, li2, li3, li4, li5, li6, li7, li8, li9, li10, li11, li12, li13, li14, li15, li16, li17, li18, li19, li20, li21, li22, li23, li24, li25, li26, li27, li28, li29, li30, li31, li32, li33, li34, li35, li36, li37, li38, li39, li40, li41, li42, li43, li44, li45, li46, li47, li48, li49, li50, li51, li52, li53, li54, li55, li56, li57, li58, li59, li60, li64, li72, li87, li97, li98, li99, li100, li101, li102, li103, li104, li105, li108, li109, li110, li111, li112, li114, li115, li116, li117, li119, li120, li124, li126, li132, li139, li140, li148, li156, li1000, li1092, li1248, cl_cb_S, fX6_countBandsBefore_L4b, sumF_0, Nat.add_zero]
    | succ d ih =>
      intro n i x h1 h2
      obtain ⟨n, rfl⟩ : ∃ q, n = q + 1 := ⟨n - 1, by omega⟩
      have e1 := cl_bb (m := m) hF hS hs hT (show i < 8 by omega) hw
      rw [sumF_S]
      by_cases c : bbf A.1 i w = true
      · rw [if_pos c] at e1 ⊢
        simp (disch := omega) only [pu_OB, pu_LET, pu_OX0, pu_BND, pu_NZ, pu_BL, pu_m1, nI_add, pk_sub, pk_mul, pk_div, nI_clamp, pu_eq, pu_ne, pu_le_t, pu_le_f, pu_lt_t, pu_lt_f, pu_nm, pu_mm, pu_u2e, pu_u2n, ↓reduceIte, li0, li1, li2, li3, li4, li5, li6, li7, li8, li9, li10, li11, li12, li13, li14, li15, li16, li17, li18, li19, li20, li21, li22, li23, li24, li25, li26, li27, li28, li29, li30, li31, li32, li33, li34, li35, li36, li37, li38, li39, li40, li41, li42, li43, li44, li45, li46, li47, li48, li49, li50, li51, li52, li53, li54, li55, li56, li57, li58, li59, li60, li64, li72, li87, li97, li98, li99, li100, li101, li102, li103, li104, li105, li108, li109, li110, li111, li112, li114, li115, li116, li117, li119, li120, li124, li126, li132, li139, li140, li148, li156, li1000, li1092, li1248, cl_cb_S, fX6_countBandsBefore_L4b, fX6_countBandsBefore_B22, e1, ih n (i + 1), Nat.add_assoc]
      · rw [if_neg c] at e1 ⊢
        simp (disch := omega) only [pu_OB, pu_LET, pu_OX0, pu_BND, pu_NZ, pu_BL, pu_m1, nI_add, pk_sub, pk_mul, pk_div, nI_clamp, pu_eq, pu_ne, pu_le_t, pu_le_f, pu_lt_t, pu_lt_f, pu_nm, pu_mm, pu_u2e, pu_u2n, ↓reduceIte, li0, li1, li2, li3, li4, li5, li6, li7, li8, li9, li10, li11, li12, li13, li14, li15, li16, li17, li18, li19, li20, li21, li22, li23, li24, li25, li26, li27, li28, li29, li30, li31, li32, li33, li34, li35, li36, li37, li38, li39, li40, li41, li42, li43, li44, li45, li46, li47, li48, li49, li50, li51, li52, li53, li54, li55, li56, li57, li58, li59, li60, li64, li72, li87, li97, li98, li99, li100, li101, li102, li103, li104, li105, li108, li109, li110, li111, li112, li114, li115, li116, li117, li119, li120, li124, li126, li132, li139, li140, li148, li156, li1000, li1092, li1248, cl_cb_S, fX6_countBandsBefore_L4b, fX6_countBandsBefore_B22, e1, ih n (i + 1), Nat.zero_add]
  exact key 8 m 0 0 (by omega) (by omega)
theorem cl_br_S (r : Nat) (x1 x2 : Int32) (σ : St) : fX11_bandByGrains_L2 m (r + 1) x1 x2 σ = fX11_bandByGrains_L2b m (fX11_bandByGrains_L2 m r) x1 x2 σ := rfl
-- the queue: a list of slots
def QR (σ : St) (Q : List Nat) : Prop := σ 212 1 = nI Q.length ∧ Q.length ≤ 12 ∧ ∀ i, i < Q.length → σ 213 i = nI (Q.getD i 0)
def rmQ (Q : List Nat) (q : Nat) : List Nat := (Q.set q (Q.getD (Q.length - 1) 0)).dropLast
theorem nset_getD {L : List Nat} {e i j : Nat} (h : i < L.length) : (L.set i e).getD j 0 = if j = i then e else L.getD j 0 := by
  rw [List.getD_eq_getElem?_getD, List.getD_eq_getElem?_getD, List.getElem?_set]
  by_cases hj : i = j
  · subst hj
    rw [if_pos rfl, if_pos h, if_pos rfl]
    rfl
  · rw [if_neg hj, if_neg (fun q => hj q.symm)]
theorem rmQ_len {Q : List Nat} {q : Nat} : (rmQ Q q).length = Q.length - 1 := by
  unfold rmQ
  rw [List.length_dropLast, List.length_set]
theorem rmQ_get {Q : List Nat} {q j : Nat} (hq : q < Q.length) (hj : j < Q.length - 1) : (rmQ Q q).getD j 0 = if j = q then Q.getD (Q.length - 1) 0 else Q.getD j 0 := by
  unfold rmQ
  rw [List.getD_eq_getElem?_getD, List.getElem?_dropLast, List.length_set, if_pos hj, ← List.getD_eq_getElem?_getD, nset_getD hq]
theorem nset_perm {l : Nat} : ∀ {V : List Nat} {q : Nat}, q < V.length → (l :: V).Perm (V.getD q 0 :: V.set q l) := by
  intro V
  induction V with
  | nil => intro q h; cases h
  | cons a V ih =>
    intro q h
    cases q with
    | zero => exact List.Perm.swap _ _ _
    | succ q =>
      rw [List.getD_cons_succ, List.set_cons_succ]
      exact (List.Perm.swap a l V).trans (((ih (Nat.lt_of_succ_lt_succ h)).cons a).trans (List.Perm.swap _ _ _))
theorem nap_getD {L : List Nat} {e : Nat} {j : Nat} (h : j ≤ L.length) : (L ++ [e]).getD j 0 = if j = L.length then e else L.getD j 0 := by
  rw [List.getD_eq_getElem?_getD, List.getD_eq_getElem?_getD]
  by_cases hj : j = L.length
  · rw [if_pos hj, hj, List.getElem?_append_right (Nat.le_refl _)]
    simp
  · rw [if_neg hj, List.getElem?_append_left (by omega)]
theorem rmQ_perm {W : List Nat} {q : Nat} (hq : q < W.length) : W.Perm (W.getD q 0 :: rmQ W q) := by
  rcases List.eq_nil_or_concat W with rfl | ⟨V, l, rfl⟩
  · cases hq
  · rw [List.concat_eq_append] at hq ⊢
    have hl : (V ++ [l]).length = V.length + 1 := by rw [List.length_append]; rfl
    rw [hl] at hq
    have hlast : (V ++ [l]).getD ((V ++ [l]).length - 1) 0 = l := by
      rw [hl, Nat.add_sub_cancel, nap_getD (Nat.le_refl _), if_pos rfl]
    unfold rmQ
    rw [hlast]
    by_cases c : q = V.length
    · subst c
      rw [nap_getD (Nat.le_refl _), if_pos rfl, List.set_append_right _ _ (Nat.le_refl _), Nat.sub_self, List.set_cons_zero, List.dropLast_concat]
      exact List.perm_append_singleton _ _
    · rw [nap_getD (by omega), if_neg c, List.set_append_left _ _ (by omega), List.dropLast_concat]
      exact (List.perm_append_singleton _ _).trans (nset_perm (by omega))
theorem nmem_getD {L : List Nat} {e : Nat} (h : e ∈ L) : ∃ p, p < L.length ∧ L.getD p 0 = e := by
  obtain ⟨p, hp, he⟩ := List.getElem_of_mem h
  exact ⟨p, hp, by rw [List.getD_eq_getElem?_getD, List.getElem?_eq_getElem hp]; exact he⟩
theorem ngetD_mem {L : List Nat} {p : Nat} (h : p < L.length) : L.getD p 0 ∈ L := by
  rw [List.getD_eq_getElem?_getD, List.getElem?_eq_getElem h]
  exact List.getElem_mem h
theorem cl_fill_S (k1 r : Nat) (x : Int32) (σ : St) : fX10_fill_L15 m k1 (r + 1) x σ = fX10_fill_L15b m k1 (fX10_fill_L15 m k1 r) x σ := rfl
theorem cl_fill {sc : Nat → Nat} {L W : List E4} {n : Nat} (hF : 2000 ≤ m) (hn : NRW σ n sc L W) (hl : W.length ≤ 12) : ∃ τ, fX10_fill m n σ = some (nI 0, τ) ∧ QR τ (List.range W.length) ∧ ∀ c, c ≠ 212 → c ≠ 213 → τ c = σ c := by
  have h5 := hn.2.1
  have key : ∀ d r i (τ : St), i + d = W.length → d < r → τ 212 1 = nI W.length → (∀ j, j < i → τ 213 j = nI j) → ∃ υ, fX10_fill_L15 m n r (nI i) τ = some (nI 0, υ) ∧ υ 212 1 = nI W.length ∧ (∀ j, j < W.length → υ 213 j = nI j) ∧ ∀ c, c ≠ 212 → c ≠ 213 → υ c = τ c := by
    intro d
    induction d with
    | zero =>
      intro r i τ h1 h2 h3 h4
      obtain ⟨r, rfl⟩ : ∃ q, r = q + 1 := ⟨r - 1, by omega⟩
      refine ⟨τ, ?_, h3, fun j hj => h4 j (by omega), fun c a b => rfl⟩
      simp (disch := omega) only [pu_OB, pu_LET, pu_OX0, pu_BND, pu_NZ, pu_BL, pu_m1, nI_add, pk_sub, pk_mul, pk_div, nI_clamp, pu_eq, pu_ne, pu_le_t, pu_le_f, pu_lt_t, pu_lt_f, pu_nm, pu_mm, pu_u2e, pu_u2n, ↓reduceIte, li0, li1, li2, li3, li4, li5, li6, li7, li8, li9, li10, li11, li12, li13, li14, li15, li16, li17, li18, li19, li20, li21, li22, li23, li24, li25, li26, li27, li28, li29, li30, li31, li32, li33, li34, li35, li36, li37, li38, li39, li40, li41, li42, li43, li44, li45, li46, li47, li48, li49, li50, li51, li52, li53, li54, li55, li56, li57, li58, li59, li60, li64, li72, li87, li97, li98, li99, li100, li101, li102, li103, li104, li105, li108, li109, li110, li111, li112, li114, li115, li116, li117, li119, li120, li124, li126, li132, li139, li140, li148, li156, li1000, li1092, li1248, cl_fill_S, fX10_fill_L15b, h3]
    | succ d ih =>
      intro r i τ h1 h2 h3 h4
      obtain ⟨r, rfl⟩ : ∃ q, r = q + 1 := ⟨r - 1, by omega⟩
      obtain ⟨υ, u1, u2', u3, u4⟩ := ih r (i + 1) (u2 τ 213 i (nI i)) (by omega) (by omega) (by rw [pu_u2n (by omega)]; exact h3) (fun j hj => by
        by_cases c : j = i
        · rw [c, pu_u2e ⟨rfl, rfl⟩]
        · rw [pu_u2n (by omega)]
          exact h4 j (by omega))
      refine ⟨υ, ?_, u2', u3, fun c a b => by rw [u4 c a b, pu_u2r b]⟩
      simp (disch := omega) only [pu_OB, pu_LET, pu_OX0, pu_BND, pu_NZ, pu_BL, pu_m1, nI_add, pk_sub, pk_mul, pk_div, nI_clamp, pu_eq, pu_ne, pu_le_t, pu_le_f, pu_lt_t, pu_lt_f, pu_nm, pu_mm, pu_u2e, pu_u2n, ↓reduceIte, li0, li1, li2, li3, li4, li5, li6, li7, li8, li9, li10, li11, li12, li13, li14, li15, li16, li17, li18, li19, li20, li21, li22, li23, li24, li25, li26, li27, li28, li29, li30, li31, li32, li33, li34, li35, li36, li37, li38, li39, li40, li41, li42, li43, li44, li45, li46, li47, li48, li49, li50, li51, li52, li53, li54, li55, li56, li57, li58, li59, li60, li64, li72, li87, li97, li98, li99, li100, li101, li102, li103, li104, li105, li108, li109, li110, li111, li112, li114, li115, li116, li117, li119, li120, li124, li126, li132, li139, li140, li148, li156, li1000, li1092, li1248, cl_fill_S, fX10_fill_L15b, h3, u1]
  obtain ⟨υ, u1, u2', u3, u4⟩ := key W.length m 0 (u2 σ 212 1 (nI W.length)) (by omega) (by omega) (pu_u2e ⟨rfl, rfl⟩) (fun j hj => absurd hj (Nat.not_lt_zero _))
  have e7 : (if 12 < W.length then 12 else W.length) = W.length := if_neg (by omega)
  refine ⟨υ, ?_, ⟨by rw [List.length_range]; exact u2', by rw [List.length_range]; exact hl, fun i hi => ?_⟩, fun c a b => by rw [u4 c a b, pu_u2r a]⟩
  · unfold fX10_fill
    simp (disch := omega) only [pu_OB, pu_LET, pu_OX0, pu_BND, pu_NZ, pu_BL, pu_m1, nI_add, pk_sub, pk_mul, pk_div, nI_clamp, pu_eq, pu_ne, pu_le_t, pu_le_f, pu_lt_t, pu_lt_f, pu_nm, pu_mm, pu_u2e, pu_u2n, ↓reduceIte, li0, li1, li2, li3, li4, li5, li6, li7, li8, li9, li10, li11, li12, li13, li14, li15, li16, li17, li18, li19, li20, li21, li22, li23, li24, li25, li26, li27, li28, li29, li30, li31, li32, li33, li34, li35, li36, li37, li38, li39, li40, li41, li42, li43, li44, li45, li46, li47, li48, li49, li50, li51, li52, li53, li54, li55, li56, li57, li58, li59, li60, li64, li72, li87, li97, li98, li99, li100, li101, li102, li103, li104, li105, li108, li109, li110, li111, li112, li114, li115, li116, li117, li119, li120, li124, li126, li132, li139, li140, li148, li156, li1000, li1092, li1248, h5, cl_min, e7, u1]
  · rw [List.length_range] at hi
    rw [u3 i hi, List.getD_eq_getElem?_getD, List.getElem?_range hi]
    rfl
theorem cl_take_S (k1 r : Nat) (x1 x2 : Int32) (σ : St) : fX10_take_L13 m k1 (r + 1) x1 x2 σ = fX10_take_L13b m k1 (fX10_take_L13 m k1 r) x1 x2 σ := rfl
/-- the queue gives the first of its slots -/
theorem cl_qtake {sc : Nat → Nat} {L W : List E4} {n : Nat} {Q : List Nat} (hF : 2000 ≤ m) (hn : NRW σ n sc L W) (hI : IN sc L) (hB : sc 1 < 2 ^ 30) (hn9 : n < 200) (hQ : QR σ Q) (h0 : 0 < Q.length) (hm : ∀ q ∈ Q, q < W.length) (hnd : Q.Nodup) :
    ∃ f τ, f < Q.length ∧ fX10_take m n σ = some (nI (Q.getD f 0), τ) ∧ QR τ (rmQ Q f) ∧ (∀ o ∈ Q, o ≠ Q.getD f 0 → bef (W.getD (Q.getD f 0) z4) (W.getD o z4) = true) ∧ ∀ c, c ≠ 212 → c ≠ 213 → τ c = σ c := by
  obtain ⟨q1, q2, q3⟩ := hQ
  have hlen : W.length ≤ 12 := by rw [hn.len]; exact hI.2.2.1
  have hWnd := hn.nd hI
  have hix : ∀ i, i < Q.length → Q.getD i 0 < W.length := fun i hi => hm _ (ngetD_mem hi)
  have hinj : ∀ i j, i < Q.length → j < Q.length → Q.getD i 0 = Q.getD j 0 → i = j := fun i j hi hj e => by
    exact (List.getD_inj hi hj hnd).mp e
  have key : ∀ d r i x, i + d = Q.length → d < r → x < Q.length → (∀ j, j < i → j ≠ x → bef (W.getD (Q.getD x 0) z4) (W.getD (Q.getD j 0) z4) = true) → ∃ f τ, f < Q.length ∧ fX10_take_L13 m n r (nI x) (nI i) σ = some (nI (Q.getD f 0), τ) ∧ QR τ (rmQ Q f) ∧ (∀ j, j < Q.length → j ≠ f → bef (W.getD (Q.getD f 0) z4) (W.getD (Q.getD j 0) z4) = true) ∧ ∀ c, c ≠ 212 → c ≠ 213 → τ c = σ c := by
    intro d
    induction d with
    | zero =>
      intro r i x h1 h2 h3 h4
      obtain ⟨r, rfl⟩ : ∃ q, r = q + 1 := ⟨r - 1, by omega⟩
      have e1 := q3 x h3
      have e2 := q3 (Q.length - 1) (by omega)
      refine ⟨x, u2 (u2 σ 212 1 (nI (Q.length - 1))) 213 x (nI (Q.getD (Q.length - 1) 0)), h3, ?_, ⟨?_, ?_, fun i hi => ?_⟩, fun j hj => h4 j (by omega), fun c a b => by rw [pu_u2r b, pu_u2r a]⟩
      · simp (disch := omega) only [pu_OB, pu_LET, pu_OX0, pu_BND, pu_NZ, pu_BL, pu_m1, nI_add, pk_sub, pk_mul, pk_div, nI_clamp, pu_eq, pu_ne, pu_le_t, pu_le_f, pu_lt_t, pu_lt_f, pu_nm, pu_mm, pu_u2e, pu_u2n, ↓reduceIte, li0, li1, li2, li3, li4, li5, li6, li7, li8, li9, li10, li11, li12, li13, li14, li15, li16, li17, li18, li19, li20, li21, li22, li23, li24, li25, li26, li27, li28, li29, li30, li31, li32, li33, li34, li35, li36, li37, li38, li39, li40, li41, li42, li43, li44, li45, li46, li47, li48, li49, li50, li51, li52, li53, li54, li55, li56, li57, li58, li59, li60, li64, li72, li87, li97, li98, li99, li100, li101, li102, li103, li104, li105, li108, li109, li110, li111, li112, li114, li115, li116, li117, li119, li120, li124, li126, li132, li139, li140, li148, li156, li1000, li1092, li1248, cl_take_S, fX10_take_L13b, q1, e1, e2]
      · rw [pu_u2n (by omega), pu_u2e ⟨rfl, rfl⟩, rmQ_len]
      · rw [rmQ_len]
        omega
      · rw [rmQ_len] at hi
        rw [rmQ_get h3 hi]
        by_cases c : i = x
        · rw [if_pos c, pu_u2e ⟨rfl, c⟩]
        · rw [if_neg c, pu_u2n (by omega), pu_u2n (by omega)]
          exact q3 i (by omega)
    | succ d ih =>
      intro r i x h1 h2 h3 h4
      obtain ⟨r, rfl⟩ : ∃ q, r = q + 1 := ⟨r - 1, by omega⟩
      have hi : i < Q.length := by omega
      have e1 := q3 x h3
      have e2 := q3 i hi
      have b1 := hix x h3
      have b2 := hix i hi
      by_cases hb9 : bef (W.getD (Q.getD i 0) z4) (W.getD (Q.getD x 0) z4) = true
      · obtain ⟨f, τ, f1, f2, f3, f4, f5⟩ := ih r (i + 1) i (by omega) (by omega) hi (fun j hj hne => by
          by_cases c : j = x
          · rw [c]
            exact hb9
          · have g1 := bef_t.mp hb9
            have g2 := bef_t.mp (h4 j (by omega) c)
            rw [bef_t]
            omega)
        refine ⟨f, τ, f1, ?_, f3, f4, f5⟩
        simp (disch := omega) only [pu_OB, pu_LET, pu_OX0, pu_BND, pu_NZ, pu_BL, pu_m1, nI_add, pk_sub, pk_mul, pk_div, nI_clamp, pu_eq, pu_ne, pu_le_t, pu_le_f, pu_lt_t, pu_lt_f, pu_nm, pu_mm, pu_u2e, pu_u2n, ↓reduceIte, li0, li1, li2, li3, li4, li5, li6, li7, li8, li9, li10, li11, li12, li13, li14, li15, li16, li17, li18, li19, li20, li21, li22, li23, li24, li25, li26, li27, li28, li29, li30, li31, li32, li33, li34, li35, li36, li37, li38, li39, li40, li41, li42, li43, li44, li45, li46, li47, li48, li49, li50, li51, li52, li53, li54, li55, li56, li57, li58, li59, li60, li64, li72, li87, li97, li98, li99, li100, li101, li102, li103, li104, li105, li108, li109, li110, li111, li112, li114, li115, li116, li117, li119, li120, li124, li126, li132, li139, li140, li148, li156, li1000, li1092, li1248, cl_take_S, fX10_take_L13b, q1, e1, e2, cl_isBefore_t (show Q.getD i 0 < 15 by omega) (show Q.getD x 0 < 15 by omega) (hn.2.2.1 _ b2) (hn.2.2.1 _ b1) (hn.bd hI hB b2) (hn.bd hI hB b1) hb9, fX10_take_B42]
        exact f2
      · replace hb9 := Bool.eq_false_iff.mpr hb9
        obtain ⟨f, τ, f1, f2, f3, f4, f5⟩ := ih r (i + 1) x (by omega) (by omega) h3 (fun j hj hne => by
          by_cases c : j = i
          · subst c
            have g1 : (W.getD (Q.getD j 0) z4).1 ≠ (W.getD (Q.getD x 0) z4).1 := fun g => hne (hinj _ _ hi h3 (nd_ix hWnd b2 b1 g))
            rcases bef_tri g1 with g | g
            · rw [hb9] at g
              cases g
            · exact g
          · exact h4 j (by omega) hne)
        refine ⟨f, τ, f1, ?_, f3, f4, f5⟩
        simp (disch := omega) only [pu_OB, pu_LET, pu_OX0, pu_BND, pu_NZ, pu_BL, pu_m1, nI_add, pk_sub, pk_mul, pk_div, nI_clamp, pu_eq, pu_ne, pu_le_t, pu_le_f, pu_lt_t, pu_lt_f, pu_nm, pu_mm, pu_u2e, pu_u2n, ↓reduceIte, li0, li1, li2, li3, li4, li5, li6, li7, li8, li9, li10, li11, li12, li13, li14, li15, li16, li17, li18, li19, li20, li21, li22, li23, li24, li25, li26, li27, li28, li29, li30, li31, li32, li33, li34, li35, li36, li37, li38, li39, li40, li41, li42, li43, li44, li45, li46, li47, li48, li49, li50, li51, li52, li53, li54, li55, li56, li57, li58, li59, li60, li64, li72, li87, li97, li98, li99, li100, li101, li102, li103, li104, li105, li108, li109, li110, li111, li112, li114, li115, li116, li117, li119, li120, li124, li126, li132, li139, li140, li148, li156, li1000, li1092, li1248, cl_take_S, fX10_take_L13b, q1, e1, e2, cl_isBefore_f (show Q.getD i 0 < 15 by omega) (show Q.getD x 0 < 15 by omega) (hn.2.2.1 _ b2) (hn.2.2.1 _ b1) (hn.bd hI hB b2) (hn.bd hI hB b1) hb9, fX10_take_B42]
        exact f2
  obtain ⟨f, τ, f1, f2, f3, f4, f5⟩ := key (Q.length - 1) m 1 0 (by omega) (by omega) h0 (fun j hj hne => by omega)
  refine ⟨f, τ, f1, ?_, f3, fun o ho hne => ?_, f5⟩
  · unfold fX10_take
    simp (disch := omega) only [pu_OB, pu_LET, pu_OX0, pu_BND, pu_NZ, pu_BL, pu_m1, nI_add, pk_sub, pk_mul, pk_div, nI_clamp, pu_eq, pu_ne, pu_le_t, pu_le_f, pu_lt_t, pu_lt_f, pu_nm, pu_mm, pu_u2e, pu_u2n, ↓reduceIte, li0, li1, li2, li3, li4, li5, li6, li7, li8, li9, li10, li11, li12, li13, li14, li15, li16, li17, li18, li19, li20, li21, li22, li23, li24, li25, li26, li27, li28, li29, li30, li31, li32, li33, li34, li35, li36, li37, li38, li39, li40, li41, li42, li43, li44, li45, li46, li47, li48, li49, li50, li51, li52, li53, li54, li55, li56, li57, li58, li59, li60, li64, li72, li87, li97, li98, li99, li100, li101, li102, li103, li104, li105, li108, li109, li110, li111, li112, li114, li115, li116, li117, li119, li120, li124, li126, li132, li139, li140, li148, li156, li1000, li1092, li1248, q1]
    exact f2
  · obtain ⟨j, hj, rfl⟩ := nmem_getD ho
    exact f4 j hj fun c => hne (by rw [c])
end PR

