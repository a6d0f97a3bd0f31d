-- ===== the mill's noises: reads =====
def CR (σ : St) (k : Nat) (A : AM) : Prop := SR σ k A.1 ∧ NR σ (k + 1) A.1 A.2
theorem NRW.len {σ : St} {n : Nat} {sc : Nat → Nat} {L W : List E4} (h : NRW σ n sc L W) : W.length = L.countP (wt sc) := by rw [h.1.length_eq, cnt_len]
theorem NRW.mem {σ : St} {n : Nat} {sc : Nat → Nat} {L W : List E4} (h : NRW σ n sc L W) {e : E4} : e ∈ W ↔ e ∈ L ∧ wt sc e = true := by rw [h.1.mem_iff, List.mem_filter]
theorem NRW.nd {σ : St} {n : Nat} {sc : Nat → Nat} {L W : List E4} (h : NRW σ n sc L W) (hI : IN sc L) : (W.map (·.1)).Nodup := (h.1.map (·.1)).symm.nodup ((List.filter_sublist.map _).nodup hI.1)
theorem NRW.at {σ : St} {n : Nat} {sc : Nat → Nat} {L W : List E4} (h : NRW σ n sc L W) {q : Nat} (hq : q < W.length) : W.getD q z4 ∈ L ∧ wt sc (W.getD q z4) = true := h.mem.mp (getD_mem hq)
theorem NRW.rk {σ : St} {n : Nat} {sc : Nat → Nat} {L W : List E4} (h : NRW σ n sc L W) (e : E4) : W.countP (fun o => bef o e) = rk sc L e := by
  rw [h.1.countP_eq, List.countP_filter]
  exact List.countP_congr fun o _ => by rw [Bool.and_comm]
section CL
variable {σ : St} {n m : Nat} {sc : Nat → Nat} {L W : List E4}
theorem cl_min {a b : Nat} (ha : a < 2 ^ 31) (hb9 : b < 2 ^ 31) : fJ9_min_7cf53 (nI a) (nI b) σ = some (nI (if b < a then b else a), σ) := by
  unfold fJ9_min_7cf53
  by_cases c : b < a
  · simp (disch := omega) only [pu_OB, pu_LET, pu_OX0, pu_BND, pu_NZ, pu_BL, pu_m1, nI_add, pk_sub, pk_mul, pk_div, nI_clamp, pu_eq, pu_ne, pu_le_t, pu_le_f, pu_lt_t, pu_lt_f, pu_nm, pu_mm, pu_u2e, pu_u2n, ↓reduceIte, li0, li1, li2, li3, li4, li5, li6, li7, li8, li9, li10, li11, li12, li13, li14, li15, li16, li17, li18, li19, li20, li21, li22, li23, li24, li25, li26, li27, li28, li29, li30, li31, li32, li33, li34, li35, li36, li37, li38, li39, li40, li41, li42, li43, li44, li45, li46, li47, li48, li49, li50, li51, li52, li53, li54, li55, li56, li57, li58, li59, li60, li64, li72, li87, li97, li98, li99, li100, li101, li102, li103, li104, li105, li108, li109, li110, li111, li112, li114, li115, li116, li117, li119, li120, li124, li126, li132, li139, li140, li148, li156, li1000, li1092, li1248, if_pos c]
  · simp (disch := omega) only [pu_OB, pu_LET, pu_OX0, pu_BND, pu_NZ, pu_BL, pu_m1, nI_add, pk_sub, pk_mul, pk_div, nI_clamp, pu_eq, pu_ne, pu_le_t, pu_le_f, pu_lt_t, pu_lt_f, pu_nm, pu_mm, pu_u2e, pu_u2n, ↓reduceIte, li0, li1, li2, li3, li4, li5, li6, li7, li8, li9, li10, li11, li12, li13, li14, li15, li16, li17, li18, li19, li20, li21, li22, li23, li24, li25, li26, li27, li28, li29, li30, li31, li32, li33, li34, li35, li36, li37, li38, li39, li40, li41, li42, li43, li44, li45, li46, li47, li48, li49, li50, li51, li52, li53, li54, li55, li56, li57, li58, li59, li60, li64, li72, li87, li97, li98, li99, li100, li101, li102, li103, li104, li105, li108, li109, li110, li111, li112, li114, li115, li116, li117, li119, li120, li124, li126, li132, li139, li140, li148, li156, li1000, li1092, li1248, if_neg c]
theorem cl_max {a b : Nat} (ha : a < 2 ^ 31) (hb9 : b < 2 ^ 31) : fJ9_max_7cf53 (nI a) (nI b) σ = some (nI (if a < b then b else a), σ) := by
  unfold fJ9_max_7cf53
  by_cases c : a < b
  · simp (disch := omega) only [pu_OB, pu_LET, pu_OX0, pu_BND, pu_NZ, pu_BL, pu_m1, nI_add, pk_sub, pk_mul, pk_div, nI_clamp, pu_eq, pu_ne, pu_le_t, pu_le_f, pu_lt_t, pu_lt_f, pu_nm, pu_mm, pu_u2e, pu_u2n, ↓reduceIte, li0, li1, li2, li3, li4, li5, li6, li7, li8, li9, li10, li11, li12, li13, li14, li15, li16, li17, li18, li19, li20, li21, li22, li23, li24, li25, li26, li27, li28, li29, li30, li31, li32, li33, li34, li35, li36, li37, li38, li39, li40, li41, li42, li43, li44, li45, li46, li47, li48, li49, li50, li51, li52, li53, li54, li55, li56, li57, li58, li59, li60, li64, li72, li87, li97, li98, li99, li100, li101, li102, li103, li104, li105, li108, li109, li110, li111, li112, li114, li115, li116, li117, li119, li120, li124, li126, li132, li139, li140, li148, li156, li1000, li1092, li1248, if_pos c]
  · simp (disch := omega) only [pu_OB, pu_LET, pu_OX0, pu_BND, pu_NZ, pu_BL, pu_m1, nI_add, pk_sub, pk_mul, pk_div, nI_clamp, pu_eq, pu_ne, pu_le_t, pu_le_f, pu_lt_t, pu_lt_f, pu_nm, pu_mm, pu_u2e, pu_u2n, ↓reduceIte, li0, li1, li2, li3, li4, li5, li6, li7, li8, li9, li10, li11, li12, li13, li14, li15, li16, li17, li18, li19, li20, li21, li22, li23, li24, li25, li26, li27, li28, li29, li30, li31, li32, li33, li34, li35, li36, li37, li38, li39, li40, li41, li42, li43, li44, li45, li46, li47, li48, li49, li50, li51, li52, li53, li54, li55, li56, li57, li58, li59, li60, li64, li72, li87, li97, li98, li99, li100, li101, li102, li103, li104, li105, li108, li109, li110, li111, li112, li114, li115, li116, li117, li119, li120, li124, li126, li132, li139, li140, li148, li156, li1000, li1092, li1248, if_neg c]
theorem nI_xor {a b : Nat} (ha : a < 2 ^ 31) (hb9 : b < 2 ^ 31) : nI 0 ≤ nI a ^^^ nI b := by
  have e : nI a ^^^ nI b = nI (a ^^^ b) := by
    apply Int32.toBitVec_inj.mp
    rw [Int32.toBitVec_xor]
    apply BitVec.eq_of_toNat_eq
    rw [BitVec.toNat_xor, pk_tn (by omega), pk_tn (by omega), pk_tn (Nat.xor_lt_two_pow (by omega) (by omega))]
  rw [e]
  exact nI_pos' (Nat.xor_lt_two_pow ha hb9)
theorem cl_floorMod {a : Nat} (ha : a < 2 ^ 31) : fJ9_floorMod_7cf53 (nI a) (nI 8) σ = some (nI (a % 8), σ) := by
  have e : nI a - nI a / nI 8 * nI 8 = nI (a % 8) := pk_rem ha (by omega) (by omega)
  have h := nI_xor ha (show 8 < 2 ^ 31 by omega)
  unfold fJ9_floorMod_7cf53
  rw [pu_NZ (by omega) (by omega), pu_LET, e]
  exact if_pos h
theorem cl_floorMod_neg : fJ9_floorMod_7cf53 (-1) (nI 8) σ = some (nI 7, σ) := by
  unfold fJ9_floorMod_7cf53
  rfl
theorem cl_slotOn {w : Nat} : fX7_slotOn (nI w) σ = some (nI (12 + w), σ) := by
  unfold fX7_slotOn
  simp (disch := omega) only [pu_OB, pu_LET, pu_OX0, pu_BND, pu_NZ, pu_BL, pu_m1, nI_add, pk_sub, pk_mul, pk_div, nI_clamp, pu_eq, pu_ne, pu_le_t, pu_le_f, pu_lt_t, pu_lt_f, pu_nm, pu_mm, pu_u2e, pu_u2n, ↓reduceIte, li0, li1, li2, li3, li4, li5, li6, li7, li8, li9, li10, li11, li12, li13, li14, li15, li16, li17, li18, li19, li20, li21, li22, li23, li24, li25, li26, li27, li28, li29, li30, li31, li32, li33, li34, li35, li36, li37, li38, li39, li40, li41, li42, li43, li44, li45, li46, li47, li48, li49, li50, li51, li52, li53, li54, li55, li56, li57, li58, li59, li60, li64, li72, li87, li97, li98, li99, li100, li101, li102, li103, li104, li105, li108, li109, li110, li111, li112, li114, li115, li116, li117, li119, li120, li124, li126, li132, li139, li140, li148, li156, li1000, li1092, li1248]
theorem cl_isHeld (hn : NRW σ n sc L W) {w : Nat} (hw : w < 3) : fX7_isHeld n (nI w) σ = some (nI (hflag (sc (13 + w))), σ) := by
  have e := (hn.2.2.2 w hw).1
  have hf : hflag (sc (13 + w)) ≤ 1 := by
    unfold hflag
    split <;> omega
  unfold fX7_isHeld
  simp (disch := omega) only [pu_OB, pu_LET, pu_OX0, pu_BND, pu_NZ, pu_BL, pu_m1, nI_add, pk_sub, pk_mul, pk_div, nI_clamp, pu_eq, pu_ne, pu_le_t, pu_le_f, pu_lt_t, pu_lt_f, pu_nm, pu_mm, pu_u2e, pu_u2n, ↓reduceIte, li0, li1, li2, li3, li4, li5, li6, li7, li8, li9, li10, li11, li12, li13, li14, li15, li16, li17, li18, li19, li20, li21, li22, li23, li24, li25, li26, li27, li28, li29, li30, li31, li32, li33, li34, li35, li36, li37, li38, li39, li40, li41, li42, li43, li44, li45, li46, li47, li48, li49, li50, li51, li52, li53, li54, li55, li56, li57, li58, li59, li60, li64, li72, li87, li97, li98, li99, li100, li101, li102, li103, li104, li105, li108, li109, li110, li111, li112, li114, li115, li116, li117, li119, li120, li124, li126, li132, li139, li140, li148, li156, li1000, li1092, li1248, e]
theorem cl_slotOf30_S (k : Nat) (x i : Int32) (σ : St) : fX7_slotOf_L30 m n (k + 1) x i σ = fX7_slotOf_L30b m n (fX7_slotOf_L30 m n k) x i σ := rfl
theorem cl_slotOf2_S (k : Nat) (x i : Int32) (σ : St) : fX7_slotOf_L2 m n (k + 1) x i σ = fX7_slotOf_L2b m n (fX7_slotOf_L2 m n k) x i σ := rfl
theorem cl_wheel (hn : NRW σ n sc L W) (hI : IN sc L) {w : Nat} (hw : w < 3) : (sc (13 + w) = 0 ∧ σ (n + 5) w = nI 0) ∨ ∃ e ∈ L, sc (13 + w) = e.1 + 1 ∧ σ (n + 5) w = nI 1 ∧ slotE σ n (12 + w) e := by
  have h := hn.2.2.2 w hw
  rcases hI.2.2.2.1 w hw with q | ⟨e, he, q⟩
  · refine Or.inl ⟨q, ?_⟩
    rw [h.1, q]
    rfl
  · refine Or.inr ⟨e, he, q, ?_, h.2 e he q⟩
    rw [h.1]
    unfold hflag
    rw [if_neg (by omega)]
theorem cl_slotOf2 {x : Int32} (hn : NRW σ n sc L W) (hI : IN sc L) (hx : ∀ q, q < W.length → nI (W.getD q z4).1 ≠ x) (hF : 2000 ≤ m) : fX7_slotOf m n x σ = fX7_slotOf_L30 m n m x (nI 0) σ := by
  have hlen : W.length ≤ 12 := by rw [hn.len]; exact hI.2.2.1
  have hN1 := hn.2.1
  have key : ∀ d q i, i + d = W.length → d < q → fX7_slotOf_L2 m n q x (nI i) σ = fX7_slotOf_L30 m n m x (nI 0) σ := by
    intro d
    induction d with
    | zero =>
      intro q i h1 h2
      obtain ⟨r, rfl⟩ : ∃ r, q = r + 1 := ⟨q - 1, by omega⟩
      simp (disch := omega) only [pu_OB, pu_LET, pu_OX0, pu_BND, pu_NZ, pu_BL, pu_m1, nI_add, pk_sub, pk_mul, pk_div, nI_clamp, pu_eq, pu_ne, pu_le_t, pu_le_f, pu_lt_t, pu_lt_f, pu_nm, pu_mm, pu_u2e, pu_u2n, ↓reduceIte, li0, li1, li2, li3, li4, li5, li6, li7, li8, li9, li10, li11, li12, li13, li14, li15, li16, li17, li18, li19, li20, li21, li22, li23, li24, li25, li26, li27, li28, li29, li30, li31, li32, li33, li34, li35, li36, li37, li38, li39, li40, li41, li42, li43, li44, li45, li46, li47, li48, li49, li50, li51, li52, li53, li54, li55, li56, li57, li58, li59, li60, li64, li72, li87, li97, li98, li99, li100, li101, li102, li103, li104, li105, li108, li109, li110, li111, li112, li114, li115, li116, li117, li119, li120, li124, li126, li132, li139, li140, li148, li156, li1000, li1092, li1248, cl_slotOf2_S, fX7_slotOf_L2b, hN1]
    | succ d ih =>
      intro q i h1 h2
      obtain ⟨r, rfl⟩ : ∃ r, q = r + 1 := ⟨q - 1, by omega⟩
      have e1 := (hn.2.2.1 i (by omega)).1
      have e2 := hx i (by omega)
      simp (disch := omega) only [pu_OB, pu_LET, pu_OX0, pu_BND, pu_NZ, pu_BL, pu_m1, nI_add, pk_sub, pk_mul, pk_div, nI_clamp, pu_eq, pu_ne, pu_le_t, pu_le_f, pu_lt_t, pu_lt_f, pu_nm, pu_mm, pu_u2e, pu_u2n, ↓reduceIte, li0, li1, li2, li3, li4, li5, li6, li7, li8, li9, li10, li11, li12, li13, li14, li15, li16, li17, li18, li19, li20, li21, li22, li23, li24, li25, li26, li27, li28, li29, li30, li31, li32, li33, li34, li35, li36, li37, li38, li39, li40, li41, li42, li43, li44, li45, li46, li47, li48, li49, li50, li51, li52, li53, li54, li55, li56, li57, li58, li59, li60, li64, li72, li87, li97, li98, li99, li100, li101, li102, li103, li104, li105, li108, li109, li110, li111, li112, li114, li115, li116, li117, li119, li120, li124, li126, li132, li139, li140, li148, li156, li1000, li1092, li1248, cl_slotOf2_S, fX7_slotOf_L2b, hN1, e1, if_neg e2, ih r (i + 1)]
  exact key W.length m 0 (by omega) (by omega)
theorem cl_slotOf_x {x : Int32} (hn : NRW σ n sc L W) (hI : IN sc L) (hB : sc 1 < 2 ^ 30) (hF : 2000 ≤ m) (hx : ∀ e ∈ L, nI e.1 ≠ x) : fX7_slotOf m n x σ = some (mI, σ) := by
  rw [cl_slotOf2 hn hI (fun q hq => hx _ (hn.at hq).1) hF]
  have key : ∀ d q i, i + d = 3 → d < q → fX7_slotOf_L30 m n q x (nI i) σ = some (mI, σ) := by
    intro d
    induction d with
    | zero =>
      intro q i h1 h2
      obtain ⟨r, rfl⟩ : ∃ r, q = r + 1 := ⟨q - 1, by omega⟩
      simp (disch := omega) only [pu_OB, pu_LET, pu_OX0, pu_BND, pu_NZ, pu_BL, pu_m1, nI_add, pk_sub, pk_mul, pk_div, nI_clamp, pu_eq, pu_ne, pu_le_t, pu_le_f, pu_lt_t, pu_lt_f, pu_nm, pu_mm, pu_u2e, pu_u2n, ↓reduceIte, li0, li1, li2, li3, li4, li5, li6, li7, li8, li9, li10, li11, li12, li13, li14, li15, li16, li17, li18, li19, li20, li21, li22, li23, li24, li25, li26, li27, li28, li29, li30, li31, li32, li33, li34, li35, li36, li37, li38, li39, li40, li41, li42, li43, li44, li45, li46, li47, li48, li49, li50, li51, li52, li53, li54, li55, li56, li57, li58, li59, li60, li64, li72, li87, li97, li98, li99, li100, li101, li102, li103, li104, li105, li108, li109, li110, li111, li112, li114, li115, li116, li117, li119, li120, li124, li126, li132, li139, li140, li148, li156, li1000, li1092, li1248, cl_slotOf30_S, fX7_slotOf_L30b]
    | succ d ih =>
      intro q i h1 h2
      obtain ⟨r, rfl⟩ : ∃ r, q = r + 1 := ⟨q - 1, by omega⟩
      rcases cl_wheel hn hI (show i < 3 by omega) with ⟨-, e1⟩ | ⟨e, he, -, e1, e2⟩
      · simp (disch := omega) only [pu_OB, pu_LET, pu_OX0, pu_BND, pu_NZ, pu_BL, pu_m1, nI_add, pk_sub, pk_mul, pk_div, nI_clamp, pu_eq, pu_ne, pu_le_t, pu_le_f, pu_lt_t, pu_lt_f, pu_nm, pu_mm, pu_u2e, pu_u2n, ↓reduceIte, li0, li1, li2, li3, li4, li5, li6, li7, li8, li9, li10, li11, li12, li13, li14, li15, li16, li17, li18, li19, li20, li21, li22, li23, li24, li25, li26, li27, li28, li29, li30, li31, li32, li33, li34, li35, li36, li37, li38, li39, li40, li41, li42, li43, li44, li45, li46, li47, li48, li49, li50, li51, li52, li53, li54, li55, li56, li57, li58, li59, li60, li64, li72, li87, li97, li98, li99, li100, li101, li102, li103, li104, li105, li108, li109, li110, li111, li112, li114, li115, li116, li117, li119, li120, li124, li126, li132, li139, li140, li148, li156, li1000, li1092, li1248, cl_slotOf30_S, fX7_slotOf_L30b, e1, fX7_slotOf_B62, ih r (i + 1)]
      · have e3 := hx e he
        have e4 := e2.1
        simp (disch := omega) only [pu_OB, pu_LET, pu_OX0, pu_BND, pu_NZ, pu_BL, pu_m1, nI_add, pk_sub, pk_mul, pk_div, nI_clamp, pu_eq, pu_ne, pu_le_t, pu_le_f, pu_lt_t, pu_lt_f, pu_nm, pu_mm, pu_u2e, pu_u2n, ↓reduceIte, li0, li1, li2, li3, li4, li5, li6, li7, li8, li9, li10, li11, li12, li13, li14, li15, li16, li17, li18, li19, li20, li21, li22, li23, li24, li25, li26, li27, li28, li29, li30, li31, li32, li33, li34, li35, li36, li37, li38, li39, li40, li41, li42, li43, li44, li45, li46, li47, li48, li49, li50, li51, li52, li53, li54, li55, li56, li57, li58, li59, li60, li64, li72, li87, li97, li98, li99, li100, li101, li102, li103, li104, li105, li108, li109, li110, li111, li112, li114, li115, li116, li117, li119, li120, li124, li126, li132, li139, li140, li148, li156, li1000, li1092, li1248, cl_slotOf30_S, fX7_slotOf_L30b, e1, cl_slotOn, e4, if_neg e3, fX7_slotOf_B62, ih r (i + 1)]
  exact key 3 m 0 (by omega) (by omega)
theorem cl_slotOf_h {w : Nat} {e : E4} (hn : NRW σ n sc L W) (hI : IN sc L) (hB : sc 1 < 2 ^ 30) (hF : 2000 ≤ m) (hw : w < 3) (he : e ∈ L) (hh : sc (13 + w) = e.1 + 1) : fX7_slotOf m n (nI e.1) σ = some (nI (12 + w), σ) := by
  have he1 := (hI.2.1 e he).1
  rw [cl_slotOf2 hn hI (fun q hq => ?_) hF]
  · have key : ∀ d q i, i + d = w → d < q → fX7_slotOf_L30 m n q (nI e.1) (nI i) σ = some (nI (12 + w), σ) := by
      intro d
      induction d with
      | zero =>
        intro q i h1 h2
        obtain ⟨r, rfl⟩ : ∃ r, q = r + 1 := ⟨q - 1, by omega⟩
        obtain rfl : i = w := by omega
        rcases cl_wheel hn hI (show i < 3 by omega) with ⟨q1, -⟩ | ⟨f, hf, q1, e1, e2⟩
        · omega
        · obtain rfl : f = e := nd_inj hI.1 hf he (by omega)
          have e4 := e2.1
          simp (disch := omega) only [pu_OB, pu_LET, pu_OX0, pu_BND, pu_NZ, pu_BL, pu_m1, nI_add, pk_sub, pk_mul, pk_div, nI_clamp, pu_eq, pu_ne, pu_le_t, pu_le_f, pu_lt_t, pu_lt_f, pu_nm, pu_mm, pu_u2e, pu_u2n, ↓reduceIte, li0, li1, li2, li3, li4, li5, li6, li7, li8, li9, li10, li11, li12, li13, li14, li15, li16, li17, li18, li19, li20, li21, li22, li23, li24, li25, li26, li27, li28, li29, li30, li31, li32, li33, li34, li35, li36, li37, li38, li39, li40, li41, li42, li43, li44, li45, li46, li47, li48, li49, li50, li51, li52, li53, li54, li55, li56, li57, li58, li59, li60, li64, li72, li87, li97, li98, li99, li100, li101, li102, li103, li104, li105, li108, li109, li110, li111, li112, li114, li115, li116, li117, li119, li120, li124, li126, li132, li139, li140, li148, li156, li1000, li1092, li1248, cl_slotOf30_S, fX7_slotOf_L30b, e1, cl_slotOn, e4]
      | succ d ih =>
        intro q i h1 h2
        obtain ⟨r, rfl⟩ : ∃ r, q = r + 1 := ⟨q - 1, by omega⟩
        rcases cl_wheel hn hI (show i < 3 by omega) with ⟨-, e1⟩ | ⟨f, hf, q1, e1, e2⟩
        · simp (disch := omega) only [pu_OB, pu_LET, pu_OX0, pu_BND, pu_NZ, pu_BL, pu_m1, nI_add, pk_sub, pk_mul, pk_div, nI_clamp, pu_eq, pu_ne, pu_le_t, pu_le_f, pu_lt_t, pu_lt_f, pu_nm, pu_mm, pu_u2e, pu_u2n, ↓reduceIte, li0, li1, li2, li3, li4, li5, li6, li7, li8, li9, li10, li11, li12, li13, li14, li15, li16, li17, li18, li19, li20, li21, li22, li23, li24, li25, li26, li27, li28, li29, li30, li31, li32, li33, li34, li35, li36, li37, li38, li39, li40, li41, li42, li43, li44, li45, li46, li47, li48, li49, li50, li51, li52, li53, li54, li55, li56, li57, li58, li59, li60, li64, li72, li87, li97, li98, li99, li100, li101, li102, li103, li104, li105, li108, li109, li110, li111, li112, li114, li115, li116, li117, li119, li120, li124, li126, li132, li139, li140, li148, li156, li1000, li1092, li1248, cl_slotOf30_S, fX7_slotOf_L30b, e1, fX7_slotOf_B62, ih r (i + 1)]
        · have hf1 := (hI.2.1 f hf).1
          have e3 : f.1 ≠ e.1 := fun q => by
            have := hI.2.2.2.2.1 i w (by omega) hw (by omega)
            omega
          have e4 := e2.1
          simp (disch := omega) only [pu_OB, pu_LET, pu_OX0, pu_BND, pu_NZ, pu_BL, pu_m1, nI_add, pk_sub, pk_mul, pk_div, nI_clamp, pu_eq, pu_ne, pu_le_t, pu_le_f, pu_lt_t, pu_lt_f, pu_nm, pu_mm, pu_u2e, pu_u2n, ↓reduceIte, li0, li1, li2, li3, li4, li5, li6, li7, li8, li9, li10, li11, li12, li13, li14, li15, li16, li17, li18, li19, li20, li21, li22, li23, li24, li25, li26, li27, li28, li29, li30, li31, li32, li33, li34, li35, li36, li37, li38, li39, li40, li41, li42, li43, li44, li45, li46, li47, li48, li49, li50, li51, li52, li53, li54, li55, li56, li57, li58, li59, li60, li64, li72, li87, li97, li98, li99, li100, li101, li102, li103, li104, li105, li108, li109, li110, li111, li112, li114, li115, li116, li117, li119, li120, li124, li126, li132, li139, li140, li148, li156, li1000, li1092, li1248, cl_slotOf30_S, fX7_slotOf_L30b, e1, cl_slotOn, e4, fX7_slotOf_B62, ih r (i + 1)]
    exact key w m 0 (by omega) (by omega)
  · intro h
    have h2 := hn.at hq
    have h3 := (hI.2.1 _ h2.1).1
    have h4 := (nI_eq (by omega) (by omega)).mp h
    have h5 := nd_inj hI.1 h2.1 he h4
    have h6 := h2.2
    rw [h5, wt_held hw hh] at h6
    cases h6
theorem cl_slotOf_w {q : Nat} (hn : NRW σ n sc L W) (hI : IN sc L) (hB : sc 1 < 2 ^ 30) (hF : 2000 ≤ m) (hq : q < W.length) : fX7_slotOf m n (nI (W.getD q z4).1) σ = some (nI q, σ) := by
  have hlen : W.length ≤ 12 := by rw [hn.len]; exact hI.2.2.1
  have hN1 := hn.2.1
  have hnd := hn.nd hI
  have hb9 : ∀ j, j < W.length → (W.getD j z4).1 < sc 1 := fun j hj => (hI.2.1 _ (hn.at hj).1).1
  have key : ∀ d r i, i + d = q → d < r → fX7_slotOf_L2 m n r (nI (W.getD q z4).1) (nI i) σ = some (nI q, σ) := by
    intro d
    induction d with
    | zero =>
      intro r i h1 h2
      obtain ⟨r, rfl⟩ : ∃ q, r = q + 1 := ⟨r - 1, by omega⟩
      obtain rfl : i = q := by omega
      have e1 := (hn.2.2.1 i (by omega)).1
      simp (disch := omega) only [pu_OB, pu_LET, pu_OX0, pu_BND, pu_NZ, pu_BL, pu_m1, nI_add, pk_sub, pk_mul, pk_div, nI_clamp, pu_eq, pu_ne, pu_le_t, pu_le_f, pu_lt_t, pu_lt_f, pu_nm, pu_mm, pu_u2e, pu_u2n, ↓reduceIte, li0, li1, li2, li3, li4, li5, li6, li7, li8, li9, li10, li11, li12, li13, li14, li15, li16, li17, li18, li19, li20, li21, li22, li23, li24, li25, li26, li27, li28, li29, li30, li31, li32, li33, li34, li35, li36, li37, li38, li39, li40, li41, li42, li43, li44, li45, li46, li47, li48, li49, li50, li51, li52, li53, li54, li55, li56, li57, li58, li59, li60, li64, li72, li87, li97, li98, li99, li100, li101, li102, li103, li104, li105, li108, li109, li110, li111, li112, li114, li115, li116, li117, li119, li120, li124, li126, li132, li139, li140, li148, li156, li1000, li1092, li1248, cl_slotOf2_S, fX7_slotOf_L2b, hN1, e1]
    | succ d ih =>
      intro r i h1 h2
      obtain ⟨r, rfl⟩ : ∃ q, r = q + 1 := ⟨r - 1, by omega⟩
      have e1 := (hn.2.2.1 i (by omega)).1
      have e2 : (W.getD i z4).1 ≠ (W.getD q z4).1 := fun h => by
        have := nd_ix hnd (show i < W.length by omega) hq h
        omega
      have e3 := hb9 i (by omega)
      have e4 := hb9 q hq
      simp (disch := omega) only [pu_OB, pu_LET, pu_OX0, pu_BND, pu_NZ, pu_BL, pu_m1, nI_add, pk_sub, pk_mul, pk_div, nI_clamp, pu_eq, pu_ne, pu_le_t, pu_le_f, pu_lt_t, pu_lt_f, pu_nm, pu_mm, pu_u2e, pu_u2n, ↓reduceIte, li0, li1, li2, li3, li4, li5, li6, li7, li8, li9, li10, li11, li12, li13, li14, li15, li16, li17, li18, li19, li20, li21, li22, li23, li24, li25, li26, li27, li28, li29, li30, li31, li32, li33, li34, li35, li36, li37, li38, li39, li40, li41, li42, li43, li44, li45, li46, li47, li48, li49, li50, li51, li52, li53, li54, li55, li56, li57, li58, li59, li60, li64, li72, li87, li97, li98, li99, li100, li101, li102, li103, li104, li105, li108, li109, li110, li111, li112, li114, li115, li116, li117, li119, li120, li124, li126, li132, li139, li140, li148, li156, li1000, li1092, li1248, cl_slotOf2_S, fX7_slotOf_L2b, hN1, e1, ih r (i + 1)]
  exact key q m 0 (by omega) (by omega)
theorem cl_isBefore_t {p q : Nat} {e f : E4} (hp : p < 15) (hq : q < 15) (ep : slotE σ n p e) (eq : slotE σ n q f) (he : e.1 < 2 ^ 30 ∧ e.2.2.1 < 100) (hf : f.1 < 2 ^ 30 ∧ f.2.2.1 < 100) (h : bef e f = true) : fX7_isBefore n (nI p) (nI q) σ = some (nI 1, σ) := by
  have h1 := bef_t.mp h
  unfold fX7_isBefore
  by_cases c : f.2.2.1 = e.2.2.1
  · simp (disch := omega) only [pu_OB, pu_LET, pu_OX0, pu_BND, pu_NZ, pu_BL, pu_m1, nI_add, pk_sub, pk_mul, pk_div, nI_clamp, pu_eq, pu_ne, pu_le_t, pu_le_f, pu_lt_t, pu_lt_f, pu_nm, pu_mm, pu_u2e, pu_u2n, ↓reduceIte, li0, li1, li2, li3, li4, li5, li6, li7, li8, li9, li10, li11, li12, li13, li14, li15, li16, li17, li18, li19, li20, li21, li22, li23, li24, li25, li26, li27, li28, li29, li30, li31, li32, li33, li34, li35, li36, li37, li38, li39, li40, li41, li42, li43, li44, li45, li46, li47, li48, li49, li50, li51, li52, li53, li54, li55, li56, li57, li58, li59, li60, li64, li72, li87, li97, li98, li99, li100, li101, li102, li103, li104, li105, li108, li109, li110, li111, li112, li114, li115, li116, li117, li119, li120, li124, li126, li132, li139, li140, li148, li156, li1000, li1092, li1248, ep.1, ep.2.2.1, eq.1, eq.2.2.1]
  · simp (disch := omega) only [pu_OB, pu_LET, pu_OX0, pu_BND, pu_NZ, pu_BL, pu_m1, nI_add, pk_sub, pk_mul, pk_div, nI_clamp, pu_eq, pu_ne, pu_le_t, pu_le_f, pu_lt_t, pu_lt_f, pu_nm, pu_mm, pu_u2e, pu_u2n, ↓reduceIte, li0, li1, li2, li3, li4, li5, li6, li7, li8, li9, li10, li11, li12, li13, li14, li15, li16, li17, li18, li19, li20, li21, li22, li23, li24, li25, li26, li27, li28, li29, li30, li31, li32, li33, li34, li35, li36, li37, li38, li39, li40, li41, li42, li43, li44, li45, li46, li47, li48, li49, li50, li51, li52, li53, li54, li55, li56, li57, li58, li59, li60, li64, li72, li87, li97, li98, li99, li100, li101, li102, li103, li104, li105, li108, li109, li110, li111, li112, li114, li115, li116, li117, li119, li120, li124, li126, li132, li139, li140, li148, li156, li1000, li1092, li1248, ep.1, ep.2.2.1, eq.1, eq.2.2.1]
theorem cl_isBefore_f {p q : Nat} {e f : E4} (hp : p < 15) (hq : q < 15) (ep : slotE σ n p e) (eq : slotE σ n q f) (he : e.1 < 2 ^ 30 ∧ e.2.2.1 < 100) (hf : f.1 < 2 ^ 30 ∧ f.2.2.1 < 100) (h : bef e f = false) : fX7_isBefore n (nI p) (nI q) σ = some (nI 0, σ) := by
  have h1 : ¬ _ := fun x => absurd (bef_t.mpr x) (by rw [h]; exact Bool.false_ne_true)
  unfold fX7_isBefore
  by_cases c : f.2.2.1 = e.2.2.1
  · simp (disch := omega) only [pu_OB, pu_LET, pu_OX0, pu_BND, pu_NZ, pu_BL, pu_m1, nI_add, pk_sub, pk_mul, pk_div, nI_clamp, pu_eq, pu_ne, pu_le_t, pu_le_f, pu_lt_t, pu_lt_f, pu_nm, pu_mm, pu_u2e, pu_u2n, ↓reduceIte, li0, li1, li2, li3, li4, li5, li6, li7, li8, li9, li10, li11, li12, li13, li14, li15, li16, li17, li18, li19, li20, li21, li22, li23, li24, li25, li26, li27, li28, li29, li30, li31, li32, li33, li34, li35, li36, li37, li38, li39, li40, li41, li42, li43, li44, li45, li46, li47, li48, li49, li50, li51, li52, li53, li54, li55, li56, li57, li58, li59, li60, li64, li72, li87, li97, li98, li99, li100, li101, li102, li103, li104, li105, li108, li109, li110, li111, li112, li114, li115, li116, li117, li119, li120, li124, li126, li132, li139, li140, li148, li156, li1000, li1092, li1248, ep.1, ep.2.2.1, eq.1, eq.2.2.1]
  · simp (disch := omega) only [pu_OB, pu_LET, pu_OX0, pu_BND, pu_NZ, pu_BL, pu_m1, nI_add, pk_sub, pk_mul, pk_div, nI_clamp, pu_eq, pu_ne, pu_le_t, pu_le_f, pu_lt_t, pu_lt_f, pu_nm, pu_mm, pu_u2e, pu_u2n, ↓reduceIte, li0, li1, li2, li3, li4, li5, li6, li7, li8, li9, li10, li11, li12, li13, li14, li15, li16, li17, li18, li19, li20, li21, li22, li23, li24, li25, li26, li27, li28, li29, li30, li31, li32, li33, li34, li35, li36, li37, li38, li39, li40, li41, li42, li43, li44, li45, li46, li47, li48, li49, li50, li51, li52, li53, li54, li55, li56, li57, li58, li59, li60, li64, li72, li87, li97, li98, li99, li100, li101, li102, li103, li104, li105, li108, li109, li110, li111, li112, li114, li115, li116, li117, li119, li120, li124, li126, li132, li139, li140, li148, li156, li1000, li1092, li1248, ep.1, ep.2.2.1, eq.1, eq.2.2.1]
theorem NRW.bd (hn : NRW σ n sc L W) (hI : IN sc L) (hB : sc 1 < 2 ^ 30) {q : Nat} (hq : q < W.length) : (W.getD q z4).1 < 2 ^ 30 ∧ (W.getD q z4).2.2.1 < 100 := by
  have := hI.2.1 _ (hn.at hq).1
  omega
theorem cl_first_S (k : Nat) (x i : Int32) (σ : St) : fX7_firstWaiting_L4 m n (k + 1) x i σ = fX7_firstWaiting_L4b m n (fX7_firstWaiting_L4 m n k) x i σ := rfl
theorem cl_first_none (hn : NRW σ n sc L W) (h0 : W.length = 0) (hF : 2000 ≤ m) : fX7_firstWaiting m n σ = some (mI, σ) := by
  have hN1 := hn.2.1
  have key : ∀ q, 1 ≤ q → fX7_firstWaiting_L4 m n q mI (nI 0) σ = some (mI, σ) := by
    intro q h
    obtain ⟨r, rfl⟩ : ∃ r, q = r + 1 := ⟨q - 1, by omega⟩
    simp (disch := omega) only [pu_OB, pu_LET, pu_OX0, pu_BND, pu_NZ, pu_BL, pu_m1, nI_add, pk_sub, pk_mul, pk_div, nI_clamp, pu_eq, pu_ne, pu_le_t, pu_le_f, pu_lt_t, pu_lt_f, pu_nm, pu_mm, pu_u2e, pu_u2n, ↓reduceIte, li0, li1, li2, li3, li4, li5, li6, li7, li8, li9, li10, li11, li12, li13, li14, li15, li16, li17, li18, li19, li20, li21, li22, li23, li24, li25, li26, li27, li28, li29, li30, li31, li32, li33, li34, li35, li36, li37, li38, li39, li40, li41, li42, li43, li44, li45, li46, li47, li48, li49, li50, li51, li52, li53, li54, li55, li56, li57, li58, li59, li60, li64, li72, li87, li97, li98, li99, li100, li101, li102, li103, li104, li105, li108, li109, li110, li111, li112, li114, li115, li116, li117, li119, li120, li124, li126, li132, li139, li140, li148, li156, li1000, li1092, li1248, cl_first_S, fX7_firstWaiting_L4b, hN1]
  exact key m (by omega)
theorem cl_first (hn : NRW σ n sc L W) (hI : IN sc L) (hB : sc 1 < 2 ^ 30) (h0 : 0 < W.length) (hF : 2000 ≤ m) : ∃ q, q < W.length ∧ fX7_firstWaiting m n σ = some (nI q, σ) ∧ rk sc L (W.getD q z4) = 0 := by
  have hlen : W.length ≤ 12 := by rw [hn.len]; exact hI.2.2.1
  have hN1 := hn.2.1
  have hnd := hn.nd hI
  have key : ∀ d r i x, i + d = W.length → d < r → x < W.length → (∀ j, j < i → j ≠ x → bef (W.getD x z4) (W.getD j z4) = true) → ∃ q, q < W.length ∧ fX7_firstWaiting_L4 m n r (nI x) (nI i) σ = some (nI q, σ) ∧ ∀ j, j < W.length → j ≠ q → bef (W.getD q z4) (W.getD j z4) = true := by
    intro d
    induction d with
    | zero =>
      intro r i x h1 h2 h3 h4
      obtain ⟨r, rfl⟩ : ∃ q, r = q + 1 := ⟨r - 1, by omega⟩
      refine ⟨x, h3, ?_, fun j hj => h4 j (by omega)⟩
      simp (disch := omega) only [pu_OB, pu_LET, pu_OX0, pu_BND, pu_NZ, pu_BL, pu_m1, nI_add, pk_sub, pk_mul, pk_div, nI_clamp, pu_eq, pu_ne, pu_le_t, pu_le_f, pu_lt_t, pu_lt_f, pu_nm, pu_mm, pu_u2e, pu_u2n, ↓reduceIte, li0, li1, li2, li3, li4, li5, li6, li7, li8, li9, li10, li11, li12, li13, li14, li15, li16, li17, li18, li19, li20, li21, li22, li23, li24, li25, li26, li27, li28, li29, li30, li31, li32, li33, li34, li35, li36, li37, li38, li39, li40, li41, li42, li43, li44, li45, li46, li47, li48, li49, li50, li51, li52, li53, li54, li55, li56, li57, li58, li59, li60, li64, li72, li87, li97, li98, li99, li100, li101, li102, li103, li104, li105, li108, li109, li110, li111, li112, li114, li115, li116, li117, li119, li120, li124, li126, li132, li139, li140, li148, li156, li1000, li1092, li1248, cl_first_S, fX7_firstWaiting_L4b, hN1]
    | succ d ih =>
      intro r i x h1 h2 h3 h4
      obtain ⟨r, rfl⟩ : ∃ q, r = q + 1 := ⟨r - 1, by omega⟩
      have hi : i < W.length := by omega
      by_cases hb9 : bef (W.getD i z4) (W.getD x z4) = true
      · obtain ⟨q, q1, q2, q3⟩ := ih r (i + 1) i (by omega) (by omega) hi (fun j hj hne => by
          by_cases c : j = x
          · rw [c]
            exact hb9
          · have g1 := bef_t.mp hb9
            have g2 := bef_t.mp (h4 j (by omega) c)
            rw [bef_t]
            omega)
        refine ⟨q, q1, ?_, q3⟩
        simp (disch := omega) only [pu_OB, pu_LET, pu_OX0, pu_BND, pu_NZ, pu_BL, pu_m1, nI_add, pk_sub, pk_mul, pk_div, nI_clamp, pu_eq, pu_ne, pu_le_t, pu_le_f, pu_lt_t, pu_lt_f, pu_nm, pu_mm, pu_u2e, pu_u2n, ↓reduceIte, li0, li1, li2, li3, li4, li5, li6, li7, li8, li9, li10, li11, li12, li13, li14, li15, li16, li17, li18, li19, li20, li21, li22, li23, li24, li25, li26, li27, li28, li29, li30, li31, li32, li33, li34, li35, li36, li37, li38, li39, li40, li41, li42, li43, li44, li45, li46, li47, li48, li49, li50, li51, li52, li53, li54, li55, li56, li57, li58, li59, li60, li64, li72, li87, li97, li98, li99, li100, li101, li102, li103, li104, li105, li108, li109, li110, li111, li112, li114, li115, li116, li117, li119, li120, li124, li126, li132, li139, li140, li148, li156, li1000, li1092, li1248, cl_first_S, fX7_firstWaiting_L4b, hN1, cl_isBefore_t (show i < 15 by omega) (show x < 15 by omega) (hn.2.2.1 i hi) (hn.2.2.1 x h3) (hn.bd hI hB hi) (hn.bd hI hB h3) hb9, fX7_firstWaiting_B26, fX7_firstWaiting_B28]
        exact q2
      · replace hb9 := Bool.eq_false_iff.mpr hb9
        obtain ⟨q, q1, q2, q3⟩ := ih r (i + 1) x (by omega) (by omega) h3 (fun j hj hne => by
          by_cases c : j = i
          · subst c
            have g1 : (W.getD j z4).1 ≠ (W.getD x z4).1 := fun g => hne (nd_ix hnd hi h3 g)
            rcases bef_tri g1 with g | g
            · rw [hb9] at g
              cases g
            · exact g
          · exact h4 j (by omega) hne)
        refine ⟨q, q1, ?_, q3⟩
        simp (disch := omega) only [pu_OB, pu_LET, pu_OX0, pu_BND, pu_NZ, pu_BL, pu_m1, nI_add, pk_sub, pk_mul, pk_div, nI_clamp, pu_eq, pu_ne, pu_le_t, pu_le_f, pu_lt_t, pu_lt_f, pu_nm, pu_mm, pu_u2e, pu_u2n, ↓reduceIte, li0, li1, li2, li3, li4, li5, li6, li7, li8, li9, li10, li11, li12, li13, li14, li15, li16, li17, li18, li19, li20, li21, li22, li23, li24, li25, li26, li27, li28, li29, li30, li31, li32, li33, li34, li35, li36, li37, li38, li39, li40, li41, li42, li43, li44, li45, li46, li47, li48, li49, li50, li51, li52, li53, li54, li55, li56, li57, li58, li59, li60, li64, li72, li87, li97, li98, li99, li100, li101, li102, li103, li104, li105, li108, li109, li110, li111, li112, li114, li115, li116, li117, li119, li120, li124, li126, li132, li139, li140, li148, li156, li1000, li1092, li1248, cl_first_S, fX7_firstWaiting_L4b, hN1, cl_isBefore_f (show i < 15 by omega) (show x < 15 by omega) (hn.2.2.1 i hi) (hn.2.2.1 x h3) (hn.bd hI hB hi) (hn.bd hI hB h3) hb9, fX7_firstWaiting_B28]
        exact q2
  obtain ⟨r, hr⟩ : ∃ r, m = r + 1 := ⟨m - 1, by omega⟩
  obtain ⟨q, q1, q2, q3⟩ := key (W.length - 1) r 1 0 (by omega) (by omega) h0 (fun j hj hne => by omega)
  refine ⟨q, q1, ?_, ?_⟩
  · have e : fX7_firstWaiting_L4 m n (r + 1) mI (nI 0) σ = some (nI q, σ) := by
      simp (disch := omega) only [pu_OB, pu_LET, pu_OX0, pu_BND, pu_NZ, pu_BL, pu_m1, nI_add, pk_sub, pk_mul, pk_div, nI_clamp, pu_eq, pu_ne, pu_le_t, pu_le_f, pu_lt_t, pu_lt_f, pu_nm, pu_mm, pu_u2e, pu_u2n, ↓reduceIte, li0, li1, li2, li3, li4, li5, li6, li7, li8, li9, li10, li11, li12, li13, li14, li15, li16, li17, li18, li19, li20, li21, li22, li23, li24, li25, li26, li27, li28, li29, li30, li31, li32, li33, li34, li35, li36, li37, li38, li39, li40, li41, li42, li43, li44, li45, li46, li47, li48, li49, li50, li51, li52, li53, li54, li55, li56, li57, li58, li59, li60, li64, li72, li87, li97, li98, li99, li100, li101, li102, li103, li104, li105, li108, li109, li110, li111, li112, li114, li115, li116, li117, li119, li120, li124, li126, li132, li139, li140, li148, li156, li1000, li1092, li1248, cl_first_S, fX7_firstWaiting_L4b, hN1, fX7_firstWaiting_B26, fX7_firstWaiting_B28, q2]
    rw [← hr] at e
    exact e
  · rw [← hn.rk]
    apply List.countP_eq_zero.mpr
    intro o ho hb9
    obtain ⟨j, hj, rfl⟩ := mem_getD ho
    by_cases c : j = q
    · subst c
      have := bef_t.mp hb9
      omega
    · have g1 := bef_t.mp (q3 j hj c)
      have g2 := bef_t.mp hb9
      omega
theorem cl_cnt_S (k : Nat) (x c i : Int32) (σ : St) : fX7_countBefore_L11 m n (k + 1) x c i σ = fX7_countBefore_L11b m n (fX7_countBefore_L11 m n k) x c i σ := rfl
theorem cl_countBefore {q : Nat} {e : E4} (hn : NRW σ n sc L W) (hI : IN sc L) (hB : sc 1 < 2 ^ 30) (hF : 2000 ≤ m) (hq : q < 15) (eq : slotE σ n q e) (he : e.1 < 2 ^ 30 ∧ e.2.2.1 < 100) : fX7_countBefore m n (nI q) σ = some (nI (rk sc L e), σ) := by
  have hlen : W.length ≤ 12 := by rw [hn.len]; exact hI.2.2.1
  have hN1 := hn.2.1
  have key : ∀ d r i c, i + d = W.length → d < r → fX7_countBefore_L11 m n r (nI q) (nI c) (nI i) σ = some (nI (c + sumF (fun j => if bef (W.getD j z4) e = true then 1 else 0) i d), σ) := by
    intro d
    induction d with
    | zero =>
      intro r i c h1 h2
      obtain ⟨r, rfl⟩ : ∃ q, r = q + 1 := ⟨r - 1, by omega⟩
      simp (disch := omega) only [pu_OB, pu_LET, pu_OX0, pu_BND, pu_NZ, pu_BL, pu_m1, nI_add, pk_sub, pk_mul, pk_div, nI_clamp, pu_eq, pu_ne, pu_le_t, pu_le_f, pu_lt_t, pu_lt_f, pu_nm, pu_mm, pu_u2e, pu_u2n, ↓reduceIte, li0, li1, li2, li3, li4, li5, li6, li7, li8, li9, li10, li11, li12, li13, li14, li15, li16, li17, li18, li19, li20, li21, li22, li23, li24, li25, li26, li27, li28, li29, li30, li31, li32, li33, li34, li35, li36, li37, li38, li39, li40, li41, li42, li43, li44, li45, li46, li47, li48, li49, li50, li51, li52, li53, li54, li55, li56, li57, li58, li59, li60, li64, li72, li87, li97, li98, li99, li100, li101, li102, li103, li104, li105, li108, li109, li110, li111, li112, li114, li115, li116, li117, li119, li120, li124, li126, li132, li139, li140, li148, li156, li1000, li1092, li1248, cl_cnt_S, fX7_countBefore_L11b, hN1, sumF_0, Nat.add_zero]
    | succ d ih =>
      intro r i c h1 h2
      obtain ⟨r, rfl⟩ : ∃ q, r = q + 1 := ⟨r - 1, by omega⟩
      have hi : i < W.length := by omega
      rw [sumF_S]
      by_cases hb9 : bef (W.getD i z4) e = true
      · simp (disch := omega) only [pu_OB, pu_LET, pu_OX0, pu_BND, pu_NZ, pu_BL, pu_m1, nI_add, pk_sub, pk_mul, pk_div, nI_clamp, pu_eq, pu_ne, pu_le_t, pu_le_f, pu_lt_t, pu_lt_f, pu_nm, pu_mm, pu_u2e, pu_u2n, ↓reduceIte, li0, li1, li2, li3, li4, li5, li6, li7, li8, li9, li10, li11, li12, li13, li14, li15, li16, li17, li18, li19, li20, li21, li22, li23, li24, li25, li26, li27, li28, li29, li30, li31, li32, li33, li34, li35, li36, li37, li38, li39, li40, li41, li42, li43, li44, li45, li46, li47, li48, li49, li50, li51, li52, li53, li54, li55, li56, li57, li58, li59, li60, li64, li72, li87, li97, li98, li99, li100, li101, li102, li103, li104, li105, li108, li109, li110, li111, li112, li114, li115, li116, li117, li119, li120, li124, li126, li132, li139, li140, li148, li156, li1000, li1092, li1248, cl_cnt_S, fX7_countBefore_L11b, fX7_countBefore_B31, hN1, cl_isBefore_t (show i < 15 by omega) hq (hn.2.2.1 i hi) eq (hn.bd hI hB hi) he hb9, ih r (i + 1), if_pos hb9, Nat.add_assoc]
      · simp (disch := omega) only [pu_OB, pu_LET, pu_OX0, pu_BND, pu_NZ, pu_BL, pu_m1, nI_add, pk_sub, pk_mul, pk_div, nI_clamp, pu_eq, pu_ne, pu_le_t, pu_le_f, pu_lt_t, pu_lt_f, pu_nm, pu_mm, pu_u2e, pu_u2n, ↓reduceIte, li0, li1, li2, li3, li4, li5, li6, li7, li8, li9, li10, li11, li12, li13, li14, li15, li16, li17, li18, li19, li20, li21, li22, li23, li24, li25, li26, li27, li28, li29, li30, li31, li32, li33, li34, li35, li36, li37, li38, li39, li40, li41, li42, li43, li44, li45, li46, li47, li48, li49, li50, li51, li52, li53, li54, li55, li56, li57, li58, li59, li60, li64, li72, li87, li97, li98, li99, li100, li101, li102, li103, li104, li105, li108, li109, li110, li111, li112, li114, li115, li116, li117, li119, li120, li124, li126, li132, li139, li140, li148, li156, li1000, li1092, li1248, cl_cnt_S, fX7_countBefore_L11b, fX7_countBefore_B31, hN1, cl_isBefore_f (show i < 15 by omega) hq (hn.2.2.1 i hi) eq (hn.bd hI hB hi) he (Bool.eq_false_iff.mpr hb9), ih r (i + 1), if_neg hb9, Nat.zero_add]
  have h := key W.length m 0 0 (by omega) (by omega)
  rw [sumF_countP (fun o => bef o e), Nat.zero_add, hn.rk] at h
  unfold fX7_countBefore
  simp (disch := omega) only [pu_OB, pu_LET, pu_OX0, pu_BND, pu_NZ, pu_BL, pu_m1, nI_add, pk_sub, pk_mul, pk_div, nI_clamp, pu_eq, pu_ne, pu_le_t, pu_le_f, pu_lt_t, pu_lt_f, pu_nm, pu_mm, pu_u2e, pu_u2n, ↓reduceIte, li0, li1, li2, li3, li4, li5, li6, li7, li8, li9, li10, li11, li12, li13, li14, li15, li16, li17, li18, li19, li20, li21, li22, li23, li24, li25, li26, li27, li28, li29, li30, li31, li32, li33, li34, li35, li36, li37, li38, li39, li40, li41, li42, li43, li44, li45, li46, li47, li48, li49, li50, li51, li52, li53, li54, li55, li56, li57, li58, li59, li60, li64, li72, li87, li97, li98, li99, li100, li101, li102, li103, li104, li105, li108, li109, li110, li111, li112, li114, li115, li116, li117, li119, li120, li124, li126, li132, li139, li140, li148, li156, li1000, li1092, li1248]
  exact h
end CL

