-- ===== bounds kept by the changes =====
theorem VG.B {A : AM} {C : Nat} (h : VG A C) (hC : C ≤ 512) : A.1 1 < 2 ^ 30 := by have := h.2.1; omega
theorem IS.off {sc sd : Nat → Nat} {T N T' N' : Nat} (h : IS sc 0 T N) (hT : T ≤ T') (h1 : sd 1 ≤ N') (hs : ∀ j, j ≠ 1 → j < 13 ∨ 16 ≤ j ∧ j < 72 → sd j = sc j) : IS sd 0 T' N' := by
  have h9 : IS (upN sd 1 (sc 1)) 0 T N := h.sc fun j hj => by
    by_cases c : j = 1
    · rw [c, upN_e rfl]
    · rw [upN_n c]
      exact hs j c hj
  obtain ⟨a, b, c, d, e⟩ := h9
  refine ⟨?_, fun w hw => ?_, fun b9 hb9 => ?_, fun g hg => ?_, ?_⟩
  · rw [upN_n (by omega), upN_e rfl, upN_n (by omega), upN_n (by omega)] at a
    omega
  · have := b w hw
    rw [upN_n (by omega), upN_n (by omega)] at this
    exact this
  · have := c b9 hb9
    rw [upN_n (by omega), upN_n (by omega)] at this
    exact this
  · have := d g hg
    rw [upN_n (by omega), upN_n (by omega), sumF_same (g := fun b => upN sd 1 (sc 1) (32 + 4 * b + g)) (f := fun b => sd (32 + 4 * b + g)) fun j _ hj => upN_n (by omega)] at this
    exact this
  · rw [upN_n (by omega), upN_n (by omega), upN_n (by omega), sumF_same (g := fun r => upN sd 1 (sc 1) (32 + r)) (f := fun r => sd (32 + r)) fun j _ hj => upN_n (by omega)] at e
    exact e
theorem vg_add {A : AM} {T N b l a : Nat} (hI : IN A.1 A.2) (hs : IS A.1 0 T N) (hc : A.2.countP (wt A.1) < 12) (he : b < 8 ∧ 1 ≤ l ∧ l ≤ 9 ∧ 1 ≤ a ∧ a ≤ 60) : IN (spAdd A b l a).1 (spAdd A b l a).2 ∧ IS (spAdd A b l a).1 0 T (N + 1) := by
  have h1 := hs.1
  refine ⟨(IN_add hI (e := (A.1 1, b, l, a)) ⟨rfl, he.1, he.2.1, he.2.2.1, he.2.2.2.1, he.2.2.2.2⟩ hc (upN_e rfl) fun w hw => upN_n (by omega)).1, hs.off (Nat.le_refl _) ?_ fun j h1 h2 => upN_n h1⟩
  show upN A.1 1 (A.1 1 + 1) 1 ≤ N + 1
  rw [upN_e rfl]
  omega
theorem vg_rem {A : AM} {T N p : Nat} (hI : IN A.1 A.2) (hs : IS A.1 0 T N) (hp : p < A.2.length) (hw : wt A.1 (A.2.getD p z4) = true) : IN (spRem A p).1 (spRem A p).2 ∧ IS (spRem A p).1 0 T N := ⟨(IN_del hI (er_perm hp) hw).1, hs⟩
theorem vg_gear {A : AM} {T N w g : Nat} (hI : IN A.1 A.2) (hs : IS A.1 0 T N) (hw : w < 3) (hg : 1 ≤ g ∧ g ≤ 5) : IN (upN A.1 (7 + w) g) A.2 ∧ IS (upN A.1 (7 + w) g) 0 T N := by
  refine ⟨hI.sc (by rw [upN_n (by omega)]; exact Nat.le_refl _) fun v hv => upN_n (by omega), ?_⟩
  obtain ⟨a, b, c, d, e⟩ := hs
  refine ⟨?_, fun v hv => ?_, fun b9 hb9 => ?_, fun q hq => ?_, ?_⟩
  · rw [upN_n (by omega), upN_n (by omega), upN_n (by omega), upN_n (by omega)]
    exact a
  · have := b v hv
    rw [upN_n (show 10 + v ≠ 7 + w by omega)]
    by_cases c9 : v = w
    · rw [upN_e (by omega)]
      omega
    · rw [upN_n (by omega)]
      exact this
  · rw [upN_n (by omega), upN_n (by omega)]
    exact c b9 hb9
  · rw [upN_n (by omega), upN_n (by omega), sumF_same (f := fun b => A.1 (32 + 4 * b + q)) fun j _ hj => upN_n (by omega)]
    exact d q hq
  · rw [upN_n (by omega), upN_n (by omega), upN_n (by omega), sumF_same (f := fun r => A.1 (32 + r)) fun j _ hj => upN_n (by omega)]
    exact e
theorem vg_wear {A : AM} {T N w : Nat} (hI : IN A.1 A.2) (hs : IS A.1 0 T N) (hw : w < 3) : IN (upN A.1 (10 + w) 0) A.2 ∧ IS (upN A.1 (10 + w) 0) 0 T N := by
  refine ⟨hI.sc (by rw [upN_n (by omega)]; exact Nat.le_refl _) fun v hv => upN_n (by omega), ?_⟩
  obtain ⟨a, b, c, d, e⟩ := hs
  refine ⟨?_, fun v hv => ?_, fun b9 hb9 => ?_, fun q hq => ?_, ?_⟩
  · rw [upN_n (by omega), upN_n (by omega), upN_n (by omega), upN_n (by omega)]
    exact a
  · have := b v hv
    rw [upN_n (show 7 + v ≠ 10 + w by omega)]
    by_cases c9 : v = w
    · rw [upN_e (by omega)]
      omega
    · rw [upN_n (by omega)]
      exact this
  · rw [upN_n (by omega), upN_n (by omega)]
    exact c b9 hb9
  · rw [upN_n (by omega), upN_n (by omega), sumF_same (f := fun b => A.1 (32 + 4 * b + q)) fun j _ hj => upN_n (by omega)]
    exact d q hq
  · rw [upN_n (by omega), upN_n (by omega), upN_n (by omega), sumF_same (f := fun r => A.1 (32 + r)) fun j _ hj => upN_n (by omega)]
    exact e
theorem vg_mesh {A : AM} {T N w g : Nat} (hI : IN A.1 A.2) (hs : IS A.1 0 T N) (hw : w < 8) (hg : g < 10) : IN (upN A.1 (16 + w) g) A.2 ∧ IS (upN A.1 (16 + w) g) 0 T N := by
  refine ⟨hI.sc (by rw [upN_n (by omega)]; exact Nat.le_refl _) fun v hv => upN_n (by omega), ?_⟩
  obtain ⟨a, b, c, d, e⟩ := hs
  refine ⟨?_, fun v hv => ?_, fun b9 hb9 => ?_, fun q hq => ?_, ?_⟩
  · rw [upN_n (by omega), upN_n (by omega), upN_n (by omega), upN_n (by omega)]
    exact a
  · rw [upN_n (by omega), upN_n (by omega)]
    exact b v hv
  · have := c b9 hb9
    rw [upN_n (show 64 + b9 ≠ 16 + w by omega)]
    by_cases c9 : b9 = w
    · rw [upN_e (by omega)]
      omega
    · rw [upN_n (by omega)]
      exact this
  · rw [upN_n (by omega), upN_n (by omega), sumF_same (f := fun b => A.1 (32 + 4 * b + q)) fun j _ hj => upN_n (by omega)]
    exact d q hq
  · rw [upN_n (by omega), upN_n (by omega), upN_n (by omega), sumF_same (f := fun r => A.1 (32 + r)) fun j _ hj => upN_n (by omega)]
    exact e
theorem vg_free {A : AM} {T N w : Nat} {e : E4} (hI : IN A.1 A.2) (hs : IS A.1 0 T N) (hw : w < 3) (he : e ∈ A.2) (hh : A.1 (13 + w) = e.1 + 1) (hc : A.2.countP (wt A.1) < 12) : IN (upN A.1 (13 + w) 0) A.2 ∧ IS (upN A.1 (13 + w) 0) 0 T N := ⟨(IN_free hI he hw hh hc).1, hs.sc fun j hj => upN_n (by omega)⟩
theorem vg_ship {A : AM} {T N g n : Nat} (hI : IN A.1 A.2) (hs : IS A.1 0 T N) (hg : g < 4) (hn : n ≤ A.1 (28 + g) / 20) : IN (spShip A g n).1 (spShip A g n).2 ∧ IS (spShip A g n).1 0 T N := by
  show IN (upN (upN A.1 (28 + g) (A.1 (28 + g) - 20 * n)) (24 + g) (A.1 (24 + g) + n)) A.2 ∧ IS (upN (upN A.1 (28 + g) (A.1 (28 + g) - 20 * n)) (24 + g) (A.1 (24 + g) + n)) 0 T N
  have rd : ∀ j, j ≠ 28 + g → j ≠ 24 + g → upN (upN A.1 (28 + g) (A.1 (28 + g) - 20 * n)) (24 + g) (A.1 (24 + g) + n) j = A.1 j := fun j q1 q2 => by rw [upN_n q2, upN_n q1]
  refine ⟨hI.sc (by rw [rd _ (by omega) (by omega)]; exact Nat.le_refl _) fun v hv => rd _ (by omega) (by omega), ?_⟩
  obtain ⟨a, b, c, d, e⟩ := hs
  refine ⟨?_, fun v hv => ?_, fun b9 hb9 => ?_, fun q hq => ?_, ?_⟩
  · rw [rd _ (by omega) (by omega), rd _ (by omega) (by omega), rd _ (by omega) (by omega), rd _ (by omega) (by omega)]
    exact a
  · rw [rd _ (by omega) (by omega), rd _ (by omega) (by omega)]
    exact b v hv
  · rw [rd _ (by omega) (by omega), rd _ (by omega) (by omega)]
    exact c b9 hb9
  · rw [sumF_same (f := fun b => A.1 (32 + 4 * b + q)) fun j _ hj => rd _ (by omega) (by omega)]
    have := d q hq
    by_cases c9 : q = g
    · subst c9
      rw [upN_n (show 28 + q ≠ 24 + q by omega), upN_e rfl, upN_e rfl]
      omega
    · rw [rd _ (by omega) (by omega), rd _ (by omega) (by omega)]
      exact this
  · rw [rd _ (by omega) (by omega), rd _ (by omega) (by omega), rd _ (by omega) (by omega), sumF_same (f := fun r => A.1 (32 + r)) fun j _ hj => rd _ (by omega) (by omega)]
    exact e
-- ===== the mill's changes, each over any mill k =====
section CL
variable {σ : St} {k m : Nat} {A : AM} {T N : Nat}
theorem cl_add {b l a : Nat} (hC : CR σ k A) (hI : IN A.1 A.2) (hc : A.2.countP (wt A.1) < 12) (he : b < 8 ∧ 1 ≤ l ∧ l ≤ 9 ∧ 1 ≤ a ∧ a ≤ 60) : ∃ τ, fX6_add k (nI b) (nI l) (nI a) σ = some (nI (A.1 1), τ) ∧ CR τ k (spAdd A b l a) ∧ ∀ c, c < k ∨ k + 19 ≤ c → τ c = σ c := by
  obtain ⟨hS, W, hn⟩ := hC
  obtain ⟨τ, t1, t2, t3, t4⟩ := cl_append hn hI hS.next hc he
  refine ⟨τ, ?_, ⟨fun j hj => ?_, _, t2⟩, fun c hc => t4 c (by omega)⟩
  · unfold fX6_add
    rw [t1, pu_OB]
  · have h1 := l_off0 j (scOk_t.mp hj).1 hj
    by_cases c : j = 1
    · subst c
      exact t3
    · show τ (k + lc j) (li j) = nI (upN A.1 1 (A.1 1 + 1) j)
      rw [upN_n c, ← hS j hj]
      by_cases c1 : lc j = 1
      · exact absurd (l_inj0 j (scOk_t.mp hj).1 1 (by omega) hj rfl c1 (h1.1 c1)) c
      · rw [t4 _ (by omega)]
theorem CR.B (hC : CR σ k A) (hs : IS A.1 0 T N) (hNN : N < 10 ^ 7) : A.1 1 < 2 ^ 30 := by have := hs.1; omega
theorem cl_remove {p : Nat} (hF : 2000 ≤ m) (hC : CR σ k A) (hI : IN A.1 A.2) (hB : A.1 1 < 2 ^ 30) (hp : p < A.2.length) (hw : wt A.1 (A.2.getD p z4) = true) : fX6_faultOfRemoving m k (nI (A.2.getD p z4).1) σ = some (nI 0, σ) ∧ ∃ τ, fX6_remove m k (nI (A.2.getD p z4).1) σ = some (nI (A.2.getD p z4).2.2.2, τ) ∧ CR τ k (spRem A p) ∧ ∀ c, c < k ∨ k + 19 ≤ c → τ c = σ c := by
  obtain ⟨hS, W, hn⟩ := hC
  obtain ⟨q, hq, heq⟩ := mem_getD (hn.mem.mpr ⟨getD_mem hp, hw⟩)
  have hlen : W.length ≤ 12 := by rw [hn.len]; exact hI.2.2.1
  have h1 := cl_slotOf_w (m := m) hn hI hB hF hq
  rw [heq] at h1
  obtain ⟨τ, t1, t2, t3, t4⟩ := cl_drop hn hI hq hp heq
  have h4 := (hn.2.2.1 q hq).2.2.2
  rw [heq] at h4
  refine ⟨?_, τ, ?_, ⟨?_, _, t2⟩, fun c hc => t4 c (by omega)⟩
  · unfold fX6_faultOfRemoving
    have hz : fX7_isWaitingSlot (nI q) σ = some (nI 1, σ) := by
      unfold fX7_isWaitingSlot
      simp (disch := omega) only [pu_OB, pu_LET, pu_OX0, pu_BND, pu_NZ, pu_BL, pu_m1, nI_add, pk_sub, pk_mul, pk_div, nI_clamp, pu_eq, pu_ne, pu_le_t, pu_le_f, pu_lt_t, pu_lt_f, pu_nm, pu_mm, pu_u2e, pu_u2n, ↓reduceIte, li0, li1, li2, li3, li4, li5, li6, li7, li8, li9, li10, li11, li12, li13, li14, li15, li16, li17, li18, li19, li20, li21, li22, li23, li24, li25, li26, li27, li28, li29, li30, li31, li32, li33, li34, li35, li36, li37, li38, li39, li40, li41, li42, li43, li44, li45, li46, li47, li48, li49, li50, li51, li52, li53, li54, li55, li56, li57, li58, li59, li60, li64, li72, li87, li97, li98, li99, li100, li101, li102, li103, li104, li105, li108, li109, li110, li111, li112, li114, li115, li116, li117, li119, li120, li124, li126, li132, li139, li140, li148, li156, li1000, li1092, li1248]
    simp (disch := omega) only [pu_OB, pu_LET, pu_OX0, pu_BND, pu_NZ, pu_BL, pu_m1, nI_add, pk_sub, pk_mul, pk_div, nI_clamp, pu_eq, pu_ne, pu_le_t, pu_le_f, pu_lt_t, pu_lt_f, pu_nm, pu_mm, pu_u2e, pu_u2n, ↓reduceIte, li0, li1, li2, li3, li4, li5, li6, li7, li8, li9, li10, li11, li12, li13, li14, li15, li16, li17, li18, li19, li20, li21, li22, li23, li24, li25, li26, li27, li28, li29, li30, li31, li32, li33, li34, li35, li36, li37, li38, li39, li40, li41, li42, li43, li44, li45, li46, li47, li48, li49, li50, li51, li52, li53, li54, li55, li56, li57, li58, li59, li60, li64, li72, li87, li97, li98, li99, li100, li101, li102, li103, li104, li105, li108, li109, li110, li111, li112, li114, li115, li116, li117, li119, li120, li124, li126, li132, li139, li140, li148, li156, li1000, li1092, li1248, h1, hz]
  · unfold fX6_remove
    simp (disch := omega) only [pu_OB, pu_LET, pu_OX0, pu_BND, pu_NZ, pu_BL, pu_m1, nI_add, pk_sub, pk_mul, pk_div, nI_clamp, pu_eq, pu_ne, pu_le_t, pu_le_f, pu_lt_t, pu_lt_f, pu_nm, pu_mm, pu_u2e, pu_u2n, ↓reduceIte, li0, li1, li2, li3, li4, li5, li6, li7, li8, li9, li10, li11, li12, li13, li14, li15, li16, li17, li18, li19, li20, li21, li22, li23, li24, li25, li26, li27, li28, li29, li30, li31, li32, li33, li34, li35, li36, li37, li38, li39, li40, li41, li42, li43, li44, li45, li46, li47, li48, li49, li50, li51, li52, li53, li54, li55, li56, li57, li58, li59, li60, li64, li72, li87, li97, li98, li99, li100, li101, li102, li103, li104, li105, li108, li109, li110, li111, li112, li114, li115, li116, li117, li119, li120, li124, li126, li132, li139, li140, li148, li156, li1000, li1092, li1248, h1, h4, t1]
  · exact hS.of (fun c hc => t4 _ (by omega)) t3
theorem cl_remove_h {p : Nat} (hF : 2000 ≤ m) (hC : CR σ k A) (hI : IN A.1 A.2) (hB : A.1 1 < 2 ^ 30) (hp : p < A.2.length) (hw : wt A.1 (A.2.getD p z4) = false) : fX6_faultOfRemoving m k (nI (A.2.getD p z4).1) σ = some (nI 4, σ) := by
  obtain ⟨hS, W, hn⟩ := hC
  obtain ⟨w, hw3, hh⟩ := wt_f_ex hw
  have h1 := cl_slotOf_h (m := m) hn hI hB hF hw3 (getD_mem hp) hh
  have hz : fX7_isWaitingSlot (nI (12 + w)) σ = some (nI 0, σ) := by
    unfold fX7_isWaitingSlot
    simp (disch := omega) only [pu_OB, pu_LET, pu_OX0, pu_BND, pu_NZ, pu_BL, pu_m1, nI_add, pk_sub, pk_mul, pk_div, nI_clamp, pu_eq, pu_ne, pu_le_t, pu_le_f, pu_lt_t, pu_lt_f, pu_nm, pu_mm, pu_u2e, pu_u2n, ↓reduceIte, li0, li1, li2, li3, li4, li5, li6, li7, li8, li9, li10, li11, li12, li13, li14, li15, li16, li17, li18, li19, li20, li21, li22, li23, li24, li25, li26, li27, li28, li29, li30, li31, li32, li33, li34, li35, li36, li37, li38, li39, li40, li41, li42, li43, li44, li45, li46, li47, li48, li49, li50, li51, li52, li53, li54, li55, li56, li57, li58, li59, li60, li64, li72, li87, li97, li98, li99, li100, li101, li102, li103, li104, li105, li108, li109, li110, li111, li112, li114, li115, li116, li117, li119, li120, li124, li126, li132, li139, li140, li148, li156, li1000, li1092, li1248]
  unfold fX6_faultOfRemoving
  simp (disch := omega) only [pu_OB, pu_LET, pu_OX0, pu_BND, pu_NZ, pu_BL, pu_m1, nI_add, pk_sub, pk_mul, pk_div, nI_clamp, pu_eq, pu_ne, pu_le_t, pu_le_f, pu_lt_t, pu_lt_f, pu_nm, pu_mm, pu_u2e, pu_u2n, ↓reduceIte, li0, li1, li2, li3, li4, li5, li6, li7, li8, li9, li10, li11, li12, li13, li14, li15, li16, li17, li18, li19, li20, li21, li22, li23, li24, li25, li26, li27, li28, li29, li30, li31, li32, li33, li34, li35, li36, li37, li38, li39, li40, li41, li42, li43, li44, li45, li46, li47, li48, li49, li50, li51, li52, li53, li54, li55, li56, li57, li58, li59, li60, li64, li72, li87, li97, li98, li99, li100, li101, li102, li103, li104, li105, li108, li109, li110, li111, li112, li114, li115, li116, li117, li119, li120, li124, li126, li132, li139, li140, li148, li156, li1000, li1092, li1248, h1, hz]
theorem cl_remove_x {x : Int32} (hF : 2000 ≤ m) (hC : CR σ k A) (hI : IN A.1 A.2) (hB : A.1 1 < 2 ^ 30) (hx : ∀ j, j < A.2.length → nI (A.2.getD j z4).1 ≠ x) : fX6_faultOfRemoving m k x σ = some (nI 3, σ) := by
  obtain ⟨hS, W, hn⟩ := hC
  have h1 := cl_slotOf_x (m := m) hn hI hB hF (x := x) fun e he => by
    obtain ⟨p, hp, rfl⟩ := mem_getD he
    exact hx p hp
  unfold fX6_faultOfRemoving
  simp (disch := omega) only [pu_OB, pu_LET, pu_OX0, pu_BND, pu_NZ, pu_BL, pu_m1, nI_add, pk_sub, pk_mul, pk_div, nI_clamp, pu_eq, pu_ne, pu_le_t, pu_le_f, pu_lt_t, pu_lt_f, pu_nm, pu_mm, pu_u2e, pu_u2n, ↓reduceIte, li0, li1, li2, li3, li4, li5, li6, li7, li8, li9, li10, li11, li12, li13, li14, li15, li16, li17, li18, li19, li20, li21, li22, li23, li24, li25, li26, li27, li28, li29, li30, li31, li32, li33, li34, li35, li36, li37, li38, li39, li40, li41, li42, li43, li44, li45, li46, li47, li48, li49, li50, li51, li52, li53, li54, li55, li56, li57, li58, li59, li60, li64, li72, li87, li97, li98, li99, li100, li101, li102, li103, li104, li105, li108, li109, li110, li111, li112, li114, li115, li116, li117, li119, li120, li124, li126, li132, li139, li140, li148, li156, li1000, li1092, li1248, h1]
theorem CR.scU {j v c q c9 : Nat} {x : Int32} (hC : CR σ k A) (hj : scOk j = true) (hc : lc j = c) (hq : li j = q) (hx : x = nI v) (h9 : c9 = k + c) (h7 : 7 ≤ c) : CR (u2 σ c9 q x) k (upN A.1 j v, A.2) := by
  obtain ⟨hS, W, hn⟩ := hC
  refine ⟨hS.upd hj hc hq hx h9, W, hn.congr (pu_u2n (by omega)) (fun c h1 h2 => pu_u2r (by omega)) fun w hw => upN_n ?_⟩
  have := scOk_t.mp hj
  omega
theorem cl_gear {w g : Nat} (hC : CR σ k A) (hw : w < 3) : fX6_changeGear k (nI w) (nI g) σ = some (nI (A.1 (7 + w)), u2 σ (k + 16) w (nI g)) ∧ CR (u2 σ (k + 16) w (nI g)) k (upN A.1 (7 + w) g, A.2) := by
  have e := hC.1.gear hw
  refine ⟨?_, hC.scU (lc_gear hw).1 (lc_gear hw).2.1 (lc_gear hw).2.2 rfl rfl (by omega)⟩
  unfold fX6_changeGear
  simp (disch := omega) only [pu_OB, pu_LET, pu_OX0, pu_BND, pu_NZ, pu_BL, pu_m1, nI_add, pk_sub, pk_mul, pk_div, nI_clamp, pu_eq, pu_ne, pu_le_t, pu_le_f, pu_lt_t, pu_lt_f, pu_nm, pu_mm, pu_u2e, pu_u2n, ↓reduceIte, li0, li1, li2, li3, li4, li5, li6, li7, li8, li9, li10, li11, li12, li13, li14, li15, li16, li17, li18, li19, li20, li21, li22, li23, li24, li25, li26, li27, li28, li29, li30, li31, li32, li33, li34, li35, li36, li37, li38, li39, li40, li41, li42, li43, li44, li45, li46, li47, li48, li49, li50, li51, li52, li53, li54, li55, li56, li57, li58, li59, li60, li64, li72, li87, li97, li98, li99, li100, li101, li102, li103, li104, li105, li108, li109, li110, li111, li112, li114, li115, li116, li117, li119, li120, li124, li126, li132, li139, li140, li148, li156, li1000, li1092, li1248, e]
theorem cl_mesh {w g : Nat} (hC : CR σ k A) (hw : w < 8) : fX6_changeMesh k (nI w) (nI g) σ = some (nI (A.1 (16 + w)), u2 σ (k + 18) w (nI g)) ∧ CR (u2 σ (k + 18) w (nI g)) k (upN A.1 (16 + w) g, A.2) := by
  have e := hC.1.mesh hw
  have l := lc_all.1 w hw
  refine ⟨?_, hC.scU l.1 l.2.1 l.2.2 rfl rfl (by omega)⟩
  unfold fX6_changeMesh
  simp (disch := omega) only [pu_OB, pu_LET, pu_OX0, pu_BND, pu_NZ, pu_BL, pu_m1, nI_add, pk_sub, pk_mul, pk_div, nI_clamp, pu_eq, pu_ne, pu_le_t, pu_le_f, pu_lt_t, pu_lt_f, pu_nm, pu_mm, pu_u2e, pu_u2n, ↓reduceIte, li0, li1, li2, li3, li4, li5, li6, li7, li8, li9, li10, li11, li12, li13, li14, li15, li16, li17, li18, li19, li20, li21, li22, li23, li24, li25, li26, li27, li28, li29, li30, li31, li32, li33, li34, li35, li36, li37, li38, li39, li40, li41, li42, li43, li44, li45, li46, li47, li48, li49, li50, li51, li52, li53, li54, li55, li56, li57, li58, li59, li60, li64, li72, li87, li97, li98, li99, li100, li101, li102, li103, li104, li105, li108, li109, li110, li111, li112, li114, li115, li116, li117, li119, li120, li124, li126, li132, li139, li140, li148, li156, li1000, li1092, li1248, e]
theorem cl_clear {w : Nat} (hC : CR σ k A) (hw : w < 3) : fX6_clear k (nI w) σ = some (nI (A.1 (10 + w)), u2 σ (k + 17) w (nI 0)) ∧ CR (u2 σ (k + 17) w (nI 0)) k (upN A.1 (10 + w) 0, A.2) := by
  have e := hC.1.wear hw
  refine ⟨?_, hC.scU (lc_wear hw).1 (lc_wear hw).2.1 (lc_wear hw).2.2 rfl rfl (by omega)⟩
  unfold fX6_clear
  simp (disch := omega) only [pu_OB, pu_LET, pu_OX0, pu_BND, pu_NZ, pu_BL, pu_m1, nI_add, pk_sub, pk_mul, pk_div, nI_clamp, pu_eq, pu_ne, pu_le_t, pu_le_f, pu_lt_t, pu_lt_f, pu_nm, pu_mm, pu_u2e, pu_u2n, ↓reduceIte, li0, li1, li2, li3, li4, li5, li6, li7, li8, li9, li10, li11, li12, li13, li14, li15, li16, li17, li18, li19, li20, li21, li22, li23, li24, li25, li26, li27, li28, li29, li30, li31, li32, li33, li34, li35, li36, li37, li38, li39, li40, li41, li42, li43, li44, li45, li46, li47, li48, li49, li50, li51, li52, li53, li54, li55, li56, li57, li58, li59, li60, li64, li72, li87, li97, li98, li99, li100, li101, li102, li103, li104, li105, li108, li109, li110, li111, li112, li114, li115, li116, li117, li119, li120, li124, li126, li132, li139, li140, li148, li156, li1000, li1092, li1248, e]
theorem cl_release {w : Nat} {e : E4} (hC : CR σ k A) (hI : IN A.1 A.2) (hw : w < 3) (he : e ∈ A.2) (hh : A.1 (13 + w) = e.1 + 1) (hc : A.2.countP (wt A.1) < 12) : ∃ τ, fX6_release k (nI w) σ = some (nI e.1, τ) ∧ CR τ k (upN A.1 (13 + w) 0, A.2) ∧ ∀ c, c < k ∨ k + 19 ≤ c → τ c = σ c := by
  obtain ⟨hS, W, hn⟩ := hC
  obtain ⟨τ, t1, t2, t3, t4⟩ := cl_putBack hn hI hw he hh hc
  refine ⟨τ, ?_, ⟨(hS.of (fun c hc => t4 _ (by omega)) t3).sc fun j hj => ?_, _, t2⟩, fun c hc => t4 c (by omega)⟩
  · unfold fX6_release
    rw [t1, pu_OB]
  · have := scOk_t.mp hj
    exact upN_n (by omega)
theorem cl_full {g : Nat} (hC : CR σ k A) (hg : g < 4) (hf : A.1 (28 + g) ≤ 139) : fX9_full (k + 7) (nI g) σ = some (nI (A.1 (28 + g) / 20), σ) := by
  have e := hC.1.flour hg
  have e3 : nI (A.1 (28 + g)) / nI 20 = nI (A.1 (28 + g) / 20) := pk_div (by omega) (by omega) (by omega)
  unfold fX9_full
  simp (disch := omega) only [pu_OB, pu_LET, pu_OX0, pu_BND, pu_NZ, pu_BL, pu_m1, nI_add, pk_sub, pk_mul, pk_div, nI_clamp, pu_eq, pu_ne, pu_le_t, pu_le_f, pu_lt_t, pu_lt_f, pu_nm, pu_mm, pu_u2e, pu_u2n, ↓reduceIte, li0, li1, li2, li3, li4, li5, li6, li7, li8, li9, li10, li11, li12, li13, li14, li15, li16, li17, li18, li19, li20, li21, li22, li23, li24, li25, li26, li27, li28, li29, li30, li31, li32, li33, li34, li35, li36, li37, li38, li39, li40, li41, li42, li43, li44, li45, li46, li47, li48, li49, li50, li51, li52, li53, li54, li55, li56, li57, li58, li59, li60, li64, li72, li87, li97, li98, li99, li100, li101, li102, li103, li104, li105, li108, li109, li110, li111, li112, li114, li115, li116, li117, li119, li120, li124, li126, li132, li139, li140, li148, li156, li1000, li1092, li1248, e, e3]
theorem cl_ship {g n : Nat} (hC : CR σ k A) (hg : g < 4) (hf : A.1 (28 + g) ≤ 139) (hn : n ≤ A.1 (28 + g) / 20) : ∃ τ, fX6_ship k (nI g) (nI n) σ = some (nI ((A.1 (28 + g) - 20 * n) / 20), τ) ∧ CR τ k (spShip A g n) ∧ ∀ c, c < k ∨ k + 19 ≤ c → τ c = σ c := by
  have e := hC.1.flour hg
  have e2 := hC.1.shipped hg
  have l28 := lc_all.2.2.1 g hg
  have l24 := lc_all.2.1 g hg
  have hC1 : CR (u2 (u2 σ (k + 7 + 1) g (nI (A.1 (28 + g) - 20 * n))) (k + 7 + 2) g (nI (A.1 (24 + g) + n))) k (spShip A g n) := (hC.scU (v := A.1 (28 + g) - 20 * n) l28.1 l28.2.1 l28.2.2 rfl (show k + 7 + 1 = k + 8 by omega) (by omega)).scU (v := A.1 (24 + g) + n) l24.1 l24.2.1 l24.2.2 rfl (show k + 7 + 2 = k + 9 by omega) (by omega)
  have h28 : (spShip A g n).1 (28 + g) = A.1 (28 + g) - 20 * n := by
    show upN (upN A.1 (28 + g) (A.1 (28 + g) - 20 * n)) (24 + g) (A.1 (24 + g) + n) (28 + g) = _
    rw [upN_n (by omega), upN_e rfl]
  have h9 := cl_full hC1 hg (by rw [h28]; omega)
  rw [h28] at h9
  refine ⟨_, ?_, hC1, fun c hc => by rw [pu_u2r (by omega), pu_u2r (by omega)]⟩
  have e20 : n * 20 = 20 * n := Nat.mul_comm _ _
  unfold fX6_ship fX9_sendOff
  simp (disch := omega) only [pu_OB, pu_LET, pu_OX0, pu_BND, pu_NZ, pu_BL, pu_m1, nI_add, pk_sub, pk_mul, pk_div, nI_clamp, pu_eq, pu_ne, pu_le_t, pu_le_f, pu_lt_t, pu_lt_f, pu_nm, pu_mm, pu_u2e, pu_u2n, ↓reduceIte, li0, li1, li2, li3, li4, li5, li6, li7, li8, li9, li10, li11, li12, li13, li14, li15, li16, li17, li18, li19, li20, li21, li22, li23, li24, li25, li26, li27, li28, li29, li30, li31, li32, li33, li34, li35, li36, li37, li38, li39, li40, li41, li42, li43, li44, li45, li46, li47, li48, li49, li50, li51, li52, li53, li54, li55, li56, li57, li58, li59, li60, li64, li72, li87, li97, li98, li99, li100, li101, li102, li103, li104, li105, li108, li109, li110, li111, li112, li114, li115, li116, li117, li119, li120, li124, li126, li132, li139, li140, li148, li156, li1000, li1092, li1248, e, e2, e20, h9]
end CL

