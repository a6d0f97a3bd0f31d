-- ===== p61: the object alone: what a change does to the abstract mill =====
/-- the object σ stands for the mill A, its history H, its saved state S, the letters B typed; C changes so far -/
def KG (σ : St) (A : AM) (H : List AM) (S : Option AM) (B : List Nat) (er fl : Option Nat) (C : Nat) : Prop := CR σ 0 A ∧ CX σ H S B er fl ∧ VG A C ∧ (∀ i, i < H.length → VG (H.getD i A0) C) ∧ (∀ X, S = some X → VG X C) ∧ bOk B
theorem KG.mono {σ : St} {A : AM} {H : List AM} {S : Option AM} {B : List Nat} {er fl : Option Nat} {C C' : Nat} (h : KG σ A H S B er fl C) (hc : C ≤ C') : KG σ A H S B er fl C' := ⟨h.1, h.2.1, h.2.2.1.mono hc, fun i hi => (h.2.2.2.1 i hi).mono hc, fun X hX => (h.2.2.2.2.1 X hX).mono hc, h.2.2.2.2.2⟩
theorem nI_b1 {g n : Nat} (hg : g < 2 ^ 31) (hn : n + 1 < 2 ^ 31) (h : ¬ (1 ≤ g ∧ g ≤ n)) : nI g < nI 1 ∨ nI (n + 1) ≤ nI g := by
  by_cases c : g = 0
  · subst c
    exact Or.inl (nI_lt (by omega) (by omega))
  · exact Or.inr (nI_le (by omega) hg)
theorem nI_b0 {g n : Nat} (hg : g < 2 ^ 31) (h : ¬ g < n) : nI g < nI 0 ∨ nI n ≤ nI g := Or.inr (nI_le (by omega) hg)
/-- what a change answers: a fault or 0, the number, the mill then -/
abbrev OU : Type := Nat × Int32 × AM
def oAdd (A : AM) (b l a : Nat) : OU := if b < 8 ∧ (1 ≤ l ∧ l ≤ 9) ∧ (1 ≤ a ∧ a ≤ 60) then (if A.2.countP (wt A.1) < 12 then (0, nI (A.1 1), spAdd A b l a) else (4, 0, A)) else (2, 0, A)
def oRem (A : AM) (n : Nat) : OU := if A.2.findIdx (fun e => e.1 == n) < A.2.length then (if wt A.1 (A.2.getD (A.2.findIdx (fun e => e.1 == n)) z4) = true then (0, nI (A.2.getD (A.2.findIdx (fun e => e.1 == n)) z4).2.2.2, spRem A (A.2.findIdx (fun e => e.1 == n))) else (4, 0, A)) else (3, 0, A)
def oGear (A : AM) (w g : Nat) : OU := if w < 3 then (if 1 ≤ g ∧ g ≤ 5 then (0, nI (A.1 (7 + w)), (upN A.1 (7 + w) g, A.2)) else (2, 0, A)) else (1, 0, A)
def oMesh (A : AM) (b g : Nat) : OU := if b < 8 ∧ g < 10 then (0, nI (A.1 (16 + b)), (upN A.1 (16 + b) g, A.2)) else (2, 0, A)
def oClear (A : AM) (w : Nat) : OU := if w < 3 then (0, nI (A.1 (10 + w)), (upN A.1 (10 + w) 0, A.2)) else (1, 0, A)
def oRel (A : AM) (w : Nat) : OU := if w < 3 then (if A.1 (13 + w) = 0 then (3, 0, A) else if A.2.countP (wt A.1) < 12 then (0, nI (A.1 (13 + w) - 1), (upN A.1 (13 + w) 0, A.2)) else (4, 0, A)) else (1, 0, A)
def oShip (A : AM) (g n : Nat) : OU := if g < 4 ∧ (1 ≤ n ∧ n ≤ 6) then (if n ≤ A.1 (28 + g) / 20 then (0, nI ((A.1 (28 + g) - 20 * n) / 20), spShip A g n) else (5, 0, A)) else (2, 0, A)
def oAdv (A : AM) (n : Nat) : OU := if 1 ≤ n ∧ n ≤ 40 then (0, nI ((spN n A).1 3 - A.1 3), spN n A) else (2, 0, A)
/-- a change of the mill of cell k: refused, or done -/
def XO (k : Nat) (fo opc : St → Option (Int32 × St)) (σ : St) (X : AM) (T N : Nat) (o : OU) : Prop :=
  (o.1 = 0 ∧ fo σ = some (nI 0, σ) ∧ (∃ τ, opc σ = some (o.2.1, τ) ∧ CR τ k o.2.2 ∧ ∀ c, c < k ∨ k + 19 ≤ c → τ c = σ c) ∧ IN o.2.2.1 o.2.2.2 ∧ IS o.2.2.1 0 (T + 40) (N + 1)) ∨
  (0 < o.1 ∧ o.1 < 6 ∧ o.2.2 = X ∧ fo σ = some (nI o.1, σ))
theorem XO.ok {k : Nat} {fo opc : St → Option (Int32 × St)} {σ : St} {X Y : AM} {T N : Nat} {r : Int32} (h1 : fo σ = some (nI 0, σ)) (h2 : ∃ τ, opc σ = some (r, τ) ∧ CR τ k Y ∧ ∀ c, c < k ∨ k + 19 ≤ c → τ c = σ c) (h3 : IN Y.1 Y.2) (h4 : IS Y.1 0 (T + 40) (N + 1)) : XO k fo opc σ X T N (0, r, Y) := Or.inl ⟨rfl, h1, h2, h3, h4⟩
theorem XO.no {k f : Nat} {fo opc : St → Option (Int32 × St)} {σ : St} {X : AM} {T N : Nat} {r : Int32} (h : 0 < f ∧ f < 6) (h1 : fo σ = some (nI f, σ)) : XO k fo opc σ X T N (f, r, X) := Or.inr ⟨h.1, h.2, rfl, h1⟩
theorem isMo {sc : Nat → Nat} {T N T' N' : Nat} (h : IS sc 0 T N) (hT : T ≤ T') (hN : N ≤ N') : IS sc 0 T' N' := ⟨by have := h.1; omega, h.2⟩
section XOS
variable {σ : St} {m k : Nat} {X : AM} {T N : Nat}
theorem xo_gear (hC : CR σ k X) (hI : IN X.1 X.2) (hs : IS X.1 0 T N) {w g : Nat} (hw9 : w < 2 ^ 31) (hg9 : g < 2 ^ 31) : XO k (fX6_faultOfGear (nI w) (nI g)) (fX6_changeGear k (nI w) (nI g)) σ X T N (oGear X w g) := by
  unfold oGear
  by_cases hw : w < 3
  · rw [if_pos hw]
    by_cases hg : 1 ≤ g ∧ g ≤ 5
    · rw [if_pos hg]
      have hv := vg_gear hI hs hw hg
      obtain ⟨hg1, hg2⟩ := hg
      refine XO.ok ?_ ⟨_, (cl_gear hC hw).1, (cl_gear hC hw).2, fun c hc => pu_u2r (by omega)⟩ hv.1 (isMo hv.2 (by omega) (by omega))
      unfold fX6_faultOfGear
      simp (disch := omega) only [pu_OB, pu_LET, pu_OX0, pu_BND, pu_NZ, pu_BL, pu_m1, nI_add, pk_sub, pk_mul, pk_div, nI_clamp, pu_eq, pu_ne, pu_le_t, pu_le_f, pu_lt_t, pu_lt_f, pu_nm, pu_mm, pu_u2e, pu_u2n, ↓reduceIte, li0, li1, li2, li3, li4, li5, li6, li7, li8, li9, li10, li11, li12, li13, li14, li15, li16, li17, li18, li19, li20, li21, li22, li23, li24, li25, li26, li27, li28, li29, li30, li31, li32, li33, li34, li35, li36, li37, li38, li39, li40, li41, li42, li43, li44, li45, li46, li47, li48, li49, li50, li51, li52, li53, li54, li55, li56, li57, li58, li59, li60, li64, li72, li87, li97, li98, li99, li100, li101, li102, li103, li104, li105, li108, li109, li110, li111, li112, li114, li115, li116, li117, li119, li120, li124, li126, li132, li139, li140, li148, li156, li1000, li1092, li1248, cl_isWheel hw, cl_in_good]
    · rw [if_neg hg]
      refine XO.no (by omega) ?_
      have e : fX6_isWithin (nI g) (nI 1) (nI 5) σ = some (nI 0, σ) := cl_in_bad (lo := 1) (hi := 5) (nI_b1 hg9 (by omega) hg) (by omega)
      unfold fX6_faultOfGear
      simp (disch := omega) only [pu_OB, pu_LET, pu_OX0, pu_BND, pu_NZ, pu_BL, pu_m1, nI_add, pk_sub, pk_mul, pk_div, nI_clamp, pu_eq, pu_ne, pu_le_t, pu_le_f, pu_lt_t, pu_lt_f, pu_nm, pu_mm, pu_u2e, pu_u2n, ↓reduceIte, li0, li1, li2, li3, li4, li5, li6, li7, li8, li9, li10, li11, li12, li13, li14, li15, li16, li17, li18, li19, li20, li21, li22, li23, li24, li25, li26, li27, li28, li29, li30, li31, li32, li33, li34, li35, li36, li37, li38, li39, li40, li41, li42, li43, li44, li45, li46, li47, li48, li49, li50, li51, li52, li53, li54, li55, li56, li57, li58, li59, li60, li64, li72, li87, li97, li98, li99, li100, li101, li102, li103, li104, li105, li108, li109, li110, li111, li112, li114, li115, li116, li117, li119, li120, li124, li126, li132, li139, li140, li148, li156, li1000, li1092, li1248, cl_isWheel hw, e]
  · rw [if_neg hw]
    refine XO.no (by omega) ?_
    unfold fX6_faultOfGear
    simp (disch := omega) only [pu_OB, pu_LET, pu_OX0, pu_BND, pu_NZ, pu_BL, pu_m1, nI_add, pk_sub, pk_mul, pk_div, nI_clamp, pu_eq, pu_ne, pu_le_t, pu_le_f, pu_lt_t, pu_lt_f, pu_nm, pu_mm, pu_u2e, pu_u2n, ↓reduceIte, li0, li1, li2, li3, li4, li5, li6, li7, li8, li9, li10, li11, li12, li13, li14, li15, li16, li17, li18, li19, li20, li21, li22, li23, li24, li25, li26, li27, li28, li29, li30, li31, li32, li33, li34, li35, li36, li37, li38, li39, li40, li41, li42, li43, li44, li45, li46, li47, li48, li49, li50, li51, li52, li53, li54, li55, li56, li57, li58, li59, li60, li64, li72, li87, li97, li98, li99, li100, li101, li102, li103, li104, li105, li108, li109, li110, li111, li112, li114, li115, li116, li117, li119, li120, li124, li126, li132, li139, li140, li148, li156, li1000, li1092, li1248, cl_isWheel_x (nI_b0 hw9 hw)]
theorem xo_mesh (hC : CR σ k X) (hI : IN X.1 X.2) (hs : IS X.1 0 T N) {b g : Nat} (hw9 : b < 2 ^ 31) (hg9 : g < 2 ^ 31) : XO k (fX6_faultOfMesh (nI b) (nI g)) (fX6_changeMesh k (nI b) (nI g)) σ X T N (oMesh X b g) := by
  unfold oMesh
  by_cases hw : b < 8
  · by_cases hg : g < 10
    · rw [if_pos ⟨hw, hg⟩]
      have hv := vg_mesh hI hs hw hg
      refine XO.ok ?_ ⟨_, (cl_mesh hC hw).1, (cl_mesh hC hw).2, fun c hc => pu_u2r (by omega)⟩ hv.1 (isMo hv.2 (by omega) (by omega))
      unfold fX6_faultOfMesh
      simp (disch := omega) only [pu_OB, pu_LET, pu_OX0, pu_BND, pu_NZ, pu_BL, pu_m1, nI_add, pk_sub, pk_mul, pk_div, nI_clamp, pu_eq, pu_ne, pu_le_t, pu_le_f, pu_lt_t, pu_lt_f, pu_nm, pu_mm, pu_u2e, pu_u2n, ↓reduceIte, li0, li1, li2, li3, li4, li5, li6, li7, li8, li9, li10, li11, li12, li13, li14, li15, li16, li17, li18, li19, li20, li21, li22, li23, li24, li25, li26, li27, li28, li29, li30, li31, li32, li33, li34, li35, li36, li37, li38, li39, li40, li41, li42, li43, li44, li45, li46, li47, li48, li49, li50, li51, li52, li53, li54, li55, li56, li57, li58, li59, li60, li64, li72, li87, li97, li98, li99, li100, li101, li102, li103, li104, li105, li108, li109, li110, li111, li112, li114, li115, li116, li117, li119, li120, li124, li126, li132, li139, li140, li148, li156, li1000, li1092, li1248, cl_isBand hw, cl_in_good]
    · rw [if_neg (fun h => hg h.2)]
      refine XO.no (by omega) ?_
      have e : fX6_isWithin (nI g) (nI 0) (nI 9) σ = some (nI 0, σ) := cl_in_bad (lo := 0) (hi := 9) (nI_b0 hg9 hg) (by omega)
      unfold fX6_faultOfMesh
      simp (disch := omega) only [pu_OB, pu_LET, pu_OX0, pu_BND, pu_NZ, pu_BL, pu_m1, nI_add, pk_sub, pk_mul, pk_div, nI_clamp, pu_eq, pu_ne, pu_le_t, pu_le_f, pu_lt_t, pu_lt_f, pu_nm, pu_mm, pu_u2e, pu_u2n, ↓reduceIte, li0, li1, li2, li3, li4, li5, li6, li7, li8, li9, li10, li11, li12, li13, li14, li15, li16, li17, li18, li19, li20, li21, li22, li23, li24, li25, li26, li27, li28, li29, li30, li31, li32, li33, li34, li35, li36, li37, li38, li39, li40, li41, li42, li43, li44, li45, li46, li47, li48, li49, li50, li51, li52, li53, li54, li55, li56, li57, li58, li59, li60, li64, li72, li87, li97, li98, li99, li100, li101, li102, li103, li104, li105, li108, li109, li110, li111, li112, li114, li115, li116, li117, li119, li120, li124, li126, li132, li139, li140, li148, li156, li1000, li1092, li1248, cl_isBand hw, e]
  · rw [if_neg (fun h => hw h.1)]
    refine XO.no (by omega) ?_
    unfold fX6_faultOfMesh
    simp (disch := omega) only [pu_OB, pu_LET, pu_OX0, pu_BND, pu_NZ, pu_BL, pu_m1, nI_add, pk_sub, pk_mul, pk_div, nI_clamp, pu_eq, pu_ne, pu_le_t, pu_le_f, pu_lt_t, pu_lt_f, pu_nm, pu_mm, pu_u2e, pu_u2n, ↓reduceIte, li0, li1, li2, li3, li4, li5, li6, li7, li8, li9, li10, li11, li12, li13, li14, li15, li16, li17, li18, li19, li20, li21, li22, li23, li24, li25, li26, li27, li28, li29, li30, li31, li32, li33, li34, li35, li36, li37, li38, li39, li40, li41, li42, li43, li44, li45, li46, li47, li48, li49, li50, li51, li52, li53, li54, li55, li56, li57, li58, li59, li60, li64, li72, li87, li97, li98, li99, li100, li101, li102, li103, li104, li105, li108, li109, li110, li111, li112, li114, li115, li116, li117, li119, li120, li124, li126, li132, li139, li140, li148, li156, li1000, li1092, li1248, cl_isBand_x (nI_b0 hw9 hw)]
theorem xo_clear (hC : CR σ k X) (hI : IN X.1 X.2) (hs : IS X.1 0 T N) {w : Nat} (hw9 : w < 2 ^ 31) : XO k (fX6_faultOfClearing (nI w)) (fX6_clear k (nI w)) σ X T N (oClear X w) := by
  unfold oClear
  by_cases hw : w < 3
  · rw [if_pos hw]
    have hv := vg_wear hI hs hw
    refine XO.ok ?_ ⟨_, (cl_clear hC hw).1, (cl_clear hC hw).2, fun c hc => pu_u2r (by omega)⟩ hv.1 (isMo hv.2 (by omega) (by omega))
    unfold fX6_faultOfClearing
    simp (disch := omega) only [pu_OB, pu_LET, pu_OX0, pu_BND, pu_NZ, pu_BL, pu_m1, nI_add, pk_sub, pk_mul, pk_div, nI_clamp, pu_eq, pu_ne, pu_le_t, pu_le_f, pu_lt_t, pu_lt_f, pu_nm, pu_mm, pu_u2e, pu_u2n, ↓reduceIte, li0, li1, li2, li3, li4, li5, li6, li7, li8, li9, li10, li11, li12, li13, li14, li15, li16, li17, li18, li19, li20, li21, li22, li23, li24, li25, li26, li27, li28, li29, li30, li31, li32, li33, li34, li35, li36, li37, li38, li39, li40, li41, li42, li43, li44, li45, li46, li47, li48, li49, li50, li51, li52, li53, li54, li55, li56, li57, li58, li59, li60, li64, li72, li87, li97, li98, li99, li100, li101, li102, li103, li104, li105, li108, li109, li110, li111, li112, li114, li115, li116, li117, li119, li120, li124, li126, li132, li139, li140, li148, li156, li1000, li1092, li1248, cl_isWheel hw]
  · rw [if_neg hw]
    refine XO.no (by omega) ?_
    unfold fX6_faultOfClearing
    simp (disch := omega) only [pu_OB, pu_LET, pu_OX0, pu_BND, pu_NZ, pu_BL, pu_m1, nI_add, pk_sub, pk_mul, pk_div, nI_clamp, pu_eq, pu_ne, pu_le_t, pu_le_f, pu_lt_t, pu_lt_f, pu_nm, pu_mm, pu_u2e, pu_u2n, ↓reduceIte, li0, li1, li2, li3, li4, li5, li6, li7, li8, li9, li10, li11, li12, li13, li14, li15, li16, li17, li18, li19, li20, li21, li22, li23, li24, li25, li26, li27, li28, li29, li30, li31, li32, li33, li34, li35, li36, li37, li38, li39, li40, li41, li42, li43, li44, li45, li46, li47, li48, li49, li50, li51, li52, li53, li54, li55, li56, li57, li58, li59, li60, li64, li72, li87, li97, li98, li99, li100, li101, li102, li103, li104, li105, li108, li109, li110, li111, li112, li114, li115, li116, li117, li119, li120, li124, li126, li132, li139, li140, li148, li156, li1000, li1092, li1248, cl_isWheel_x (nI_b0 hw9 hw)]
theorem xo_add (hC : CR σ k X) (hI : IN X.1 X.2) (hs : IS X.1 0 T N) {b l a : Nat} (hb0 : b < 2 ^ 31) (hl0 : l < 2 ^ 31) (ha0 : a < 2 ^ 31) : XO k (fX6_faultOfAdding k (nI b) (nI l) (nI a)) (fX6_add k (nI b) (nI l) (nI a)) σ X T N (oAdd X b l a) := by
  unfold oAdd
  by_cases hb9 : b < 8
  · by_cases hl9 : 1 ≤ l ∧ l ≤ 9
    · by_cases ha9 : 1 ≤ a ∧ a ≤ 60
      · rw [if_pos ⟨hb9, hl9, ha9⟩]
        obtain ⟨hl1, hl2⟩ := hl9
        obtain ⟨ha1, ha2⟩ := ha9
        have hCW := hC
        obtain ⟨-, W, hn⟩ := hCW
        have hfl := cl_isFull hn (by rw [hn.len]; exact hI.2.2.1)
        rw [hn.len] at hfl
        by_cases c : X.2.countP (wt X.1) < 12
        · rw [if_pos c] at hfl
          rw [if_pos c]
          have hv := vg_add hI hs c ⟨hb9, hl1, hl2, ha1, ha2⟩
          refine XO.ok ?_ (cl_add hC hI c ⟨hb9, hl1, hl2, ha1, ha2⟩) hv.1 (isMo hv.2 (by omega) (by omega))
          unfold fX6_faultOfAdding
          simp (disch := omega) only [pu_OB, pu_LET, pu_OX0, pu_BND, pu_NZ, pu_BL, pu_m1, nI_add, pk_sub, pk_mul, pk_div, nI_clamp, pu_eq, pu_ne, pu_le_t, pu_le_f, pu_lt_t, pu_lt_f, pu_nm, pu_mm, pu_u2e, pu_u2n, ↓reduceIte, li0, li1, li2, li3, li4, li5, li6, li7, li8, li9, li10, li11, li12, li13, li14, li15, li16, li17, li18, li19, li20, li21, li22, li23, li24, li25, li26, li27, li28, li29, li30, li31, li32, li33, li34, li35, li36, li37, li38, li39, li40, li41, li42, li43, li44, li45, li46, li47, li48, li49, li50, li51, li52, li53, li54, li55, li56, li57, li58, li59, li60, li64, li72, li87, li97, li98, li99, li100, li101, li102, li103, li104, li105, li108, li109, li110, li111, li112, li114, li115, li116, li117, li119, li120, li124, li126, li132, li139, li140, li148, li156, li1000, li1092, li1248, cl_isBand hb9, cl_in_good, hfl]
        · rw [if_neg c] at hfl
          rw [if_neg c]
          refine XO.no (by omega) ?_
          unfold fX6_faultOfAdding
          simp (disch := omega) only [pu_OB, pu_LET, pu_OX0, pu_BND, pu_NZ, pu_BL, pu_m1, nI_add, pk_sub, pk_mul, pk_div, nI_clamp, pu_eq, pu_ne, pu_le_t, pu_le_f, pu_lt_t, pu_lt_f, pu_nm, pu_mm, pu_u2e, pu_u2n, ↓reduceIte, li0, li1, li2, li3, li4, li5, li6, li7, li8, li9, li10, li11, li12, li13, li14, li15, li16, li17, li18, li19, li20, li21, li22, li23, li24, li25, li26, li27, li28, li29, li30, li31, li32, li33, li34, li35, li36, li37, li38, li39, li40, li41, li42, li43, li44, li45, li46, li47, li48, li49, li50, li51, li52, li53, li54, li55, li56, li57, li58, li59, li60, li64, li72, li87, li97, li98, li99, li100, li101, li102, li103, li104, li105, li108, li109, li110, li111, li112, li114, li115, li116, li117, li119, li120, li124, li126, li132, li139, li140, li148, li156, li1000, li1092, li1248, cl_isBand hb9, cl_in_good, hfl]
      · rw [if_neg (fun h => ha9 h.2.2)]
        refine XO.no (by omega) ?_
        obtain ⟨hl1, hl2⟩ := hl9
        have e : fX6_isWithin (nI a) (nI 1) (nI 60) σ = some (nI 0, σ) := cl_in_bad (lo := 1) (hi := 60) (nI_b1 ha0 (by omega) ha9) (by omega)
        unfold fX6_faultOfAdding
        simp (disch := omega) only [pu_OB, pu_LET, pu_OX0, pu_BND, pu_NZ, pu_BL, pu_m1, nI_add, pk_sub, pk_mul, pk_div, nI_clamp, pu_eq, pu_ne, pu_le_t, pu_le_f, pu_lt_t, pu_lt_f, pu_nm, pu_mm, pu_u2e, pu_u2n, ↓reduceIte, li0, li1, li2, li3, li4, li5, li6, li7, li8, li9, li10, li11, li12, li13, li14, li15, li16, li17, li18, li19, li20, li21, li22, li23, li24, li25, li26, li27, li28, li29, li30, li31, li32, li33, li34, li35, li36, li37, li38, li39, li40, li41, li42, li43, li44, li45, li46, li47, li48, li49, li50, li51, li52, li53, li54, li55, li56, li57, li58, li59, li60, li64, li72, li87, li97, li98, li99, li100, li101, li102, li103, li104, li105, li108, li109, li110, li111, li112, li114, li115, li116, li117, li119, li120, li124, li126, li132, li139, li140, li148, li156, li1000, li1092, li1248, cl_isBand hb9, cl_in_good, e]
    · rw [if_neg (fun h => hl9 h.2.1)]
      refine XO.no (by omega) ?_
      have e : fX6_isWithin (nI l) (nI 1) (nI 9) σ = some (nI 0, σ) := cl_in_bad (lo := 1) (hi := 9) (nI_b1 hl0 (by omega) hl9) (by omega)
      unfold fX6_faultOfAdding
      simp (disch := omega) only [pu_OB, pu_LET, pu_OX0, pu_BND, pu_NZ, pu_BL, pu_m1, nI_add, pk_sub, pk_mul, pk_div, nI_clamp, pu_eq, pu_ne, pu_le_t, pu_le_f, pu_lt_t, pu_lt_f, pu_nm, pu_mm, pu_u2e, pu_u2n, ↓reduceIte, li0, li1, li2, li3, li4, li5, li6, li7, li8, li9, li10, li11, li12, li13, li14, li15, li16, li17, li18, li19, li20, li21, li22, li23, li24, li25, li26, li27, li28, li29, li30, li31, li32, li33, li34, li35, li36, li37, li38, li39, li40, li41, li42, li43, li44, li45, li46, li47, li48, li49, li50, li51, li52, li53, li54, li55, li56, li57, li58, li59, li60, li64, li72, li87, li97, li98, li99, li100, li101, li102, li103, li104, li105, li108, li109, li110, li111, li112, li114, li115, li116, li117, li119, li120, li124, li126, li132, li139, li140, li148, li156, li1000, li1092, li1248, cl_isBand hb9, e]
  · rw [if_neg (fun h => hb9 h.1)]
    refine XO.no (by omega) ?_
    unfold fX6_faultOfAdding
    simp (disch := omega) only [pu_OB, pu_LET, pu_OX0, pu_BND, pu_NZ, pu_BL, pu_m1, nI_add, pk_sub, pk_mul, pk_div, nI_clamp, pu_eq, pu_ne, pu_le_t, pu_le_f, pu_lt_t, pu_lt_f, pu_nm, pu_mm, pu_u2e, pu_u2n, ↓reduceIte, li0, li1, li2, li3, li4, li5, li6, li7, li8, li9, li10, li11, li12, li13, li14, li15, li16, li17, li18, li19, li20, li21, li22, li23, li24, li25, li26, li27, li28, li29, li30, li31, li32, li33, li34, li35, li36, li37, li38, li39, li40, li41, li42, li43, li44, li45, li46, li47, li48, li49, li50, li51, li52, li53, li54, li55, li56, li57, li58, li59, li60, li64, li72, li87, li97, li98, li99, li100, li101, li102, li103, li104, li105, li108, li109, li110, li111, li112, li114, li115, li116, li117, li119, li120, li124, li126, li132, li139, li140, li148, li156, li1000, li1092, li1248, cl_isBand_x (nI_b0 hb0 hb9)]
theorem fi_at {L : List E4} {n : Nat} (h : L.findIdx (fun e => e.1 == n) < L.length) : (L.getD (L.findIdx (fun e => e.1 == n)) z4).1 = n := by
  have h1 := List.findIdx_getElem (xs := L) (p := fun e => e.1 == n) (w := h)
  rw [List.getD_eq_getElem?_getD, List.getElem?_eq_getElem h]
  exact beq_iff_eq.mp h1
theorem fi_no {L : List E4} {n : Nat} (h : ¬ L.findIdx (fun e => e.1 == n) < L.length) : ∀ e ∈ L, e.1 ≠ n := fun e he q => h (List.findIdx_lt_length_of_exists ⟨e, he, beq_iff_eq.mpr q⟩)
theorem xo_remove (hF : 2000 ≤ m) (hC : CR σ k X) (hI : IN X.1 X.2) (hs : IS X.1 0 T N) (hNN : N < 10 ^ 7) {n : Nat} (hn9 : n < 2 ^ 31) : XO k (fX6_faultOfRemoving m k (nI n)) (fX6_remove m k (nI n)) σ X T N (oRem X n) := by
  have hB : X.1 1 < 2 ^ 30 := by have := hs.1; omega
  unfold oRem
  by_cases hi : X.2.findIdx (fun e => e.1 == n) < X.2.length
  · rw [if_pos hi]
    have hat := fi_at hi
    generalize X.2.findIdx (fun e => e.1 == n) = i at *
    by_cases hw : wt X.1 (X.2.getD i z4) = true
    · rw [if_pos hw]
      obtain ⟨h1, h2⟩ := cl_remove (m := m) hF hC hI hB hi hw
      rw [hat] at h1 h2
      have hv := vg_rem hI hs hi hw
      exact XO.ok h1 h2 hv.1 (isMo hv.2 (by omega) (by omega))
    · rw [if_neg hw]
      replace hw := Bool.eq_false_iff.mpr hw
      have h1 := cl_remove_h (m := m) hF hC hI hB hi hw
      rw [hat] at h1
      exact XO.no (by omega) h1
  · rw [if_neg hi]
    have hno := fi_no hi
    refine XO.no (by omega) (cl_remove_x hF hC hI hB fun j hj q => ?_)
    have := hno _ (getD_mem hj)
    have hb := (hI.at hj).1
    exact this ((nI_eq (by omega) hn9).mp q)
theorem xo_release (hC : CR σ k X) (hI : IN X.1 X.2) (hs : IS X.1 0 T N) {w : Nat} (hw9 : w < 2 ^ 31) : XO k (fX6_faultOfReleasing k (nI w)) (fX6_release k (nI w)) σ X T N (oRel X w) := by
  unfold oRel
  by_cases hw : w < 3
  · rw [if_pos hw]
    have hCW := hC
    obtain ⟨-, W, hn⟩ := hCW
    have hfl := cl_isFull hn (by rw [hn.len]; exact hI.2.2.1)
    rw [hn.len] at hfl
    have hhd := cl_isHeld hn hw
    by_cases h0 : X.1 (13 + w) = 0
    · rw [if_pos h0]
      refine XO.no (by omega) ?_
      rw [h0] at hhd
      have e0 : hflag 0 = 0 := rfl
      unfold fX6_faultOfReleasing
      simp (disch := omega) only [pu_OB, pu_LET, pu_OX0, pu_BND, pu_NZ, pu_BL, pu_m1, nI_add, pk_sub, pk_mul, pk_div, nI_clamp, pu_eq, pu_ne, pu_le_t, pu_le_f, pu_lt_t, pu_lt_f, pu_nm, pu_mm, pu_u2e, pu_u2n, ↓reduceIte, li0, li1, li2, li3, li4, li5, li6, li7, li8, li9, li10, li11, li12, li13, li14, li15, li16, li17, li18, li19, li20, li21, li22, li23, li24, li25, li26, li27, li28, li29, li30, li31, li32, li33, li34, li35, li36, li37, li38, li39, li40, li41, li42, li43, li44, li45, li46, li47, li48, li49, li50, li51, li52, li53, li54, li55, li56, li57, li58, li59, li60, li64, li72, li87, li97, li98, li99, li100, li101, li102, li103, li104, li105, li108, li109, li110, li111, li112, li114, li115, li116, li117, li119, li120, li124, li126, li132, li139, li140, li148, li156, li1000, li1092, li1248, cl_isWheel hw, hhd, e0]
    · rw [if_neg h0]
      obtain ⟨e, he, hh⟩ := (hI.2.2.2.1 w hw).resolve_left h0
      have e1 : hflag (X.1 (13 + w)) = 1 := if_neg (by omega)
      by_cases c : X.2.countP (wt X.1) < 12
      · rw [if_pos c] at hfl
        rw [if_pos c, show X.1 (13 + w) - 1 = e.1 by omega]
        have hv := vg_free hI hs hw he hh c
        refine XO.ok ?_ (cl_release hC hI hw he hh c) hv.1 (isMo hv.2 (by omega) (by omega))
        unfold fX6_faultOfReleasing
        simp (disch := omega) only [pu_OB, pu_LET, pu_OX0, pu_BND, pu_NZ, pu_BL, pu_m1, nI_add, pk_sub, pk_mul, pk_div, nI_clamp, pu_eq, pu_ne, pu_le_t, pu_le_f, pu_lt_t, pu_lt_f, pu_nm, pu_mm, pu_u2e, pu_u2n, ↓reduceIte, li0, li1, li2, li3, li4, li5, li6, li7, li8, li9, li10, li11, li12, li13, li14, li15, li16, li17, li18, li19, li20, li21, li22, li23, li24, li25, li26, li27, li28, li29, li30, li31, li32, li33, li34, li35, li36, li37, li38, li39, li40, li41, li42, li43, li44, li45, li46, li47, li48, li49, li50, li51, li52, li53, li54, li55, li56, li57, li58, li59, li60, li64, li72, li87, li97, li98, li99, li100, li101, li102, li103, li104, li105, li108, li109, li110, li111, li112, li114, li115, li116, li117, li119, li120, li124, li126, li132, li139, li140, li148, li156, li1000, li1092, li1248, cl_isWheel hw, hhd, e1, hfl]
      · rw [if_neg c] at hfl
        rw [if_neg c]
        refine XO.no (by omega) ?_
        unfold fX6_faultOfReleasing
        simp (disch := omega) only [pu_OB, pu_LET, pu_OX0, pu_BND, pu_NZ, pu_BL, pu_m1, nI_add, pk_sub, pk_mul, pk_div, nI_clamp, pu_eq, pu_ne, pu_le_t, pu_le_f, pu_lt_t, pu_lt_f, pu_nm, pu_mm, pu_u2e, pu_u2n, ↓reduceIte, li0, li1, li2, li3, li4, li5, li6, li7, li8, li9, li10, li11, li12, li13, li14, li15, li16, li17, li18, li19, li20, li21, li22, li23, li24, li25, li26, li27, li28, li29, li30, li31, li32, li33, li34, li35, li36, li37, li38, li39, li40, li41, li42, li43, li44, li45, li46, li47, li48, li49, li50, li51, li52, li53, li54, li55, li56, li57, li58, li59, li60, li64, li72, li87, li97, li98, li99, li100, li101, li102, li103, li104, li105, li108, li109, li110, li111, li112, li114, li115, li116, li117, li119, li120, li124, li126, li132, li139, li140, li148, li156, li1000, li1092, li1248, cl_isWheel hw, hhd, e1, hfl]
  · rw [if_neg hw]
    refine XO.no (by omega) ?_
    unfold fX6_faultOfReleasing
    simp (disch := omega) only [pu_OB, pu_LET, pu_OX0, pu_BND, pu_NZ, pu_BL, pu_m1, nI_add, pk_sub, pk_mul, pk_div, nI_clamp, pu_eq, pu_ne, pu_le_t, pu_le_f, pu_lt_t, pu_lt_f, pu_nm, pu_mm, pu_u2e, pu_u2n, ↓reduceIte, li0, li1, li2, li3, li4, li5, li6, li7, li8, li9, li10, li11, li12, li13, li14, li15, li16, li17, li18, li19, li20, li21, li22, li23, li24, li25, li26, li27, li28, li29, li30, li31, li32, li33, li34, li35, li36, li37, li38, li39, li40, li41, li42, li43, li44, li45, li46, li47, li48, li49, li50, li51, li52, li53, li54, li55, li56, li57, li58, li59, li60, li64, li72, li87, li97, li98, li99, li100, li101, li102, li103, li104, li105, li108, li109, li110, li111, li112, li114, li115, li116, li117, li119, li120, li124, li126, li132, li139, li140, li148, li156, li1000, li1092, li1248, cl_isWheel_x (nI_b0 hw9 hw)]
theorem xo_ship (hC : CR σ k X) (hI : IN X.1 X.2) (hs : IS X.1 0 T N) {g n : Nat} (hg9 : g < 2 ^ 31) (hn9 : n < 2 ^ 31) : XO k (fX6_faultOfShipping k (nI g) (nI n)) (fX6_ship k (nI g) (nI n)) σ X T N (oShip X g n) := by
  unfold oShip
  by_cases hg : g < 4
  · by_cases hn : 1 ≤ n ∧ n ≤ 6
    · rw [if_pos ⟨hg, hn⟩]
      obtain ⟨hn1, hn2⟩ := hn
      have hf9 := (hs.2.2.2.1 g hg).1
      have efull := cl_full hC hg hf9
      by_cases c : n ≤ X.1 (28 + g) / 20
      · rw [if_pos c]
        have hv := vg_ship hI hs hg c
        refine XO.ok ?_ (cl_ship hC hg hf9 c) hv.1 (isMo hv.2 (by omega) (by omega))
        unfold fX6_faultOfShipping
        simp (disch := omega) only [pu_OB, pu_LET, pu_OX0, pu_BND, pu_NZ, pu_BL, pu_m1, nI_add, pk_sub, pk_mul, pk_div, nI_clamp, pu_eq, pu_ne, pu_le_t, pu_le_f, pu_lt_t, pu_lt_f, pu_nm, pu_mm, pu_u2e, pu_u2n, ↓reduceIte, li0, li1, li2, li3, li4, li5, li6, li7, li8, li9, li10, li11, li12, li13, li14, li15, li16, li17, li18, li19, li20, li21, li22, li23, li24, li25, li26, li27, li28, li29, li30, li31, li32, li33, li34, li35, li36, li37, li38, li39, li40, li41, li42, li43, li44, li45, li46, li47, li48, li49, li50, li51, li52, li53, li54, li55, li56, li57, li58, li59, li60, li64, li72, li87, li97, li98, li99, li100, li101, li102, li103, li104, li105, li108, li109, li110, li111, li112, li114, li115, li116, li117, li119, li120, li124, li126, li132, li139, li140, li148, li156, li1000, li1092, li1248, cl_isGrade hg, cl_in_good, efull]
      · rw [if_neg c]
        refine XO.no (by omega) ?_
        unfold fX6_faultOfShipping
        simp (disch := omega) only [pu_OB, pu_LET, pu_OX0, pu_BND, pu_NZ, pu_BL, pu_m1, nI_add, pk_sub, pk_mul, pk_div, nI_clamp, pu_eq, pu_ne, pu_le_t, pu_le_f, pu_lt_t, pu_lt_f, pu_nm, pu_mm, pu_u2e, pu_u2n, ↓reduceIte, li0, li1, li2, li3, li4, li5, li6, li7, li8, li9, li10, li11, li12, li13, li14, li15, li16, li17, li18, li19, li20, li21, li22, li23, li24, li25, li26, li27, li28, li29, li30, li31, li32, li33, li34, li35, li36, li37, li38, li39, li40, li41, li42, li43, li44, li45, li46, li47, li48, li49, li50, li51, li52, li53, li54, li55, li56, li57, li58, li59, li60, li64, li72, li87, li97, li98, li99, li100, li101, li102, li103, li104, li105, li108, li109, li110, li111, li112, li114, li115, li116, li117, li119, li120, li124, li126, li132, li139, li140, li148, li156, li1000, li1092, li1248, cl_isGrade hg, cl_in_good, efull]
    · rw [if_neg (fun h => hn h.2)]
      refine XO.no (by omega) ?_
      have e : fX6_isWithin (nI n) (nI 1) (nI 6) σ = some (nI 0, σ) := cl_in_bad (lo := 1) (hi := 6) (nI_b1 hn9 (by omega) hn) (by omega)
      unfold fX6_faultOfShipping
      simp (disch := omega) only [pu_OB, pu_LET, pu_OX0, pu_BND, pu_NZ, pu_BL, pu_m1, nI_add, pk_sub, pk_mul, pk_div, nI_clamp, pu_eq, pu_ne, pu_le_t, pu_le_f, pu_lt_t, pu_lt_f, pu_nm, pu_mm, pu_u2e, pu_u2n, ↓reduceIte, li0, li1, li2, li3, li4, li5, li6, li7, li8, li9, li10, li11, li12, li13, li14, li15, li16, li17, li18, li19, li20, li21, li22, li23, li24, li25, li26, li27, li28, li29, li30, li31, li32, li33, li34, li35, li36, li37, li38, li39, li40, li41, li42, li43, li44, li45, li46, li47, li48, li49, li50, li51, li52, li53, li54, li55, li56, li57, li58, li59, li60, li64, li72, li87, li97, li98, li99, li100, li101, li102, li103, li104, li105, li108, li109, li110, li111, li112, li114, li115, li116, li117, li119, li120, li124, li126, li132, li139, li140, li148, li156, li1000, li1092, li1248, cl_isGrade hg, e]
  · rw [if_neg (fun h => hg h.1)]
    refine XO.no (by omega) ?_
    unfold fX6_faultOfShipping
    simp (disch := omega) only [pu_OB, pu_LET, pu_OX0, pu_BND, pu_NZ, pu_BL, pu_m1, nI_add, pk_sub, pk_mul, pk_div, nI_clamp, pu_eq, pu_ne, pu_le_t, pu_le_f, pu_lt_t, pu_lt_f, pu_nm, pu_mm, pu_u2e, pu_u2n, ↓reduceIte, li0, li1, li2, li3, li4, li5, li6, li7, li8, li9, li10, li11, li12, li13, li14, li15, li16, li17, li18, li19, li20, li21, li22, li23, li24, li25, li26, li27, li28, li29, li30, li31, li32, li33, li34, li35, li36, li37, li38, li39, li40, li41, li42, li43, li44, li45, li46, li47, li48, li49, li50, li51, li52, li53, li54, li55, li56, li57, li58, li59, li60, li64, li72, li87, li97, li98, li99, li100, li101, li102, li103, li104, li105, li108, li109, li110, li111, li112, li114, li115, li116, li117, li119, li120, li124, li126, li132, li139, li140, li148, li156, li1000, li1092, li1248, cl_isGrade_x (nI_b0 hg9 hg)]
theorem xo_advance (hF : 2000 ≤ m) (hC : CR σ k X) (hI : IN X.1 X.2) (hs : IS X.1 0 T N) (hT : T + 40 < 10 ^ 7) (hNN : N < 10 ^ 7) {n : Nat} (hn9 : n < 2 ^ 31) : XO k (fX6_faultOfAdvancing (nI n)) (fX6_pass m k (nI n)) σ X T N (oAdv X n) := by
  unfold oAdv
  by_cases hn : 1 ≤ n ∧ n ≤ 40
  · rw [if_pos hn]
    obtain ⟨hn1, hn2⟩ := hn
    obtain ⟨τ, g, t1, t2, hg, t3⟩ := cl_pass (m := m) (n := n) hF hC hI hs (by omega) hNN (by omega)
    have hv := spN_inv (n := n) hI hs
    rw [show (spN n X).1 3 - X.1 3 = g by omega]
    refine XO.ok ?_ ⟨τ, t1, t2, t3⟩ hv.1 (isMo hv.2 (by omega) (by omega))
    unfold fX6_faultOfAdvancing
    simp (disch := omega) only [pu_OB, pu_LET, pu_OX0, pu_BND, pu_NZ, pu_BL, pu_m1, nI_add, pk_sub, pk_mul, pk_div, nI_clamp, pu_eq, pu_ne, pu_le_t, pu_le_f, pu_lt_t, pu_lt_f, pu_nm, pu_mm, pu_u2e, pu_u2n, ↓reduceIte, li0, li1, li2, li3, li4, li5, li6, li7, li8, li9, li10, li11, li12, li13, li14, li15, li16, li17, li18, li19, li20, li21, li22, li23, li24, li25, li26, li27, li28, li29, li30, li31, li32, li33, li34, li35, li36, li37, li38, li39, li40, li41, li42, li43, li44, li45, li46, li47, li48, li49, li50, li51, li52, li53, li54, li55, li56, li57, li58, li59, li60, li64, li72, li87, li97, li98, li99, li100, li101, li102, li103, li104, li105, li108, li109, li110, li111, li112, li114, li115, li116, li117, li119, li120, li124, li126, li132, li139, li140, li148, li156, li1000, li1092, li1248, cl_in_good]
  · rw [if_neg hn]
    refine XO.no (by omega) ?_
    have e : fX6_isWithin (nI n) (nI 1) (nI 40) σ = some (nI 0, σ) := cl_in_bad (lo := 1) (hi := 40) (nI_b1 hn9 (by omega) hn) (by omega)
    unfold fX6_faultOfAdvancing
    simp (disch := omega) only [pu_OB, pu_LET, pu_OX0, pu_BND, pu_NZ, pu_BL, pu_m1, nI_add, pk_sub, pk_mul, pk_div, nI_clamp, pu_eq, pu_ne, pu_le_t, pu_le_f, pu_lt_t, pu_lt_f, pu_nm, pu_mm, pu_u2e, pu_u2n, ↓reduceIte, li0, li1, li2, li3, li4, li5, li6, li7, li8, li9, li10, li11, li12, li13, li14, li15, li16, li17, li18, li19, li20, li21, li22, li23, li24, li25, li26, li27, li28, li29, li30, li31, li32, li33, li34, li35, li36, li37, li38, li39, li40, li41, li42, li43, li44, li45, li46, li47, li48, li49, li50, li51, li52, li53, li54, li55, li56, li57, li58, li59, li60, li64, li72, li87, li97, li98, li99, li100, li101, li102, li103, li104, li105, li108, li109, li110, li111, li112, li114, li115, li116, li117, li119, li120, li124, li126, li132, li139, li140, li148, li156, li1000, li1092, li1248, e]
end XOS
-- ===== a change called: pushed and done, or refused =====
section KH
variable {σ : St} {m C : Nat} {A : AM} {H : List AM} {S : Option AM} {B : List Nat} {er fl : Option Nat}
def KO (fc : Option ((Nat × Int32) × St)) (σ : St) (A : AM) (H : List AM) (S : Option AM) (B : List Nat) (er fl : Option Nat) (C : Nat) (o : OU) : Prop :=
  (o.1 = 0 ∧ ∃ τ, fc = some ((0, o.2.1), τ) ∧ KG τ o.2.2 (pushH H A) S B er fl (C + 1)) ∨ (0 < o.1 ∧ o.1 < 6 ∧ fc = some ((rcode o.1, 0), σ) ∧ o.2.2 = A)
theorem rcode_ne {f : Nat} (h : 0 < f ∧ f < 6) : rcode f ≠ 0 := by
  rcases (show f = 1 ∨ f = 2 ∨ f = 3 ∨ f = 4 ∨ f = 5 by omega) with rfl | rfl | rfl | rfl | rfl <;> decide
theorem kh {fo opc : St → Option (Int32 × St)} {o : OU} (hF : 2000 ≤ m) (h : KG σ A H S B er fl C) (hx : ∀ σ1, CR σ1 0 A → XO 0 fo opc σ1 A (480 * C) (12 * C) o) : KO (OB (fo σ) fun r1 s2 => BND r1 6 <| OX (fX11_refuse r1 s2) 0 fun r5 s6 => OB (fX3_push m 0 s6) fun r8 s9 => OB (opc s9) fun r11 s12 => some ((0, r11), s12)) σ A H S B er fl C o := by
  obtain ⟨g1, g2, g3, g4, g5, g6⟩ := h
  rcases hx σ g1 with ⟨e0, hfo, -, hI, hs⟩ | ⟨e0, e6, e1, hfo⟩
  · obtain ⟨σ1, p1, p2, p3, p4⟩ := cl_push hF g1 g2 g3
    rcases hx σ1 p2 with ⟨-, -, ⟨τ, o1, o2, o3⟩, -, -⟩ | ⟨q0, -⟩
    · refine Or.inl ⟨e0, τ, ?_, o2, p3.of (fun c q1 q2 => o3 c (by omega)) (by rw [o3 _ (by omega)]) (o3 _ (by omega)), VG.up (A := A) ⟨hI, hs⟩ (by omega) (by omega), vg_push g3 g4, fun X hX => (g5 X hX).mono (by omega), g6⟩
      have er0 : fX11_refuse (nI 0) σ = some ((0, (0 : Int32)), σ) := cl_refuse (f := 0) (by omega)
      rw [hfo, pu_OB, pu_BND (by omega) (by omega), er0, pu_OX0, p1, pu_OB, o1, pu_OB]
    · exact absurd e0 (by omega)
  · refine Or.inr ⟨e0, e6, ?_, e1⟩
    rw [hfo, pu_OB, pu_BND (by omega) (by omega), cl_refuse (by omega), pu_OXc (rcode_ne ⟨e0, e6⟩)]
theorem k_gear (hF : 2000 ≤ m) (h : KG σ A H S B er fl C) {w g : Nat} (hw : w < 2 ^ 31) (hg : g < 2 ^ 31) : KO (fX11_setGear m (nI w) (nI g) σ) σ A H S B er fl C (oGear A w g) := by
  have h3 := h.2.2.1
  unfold fX11_setGear
  exact kh (fo := fX6_faultOfGear (nI w) (nI g)) (opc := fX6_changeGear 0 (nI w) (nI g)) hF h fun σ1 c1 => xo_gear c1 h3.1 h3.2 hw hg
theorem k_mesh (hF : 2000 ≤ m) (h : KG σ A H S B er fl C) {w g : Nat} (hw : w < 2 ^ 31) (hg : g < 2 ^ 31) : KO (fX11_setMesh m (nI w) (nI g) σ) σ A H S B er fl C (oMesh A w g) := by
  have h3 := h.2.2.1
  unfold fX11_setMesh
  exact kh (fo := fX6_faultOfMesh (nI w) (nI g)) (opc := fX6_changeMesh 0 (nI w) (nI g)) hF h fun σ1 c1 => xo_mesh c1 h3.1 h3.2 hw hg
theorem k_clear (hF : 2000 ≤ m) (h : KG σ A H S B er fl C) {w : Nat} (hw : w < 2 ^ 31) : KO (fX11_clearWheel m (nI w) σ) σ A H S B er fl C (oClear A w) := by
  have h3 := h.2.2.1
  unfold fX11_clearWheel
  exact kh (fo := fX6_faultOfClearing (nI w)) (opc := fX6_clear 0 (nI w)) hF h fun σ1 c1 => xo_clear c1 h3.1 h3.2 hw
theorem k_add (hF : 2000 ≤ m) (h : KG σ A H S B er fl C) {b l a : Nat} (hb : b < 2 ^ 31) (hl : l < 2 ^ 31) (ha : a < 2 ^ 31) : KO (fX11_addNoise m (nI b) (nI l) (nI a) σ) σ A H S B er fl C (oAdd A b l a) := by
  have h3 := h.2.2.1
  unfold fX11_addNoise
  exact kh (fo := fX6_faultOfAdding 0 (nI b) (nI l) (nI a)) (opc := fX6_add 0 (nI b) (nI l) (nI a)) hF h fun σ1 c1 => xo_add c1 h3.1 h3.2 hb hl ha
theorem k_remove (hF : 2000 ≤ m) (hC : C < 512) (h : KG σ A H S B er fl C) {n : Nat} (hn : n < 2 ^ 31) : KO (fX11_removeNoise m (nI n) σ) σ A H S B er fl C (oRem A n) := by
  have h3 := h.2.2.1
  unfold fX11_removeNoise
  exact kh (fo := fX6_faultOfRemoving m 0 (nI n)) (opc := fX6_remove m 0 (nI n)) hF h fun σ1 c1 => xo_remove hF c1 h3.1 h3.2 (by omega) hn
theorem k_release (hF : 2000 ≤ m) (h : KG σ A H S B er fl C) {w : Nat} (hw : w < 2 ^ 31) : KO (fX11_releaseNoise m (nI w) σ) σ A H S B er fl C (oRel A w) := by
  have h3 := h.2.2.1
  unfold fX11_releaseNoise
  exact kh (fo := fX6_faultOfReleasing 0 (nI w)) (opc := fX6_release 0 (nI w)) hF h fun σ1 c1 => xo_release c1 h3.1 h3.2 hw
theorem k_ship (hF : 2000 ≤ m) (h : KG σ A H S B er fl C) {g n : Nat} (hg : g < 2 ^ 31) (hn : n < 2 ^ 31) : KO (fX11_shipSacks m (nI g) (nI n) σ) σ A H S B er fl C (oShip A g n) := by
  have h3 := h.2.2.1
  unfold fX11_shipSacks
  exact kh (fo := fX6_faultOfShipping 0 (nI g) (nI n)) (opc := fX6_ship 0 (nI g) (nI n)) hF h fun σ1 c1 => xo_ship c1 h3.1 h3.2 hg hn
theorem k_advance (hF : 2000 ≤ m) (hC : C < 512) (h : KG σ A H S B er fl C) {n : Nat} (hn : n < 2 ^ 31) : KO (fX11_advance m (nI n) σ) σ A H S B er fl C (oAdv A n) := by
  have h3 := h.2.2.1
  unfold fX11_advance
  exact kh (fo := fX6_faultOfAdvancing (nI n)) (opc := fX6_pass m 0 (nI n)) hF h fun σ1 c1 => xo_advance hF c1 h3.1 h3.2 (by omega) (by omega) hn
end KH

