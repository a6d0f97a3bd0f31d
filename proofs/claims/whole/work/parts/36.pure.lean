-- ===== what one call keeps: the relation of object and reference =====
def bOk (B : List Nat) : Prop := ∀ b ∈ B, 32 ≤ b ∧ b ≤ 126
def tOk (T : List Nat) : Prop := ∀ t ∈ T, t < 256
/-- object σ and reference s stand for the same mill, after C calls; T: the text -/
def GG (σ s : St) (C : Nat) (T : List Nat) : Prop := ∃ (A : AM) (H : List AM) (S : Option AM) (B : List Nat) (er fl : Option Nat), CR σ 0 A ∧ CX σ H S B er fl ∧ (SM s 1 A.1 ∧ NM s 1 A.2) ∧ RX s H S B er fl T ∧ VG A C ∧ (∀ i, i < H.length → VG (H.getD i A0) C) ∧ (∀ X, S = some X → VG X C) ∧ bOk B ∧ tOk T
/-- one call: what the object does, what the reference does -/
def CASE {α : Type} (fc : Option ((Nat × α) × St)) (fr : Option (α × St)) (codes : List Nat) (C : Nat) (T : List Nat) : Prop :=
  ∃ (c : Nat) (r : α) (σ' : St) (r' : α) (s' : St), fc = some ((c, r), σ') ∧ fr = some (r', s') ∧ (c = 0 ∨ c ∈ codes) ∧ s' 0 13 = hix codes c ∧ (c = 0 → r = r') ∧ GG σ' s' (C + 1) T
def CASI (fc : Option (Int32 × St)) (fr : Option (Int32 × St)) (C : Nat) (T : List Nat) : Prop := ∃ (r : Int32) (σ' s' : St), fc = some (r, σ') ∧ fr = some (r, s') ∧ GG σ' s' (C + 1) T
def rcode (f : Nat) : Nat := [0, 2, 1, 3, 4, 5].getD f 0
theorem cl_refuse {f : Nat} {σ : St} (hf : f < 6) : fX11_refuse (nI f) σ = some ((rcode f, 0), σ) := by
  rcases (show f = 0 ∨ f = 1 ∨ f = 2 ∨ f = 3 ∨ f = 4 ∨ f = 5 by omega) with rfl | rfl | rfl | rfl | rfl | rfl <;> rfl
theorem vg_push {H : List AM} {A : AM} {C : Nat} (hA : VG A C) (hH : ∀ i, i < H.length → VG (H.getD i A0) C) : ∀ i, i < (pushH H A).length → VG ((pushH H A).getD i A0) (C + 1) := by
  intro i hi
  rw [push_get]
  rw [push_len] at hi
  by_cases c : H.length = 8
  · rw [if_pos c] at hi ⊢
    by_cases c7 : i < 7
    · rw [if_pos c7]
      exact (hH _ (by omega)).mono (by omega)
    · rw [if_neg c7, if_pos (by omega)]
      exact hA.mono (by omega)
  · rw [if_neg c] at hi ⊢
    by_cases c7 : i < H.length
    · rw [if_pos c7]
      exact (hH _ c7).mono (by omega)
    · rw [if_neg c7, if_pos (by omega)]
      exact hA.mono (by omega)
section CH
variable {σ s : St} {m C : Nat} {A X : AM} {H : List AM} {S : Option AM} {B : List Nat} {er fl : Option Nat} {T : List Nat} {codes : List Nat}
theorem ch_ok {fo opc opr : St → Option (Int32 × St)} {r : Int32} (hF : 2000 ≤ m) (hC : CR σ 0 A) (hX : CX σ H S B er fl) (hM : SM s 1 A.1 ∧ NM s 1 A.2) (hR : RX s H S B er fl T) (hV : VG A C) (hVH : ∀ i, i < H.length → VG (H.getD i A0) C) (hVS : ∀ X, S = some X → VG X C) (hB : bOk B) (hT : tOk T)
    (hfo : fo σ = some (nI 0, σ)) (hopc : ∀ σ1, CR σ1 0 A → ∃ τ, opc σ1 = some (r, τ) ∧ CR τ 0 X ∧ ∀ c, c < 0 ∨ 0 + 19 ≤ c → τ c = σ1 c) (hopr : ∀ s1, SM s1 1 A.1 → NM s1 1 A.2 → RO (opr s1) s1 r 0 X) (hVX : VG X (C + 1)) :
    CASE (OB (fo σ) fun r1 s2 => BND r1 6 <| OX (fX11_refuse r1 s2) 0 fun r5 s6 => OB (fX3_push m 0 s6) fun r8 s9 => OB (opc s9) fun r11 s12 => some ((0, r11), s12)) (OB (fX12_begin m s) fun _ s2 => OB (opr s2) fun r4 s5 => OB (fX12_kept m r4 s5) fun r7 s8 => some (r7, s8)) codes C T := by
  obtain ⟨t, k1, k2, k3, k4, k5⟩ := rf_change (m := m) (op := opr) (X := X) (r := r) (c := 0) hF hM.1 hM.2 hR hV.1.len (fun i hi => (hVH i hi).1.len) (by omega) hopr
  rw [if_pos rfl] at k1 k2 k3 k4
  obtain ⟨σ1, p1, p2, p3, p4⟩ := cl_push hF hC hX hV
  obtain ⟨τ, o1, o2, o3⟩ := hopc σ1 p2
  have er0 : fX11_refuse (nI 0) σ = some ((0, (0 : Int32)), σ) := cl_refuse (f := 0) (by omega)
  refine ⟨0, r, τ, r, t, ?_, k1, Or.inl rfl, by rw [k5]; exact nI_0, fun _ => rfl, X, pushH H A, S, B, er, fl, o2, p3.of (fun c q1 q2 => o3 c (by omega)) (by rw [o3 _ (by omega)]) (o3 _ (by omega)), ⟨k2, k3⟩, k4, hVX, vg_push hV hVH, fun X hX => (hVS X hX).mono (by omega), hB, hT⟩
  rw [hfo, pu_OB, pu_BND (by omega) (by omega), er0, pu_OX0, p1, pu_OB, o1, pu_OB]
theorem ch_x {fo opc opr : St → Option (Int32 × St)} {f k : Nat} (hF : 2000 ≤ m) (hC : CR σ 0 A) (hX : CX σ H S B er fl) (hM : SM s 1 A.1 ∧ NM s 1 A.2) (hR : RX s H S B er fl T) (hV : VG A C) (hVH : ∀ i, i < H.length → VG (H.getD i A0) C) (hVS : ∀ X, S = some X → VG X C) (hB : bOk B) (hT : tOk T)
    (hf : 0 < f ∧ f < 6) (hk : k < 100) (hfo : fo σ = some (nI f, σ)) (hopr : ∀ s1, SM s1 1 A.1 → NM s1 1 A.2 → RO (opr s1) s1 (nI 0) k A) (hcd : nI k = hix codes (rcode f)) (hk0 : k ≠ 0) (hmem : rcode f ∈ codes) :
    CASE (OB (fo σ) fun r1 s2 => BND r1 6 <| OX (fX11_refuse r1 s2) 0 fun r5 s6 => OB (fX3_push m 0 s6) fun r8 s9 => OB (opc s9) fun r11 s12 => some ((0, r11), s12)) (OB (fX12_begin m s) fun _ s2 => OB (opr s2) fun r4 s5 => OB (fX12_kept m r4 s5) fun r7 s8 => some (r7, s8)) codes C T := by
  obtain ⟨t, k1, k2, k3, k4, k5⟩ := rf_change (m := m) (op := opr) (X := A) (r := nI 0) (c := k) hF hM.1 hM.2 hR hV.1.len (fun i hi => (hVH i hi).1.len) hk hopr
  have hz : (if k = 0 then A else A) = A := by split <;> rfl
  rw [hz] at k2 k3
  rw [if_neg hk0] at k4
  have hr0 : rcode f ≠ 0 := by
    rcases (show f = 1 ∨ f = 2 ∨ f = 3 ∨ f = 4 ∨ f = 5 by omega) with rfl | rfl | rfl | rfl | rfl <;> decide
  refine ⟨rcode f, 0, σ, _, t, ?_, k1, Or.inr hmem, by rw [k5]; exact hcd, fun h => absurd h hr0, A, H, S, B, er, fl, hC, hX, ⟨k2, k3⟩, k4, hV.mono (by omega), fun i hi => (hVH i hi).mono (by omega), fun X hX => (hVS X hX).mono (by omega), hB, hT⟩
  rw [hfo, pu_OB, pu_BND (by omega) (by omega), cl_refuse (by omega), pu_OXc hr0]
end CH
section CA
variable {σ s : St} {m C : Nat} {T : List Nat}
theorem VG.up {A X : AM} {C T' N' : Nat} (h : IN X.1 X.2 ∧ IS X.1 0 T' N') (hT : T' ≤ 480 * (C + 1)) (hN : N' ≤ 12 * (C + 1)) : VG X (C + 1) := ⟨h.1, by have := h.2.1; omega, h.2.2⟩
theorem ca_setGear (hF : 2000 ≤ m) (hC : C < 512) (h : GG σ s C T) (p q : Int32) : CASE (fX11_setGear m p q σ) (fX12_setGear m p q s) [2, 1] C T := by
  obtain ⟨A, H, S, B, er, fl, g1, g2, g3, g4, g5, g6, g7, g8, g9⟩ := h
  have hl := g5.1.len
  unfold fX11_setGear fX12_setGear
  rcases rng0 p (n := 3) (by omega) with hp | ⟨w, hw, rfl⟩
  · refine ch_x (fo := fX6_faultOfGear p q) (opc := fX6_changeGear 0 p q) (opr := fX12_gears p q) (f := 1) (k := 1) hF g1 g2 g3 g4 g5 g6 g7 g8 g9 (by omega) (by omega) ?_ (fun s1 a b => rf_gears_x1 a b hp) (by decide +kernel) (by omega) (by decide)
    unfold fX6_faultOfGear
    simp (disch := omega) only [pu_OB, pu_LET, pu_OX0, pu_BND, pu_NZ, pu_BL, pu_m1, nI_add, pk_sub, pk_mul, pk_div, nI_clamp, pu_eq, pu_ne, pu_le_t, pu_le_f, pu_lt_t, pu_lt_f, pu_nm, pu_mm, pu_u2e, pu_u2n, ↓reduceIte, li0, li1, li2, li3, li4, li5, li6, li7, li8, li9, li10, li11, li12, li13, li14, li15, li16, li17, li18, li19, li20, li21, li22, li23, li24, li25, li26, li27, li28, li29, li30, li31, li32, li33, li34, li35, li36, li37, li38, li39, li40, li41, li42, li43, li44, li45, li46, li47, li48, li49, li50, li51, li52, li53, li54, li55, li56, li57, li58, li59, li60, li64, li72, li87, li97, li98, li99, li100, li101, li102, li103, li104, li105, li108, li109, li110, li111, li112, li114, li115, li116, li117, li119, li120, li124, li126, li132, li139, li140, li148, li156, li1000, li1092, li1248, cl_isWheel_x hp]
  · rcases rng1 q (n := 5) (by omega) with hq | ⟨g, hg1, hg2, rfl⟩
    · refine ch_x (fo := fX6_faultOfGear (nI w) q) (opc := fX6_changeGear 0 (nI w) q) (opr := fX12_gears (nI w) q) (f := 2) (k := 2) hF g1 g2 g3 g4 g5 g6 g7 g8 g9 (by omega) (by omega) ?_ (fun s1 a b => rf_gears_x2 a b hw hq) (by decide +kernel) (by omega) (by decide)
      have e : fX12_in q (nI 1) (nI 5) σ = some (nI 0, σ) := rf_in_bad (lo := 1) (hi := 5) hq (by omega)
      unfold fX6_faultOfGear
      simp (disch := omega) only [pu_OB, pu_LET, pu_OX0, pu_BND, pu_NZ, pu_BL, pu_m1, nI_add, pk_sub, pk_mul, pk_div, nI_clamp, pu_eq, pu_ne, pu_le_t, pu_le_f, pu_lt_t, pu_lt_f, pu_nm, pu_mm, pu_u2e, pu_u2n, ↓reduceIte, li0, li1, li2, li3, li4, li5, li6, li7, li8, li9, li10, li11, li12, li13, li14, li15, li16, li17, li18, li19, li20, li21, li22, li23, li24, li25, li26, li27, li28, li29, li30, li31, li32, li33, li34, li35, li36, li37, li38, li39, li40, li41, li42, li43, li44, li45, li46, li47, li48, li49, li50, li51, li52, li53, li54, li55, li56, li57, li58, li59, li60, li64, li72, li87, li97, li98, li99, li100, li101, li102, li103, li104, li105, li108, li109, li110, li111, li112, li114, li115, li116, li117, li119, li120, li124, li126, li132, li139, li140, li148, li156, li1000, li1092, li1248, cl_isWheel hw, cl_within, e]
    · refine ch_ok (fo := fX6_faultOfGear (nI w) (nI g)) (opc := fX6_changeGear 0 (nI w) (nI g)) (opr := fX12_gears (nI w) (nI g)) (r := nI (A.1 (7 + w))) (X := (upN A.1 (7 + w) g, A.2)) hF g1 g2 g3 g4 g5 g6 g7 g8 g9 ?_ (fun σ1 c1 => ⟨_, (cl_gear c1 hw).1, (cl_gear c1 hw).2, fun c hc => pu_u2r (by omega)⟩) (fun s1 a b => rf_gears a b hl hw ⟨hg1, hg2⟩) (VG.up (A := A) (vg_gear g5.1 g5.2 hw ⟨hg1, hg2⟩) (by omega) (by omega))
      unfold fX6_faultOfGear
      simp (disch := omega) only [pu_OB, pu_LET, pu_OX0, pu_BND, pu_NZ, pu_BL, pu_m1, nI_add, pk_sub, pk_mul, pk_div, nI_clamp, pu_eq, pu_ne, pu_le_t, pu_le_f, pu_lt_t, pu_lt_f, pu_nm, pu_mm, pu_u2e, pu_u2n, ↓reduceIte, li0, li1, li2, li3, li4, li5, li6, li7, li8, li9, li10, li11, li12, li13, li14, li15, li16, li17, li18, li19, li20, li21, li22, li23, li24, li25, li26, li27, li28, li29, li30, li31, li32, li33, li34, li35, li36, li37, li38, li39, li40, li41, li42, li43, li44, li45, li46, li47, li48, li49, li50, li51, li52, li53, li54, li55, li56, li57, li58, li59, li60, li64, li72, li87, li97, li98, li99, li100, li101, li102, li103, li104, li105, li108, li109, li110, li111, li112, li114, li115, li116, li117, li119, li120, li124, li126, li132, li139, li140, li148, li156, li1000, li1092, li1248, cl_isWheel hw, cl_within, rf_in_good]
theorem ca_setMesh (hF : 2000 ≤ m) (hC : C < 512) (h : GG σ s C T) (p q : Int32) : CASE (fX11_setMesh m p q σ) (fX12_setMesh m p q s) [1] C T := by
  obtain ⟨A, H, S, B, er, fl, g1, g2, g3, g4, g5, g6, g7, g8, g9⟩ := h
  have hl := g5.1.len
  unfold fX11_setMesh fX12_setMesh
  rcases rng0 p (n := 8) (by omega) with hp | ⟨w, hw, rfl⟩
  · refine ch_x (fo := fX6_faultOfMesh p q) (opc := fX6_changeMesh 0 p q) (opr := fX12_meshes p q) (f := 2) (k := 1) hF g1 g2 g3 g4 g5 g6 g7 g8 g9 (by omega) (by omega) ?_ (fun s1 a b => rf_meshes_x a b (Or.inl hp)) (by decide +kernel) (by omega) (by decide)
    unfold fX6_faultOfMesh
    simp (disch := omega) only [pu_OB, pu_LET, pu_OX0, pu_BND, pu_NZ, pu_BL, pu_m1, nI_add, pk_sub, pk_mul, pk_div, nI_clamp, pu_eq, pu_ne, pu_le_t, pu_le_f, pu_lt_t, pu_lt_f, pu_nm, pu_mm, pu_u2e, pu_u2n, ↓reduceIte, li0, li1, li2, li3, li4, li5, li6, li7, li8, li9, li10, li11, li12, li13, li14, li15, li16, li17, li18, li19, li20, li21, li22, li23, li24, li25, li26, li27, li28, li29, li30, li31, li32, li33, li34, li35, li36, li37, li38, li39, li40, li41, li42, li43, li44, li45, li46, li47, li48, li49, li50, li51, li52, li53, li54, li55, li56, li57, li58, li59, li60, li64, li72, li87, li97, li98, li99, li100, li101, li102, li103, li104, li105, li108, li109, li110, li111, li112, li114, li115, li116, li117, li119, li120, li124, li126, li132, li139, li140, li148, li156, li1000, li1092, li1248, cl_isBand_x hp]
  · rcases rng0 q (n := 10) (by omega) with hq | ⟨g, hg, rfl⟩
    · refine ch_x (fo := fX6_faultOfMesh (nI w) q) (opc := fX6_changeMesh 0 (nI w) q) (opr := fX12_meshes (nI w) q) (f := 2) (k := 1) hF g1 g2 g3 g4 g5 g6 g7 g8 g9 (by omega) (by omega) ?_ (fun s1 a b => rf_meshes_x a b (Or.inr hq)) (by decide +kernel) (by omega) (by decide)
      have e : fX12_in q (nI 0) (nI 9) σ = some (nI 0, σ) := rf_in_bad (lo := 0) (hi := 9) hq (by omega)
      unfold fX6_faultOfMesh
      simp (disch := omega) only [pu_OB, pu_LET, pu_OX0, pu_BND, pu_NZ, pu_BL, pu_m1, nI_add, pk_sub, pk_mul, pk_div, nI_clamp, pu_eq, pu_ne, pu_le_t, pu_le_f, pu_lt_t, pu_lt_f, pu_nm, pu_mm, pu_u2e, pu_u2n, ↓reduceIte, li0, li1, li2, li3, li4, li5, li6, li7, li8, li9, li10, li11, li12, li13, li14, li15, li16, li17, li18, li19, li20, li21, li22, li23, li24, li25, li26, li27, li28, li29, li30, li31, li32, li33, li34, li35, li36, li37, li38, li39, li40, li41, li42, li43, li44, li45, li46, li47, li48, li49, li50, li51, li52, li53, li54, li55, li56, li57, li58, li59, li60, li64, li72, li87, li97, li98, li99, li100, li101, li102, li103, li104, li105, li108, li109, li110, li111, li112, li114, li115, li116, li117, li119, li120, li124, li126, li132, li139, li140, li148, li156, li1000, li1092, li1248, cl_isBand hw, cl_within, e]
    · refine ch_ok (fo := fX6_faultOfMesh (nI w) (nI g)) (opc := fX6_changeMesh 0 (nI w) (nI g)) (opr := fX12_meshes (nI w) (nI g)) (r := nI (A.1 (16 + w))) (X := (upN A.1 (16 + w) g, A.2)) hF g1 g2 g3 g4 g5 g6 g7 g8 g9 ?_ (fun σ1 c1 => ⟨_, (cl_mesh c1 hw).1, (cl_mesh c1 hw).2, fun c hc => pu_u2r (by omega)⟩) (fun s1 a b => rf_meshes a b hl hw hg) (VG.up (A := A) (vg_mesh g5.1 g5.2 hw hg) (by omega) (by omega))
      unfold fX6_faultOfMesh
      simp (disch := omega) only [pu_OB, pu_LET, pu_OX0, pu_BND, pu_NZ, pu_BL, pu_m1, nI_add, pk_sub, pk_mul, pk_div, nI_clamp, pu_eq, pu_ne, pu_le_t, pu_le_f, pu_lt_t, pu_lt_f, pu_nm, pu_mm, pu_u2e, pu_u2n, ↓reduceIte, li0, li1, li2, li3, li4, li5, li6, li7, li8, li9, li10, li11, li12, li13, li14, li15, li16, li17, li18, li19, li20, li21, li22, li23, li24, li25, li26, li27, li28, li29, li30, li31, li32, li33, li34, li35, li36, li37, li38, li39, li40, li41, li42, li43, li44, li45, li46, li47, li48, li49, li50, li51, li52, li53, li54, li55, li56, li57, li58, li59, li60, li64, li72, li87, li97, li98, li99, li100, li101, li102, li103, li104, li105, li108, li109, li110, li111, li112, li114, li115, li116, li117, li119, li120, li124, li126, li132, li139, li140, li148, li156, li1000, li1092, li1248, cl_isBand hw, cl_within, rf_in_good]
theorem ca_clearWheel (hF : 2000 ≤ m) (hC : C < 512) (h : GG σ s C T) (p : Int32) : CASE (fX11_clearWheel m p σ) (fX12_clearWheel m p s) [2] C T := by
  obtain ⟨A, H, S, B, er, fl, g1, g2, g3, g4, g5, g6, g7, g8, g9⟩ := h
  have hl := g5.1.len
  unfold fX11_clearWheel fX12_clearWheel
  rcases rng0 p (n := 3) (by omega) with hp | ⟨w, hw, rfl⟩
  · refine ch_x (fo := fX6_faultOfClearing p) (opc := fX6_clear 0 p) (opr := fX12_clears p) (f := 1) (k := 1) hF g1 g2 g3 g4 g5 g6 g7 g8 g9 (by omega) (by omega) ?_ (fun s1 a b => rf_clears_x a b hp) (by decide +kernel) (by omega) (by decide)
    unfold fX6_faultOfClearing
    simp (disch := omega) only [pu_OB, pu_LET, pu_OX0, pu_BND, pu_NZ, pu_BL, pu_m1, nI_add, pk_sub, pk_mul, pk_div, nI_clamp, pu_eq, pu_ne, pu_le_t, pu_le_f, pu_lt_t, pu_lt_f, pu_nm, pu_mm, pu_u2e, pu_u2n, ↓reduceIte, li0, li1, li2, li3, li4, li5, li6, li7, li8, li9, li10, li11, li12, li13, li14, li15, li16, li17, li18, li19, li20, li21, li22, li23, li24, li25, li26, li27, li28, li29, li30, li31, li32, li33, li34, li35, li36, li37, li38, li39, li40, li41, li42, li43, li44, li45, li46, li47, li48, li49, li50, li51, li52, li53, li54, li55, li56, li57, li58, li59, li60, li64, li72, li87, li97, li98, li99, li100, li101, li102, li103, li104, li105, li108, li109, li110, li111, li112, li114, li115, li116, li117, li119, li120, li124, li126, li132, li139, li140, li148, li156, li1000, li1092, li1248, cl_isWheel_x hp]
  · refine ch_ok (fo := fX6_faultOfClearing (nI w)) (opc := fX6_clear 0 (nI w)) (opr := fX12_clears (nI w)) (r := nI (A.1 (10 + w))) (X := (upN A.1 (10 + w) 0, A.2)) hF g1 g2 g3 g4 g5 g6 g7 g8 g9 ?_ (fun σ1 c1 => ⟨_, (cl_clear c1 hw).1, (cl_clear c1 hw).2, fun c hc => pu_u2r (by omega)⟩) (fun s1 a b => rf_clears a b hl hw) (VG.up (A := A) (vg_wear g5.1 g5.2 hw) (by omega) (by omega))
    unfold fX6_faultOfClearing
    simp (disch := omega) only [pu_OB, pu_LET, pu_OX0, pu_BND, pu_NZ, pu_BL, pu_m1, nI_add, pk_sub, pk_mul, pk_div, nI_clamp, pu_eq, pu_ne, pu_le_t, pu_le_f, pu_lt_t, pu_lt_f, pu_nm, pu_mm, pu_u2e, pu_u2n, ↓reduceIte, li0, li1, li2, li3, li4, li5, li6, li7, li8, li9, li10, li11, li12, li13, li14, li15, li16, li17, li18, li19, li20, li21, li22, li23, li24, li25, li26, li27, li28, li29, li30, li31, li32, li33, li34, li35, li36, li37, li38, li39, li40, li41, li42, li43, li44, li45, li46, li47, li48, li49, li50, li51, li52, li53, li54, li55, li56, li57, li58, li59, li60, li64, li72, li87, li97, li98, li99, li100, li101, li102, li103, li104, li105, li108, li109, li110, li111, li112, li114, li115, li116, li117, li119, li120, li124, li126, li132, li139, li140, li148, li156, li1000, li1092, li1248, cl_isWheel hw]
theorem ca_addNoise (hF : 2000 ≤ m) (hC : C < 512) (h : GG σ s C T) (p q r : Int32) : CASE (fX11_addNoise m p q r σ) (fX12_addNoise m p q r s) [1, 4] C T := by
  obtain ⟨A, H, S, B, er, fl, g1, g2, g3, g4, g5, g6, g7, g8, g9⟩ := h
  have hB := g5.B (by omega)
  unfold fX11_addNoise fX12_addNoise
  have bad : (p < 0 ∨ nI 8 ≤ p) ∨ (q < 1 ∨ nI 10 ≤ q) ∨ (r < 1 ∨ nI 61 ≤ r) → CASE (OB (fX6_faultOfAdding 0 p q r σ) fun r1 s2 => BND r1 6 <| OX (fX11_refuse r1 s2) 0 fun r5 s6 => OB (fX3_push m 0 s6) fun r8 s9 => OB (fX6_add 0 p q r s9) fun r11 s12 => some ((0, r11), s12)) (OB (fX12_begin m s) fun _ s2 => OB (fX12_adds m p q r s2) fun r4 s5 => OB (fX12_kept m r4 s5) fun r7 s8 => some (r7, s8)) [1, 4] C T := fun hbad => by
    refine ch_x (fo := fX6_faultOfAdding 0 p q r) (opc := fX6_add 0 p q r) (opr := fX12_adds m p q r) (f := 2) (k := 1) hF g1 g2 g3 g4 g5 g6 g7 g8 g9 (by omega) (by omega) ?_ (fun s1 a b => rf_adds_x a b hbad) (by decide +kernel) (by omega) (by decide)
    unfold fX6_faultOfAdding
    rcases rng0 p (n := 8) (by omega) with hp | ⟨b, hb9, rfl⟩
    · simp (disch := omega) only [pu_OB, pu_LET, pu_OX0, pu_BND, pu_NZ, pu_BL, pu_m1, nI_add, pk_sub, pk_mul, pk_div, nI_clamp, pu_eq, pu_ne, pu_le_t, pu_le_f, pu_lt_t, pu_lt_f, pu_nm, pu_mm, pu_u2e, pu_u2n, ↓reduceIte, li0, li1, li2, li3, li4, li5, li6, li7, li8, li9, li10, li11, li12, li13, li14, li15, li16, li17, li18, li19, li20, li21, li22, li23, li24, li25, li26, li27, li28, li29, li30, li31, li32, li33, li34, li35, li36, li37, li38, li39, li40, li41, li42, li43, li44, li45, li46, li47, li48, li49, li50, li51, li52, li53, li54, li55, li56, li57, li58, li59, li60, li64, li72, li87, li97, li98, li99, li100, li101, li102, li103, li104, li105, li108, li109, li110, li111, li112, li114, li115, li116, li117, li119, li120, li124, li126, li132, li139, li140, li148, li156, li1000, li1092, li1248, cl_isBand_x hp]
    · rcases rng1 q (n := 9) (by omega) with hq | ⟨l, hl1, hl2, rfl⟩
      · have e : fX12_in q (nI 1) (nI 9) σ = some (nI 0, σ) := rf_in_bad (lo := 1) (hi := 9) hq (by omega)
        simp (disch := omega) only [pu_OB, pu_LET, pu_OX0, pu_BND, pu_NZ, pu_BL, pu_m1, nI_add, pk_sub, pk_mul, pk_div, nI_clamp, pu_eq, pu_ne, pu_le_t, pu_le_f, pu_lt_t, pu_lt_f, pu_nm, pu_mm, pu_u2e, pu_u2n, ↓reduceIte, li0, li1, li2, li3, li4, li5, li6, li7, li8, li9, li10, li11, li12, li13, li14, li15, li16, li17, li18, li19, li20, li21, li22, li23, li24, li25, li26, li27, li28, li29, li30, li31, li32, li33, li34, li35, li36, li37, li38, li39, li40, li41, li42, li43, li44, li45, li46, li47, li48, li49, li50, li51, li52, li53, li54, li55, li56, li57, li58, li59, li60, li64, li72, li87, li97, li98, li99, li100, li101, li102, li103, li104, li105, li108, li109, li110, li111, li112, li114, li115, li116, li117, li119, li120, li124, li126, li132, li139, li140, li148, li156, li1000, li1092, li1248, cl_isBand hb9, cl_within, e]
      · have e3 : r < 1 ∨ nI 61 ≤ r := by
          rcases hbad with h | h | h
          · exact absurd rfl (in_bad (by omega) h hb9)
          · rcases h with h | h
            · exact absurd h (nI_nlt (b := 1) hl1 (by omega))
            · exact absurd h (nI_ge (show l < 10 by omega) (by omega))
          · exact h
        have e : fX12_in r (nI 1) (nI 60) σ = some (nI 0, σ) := rf_in_bad (lo := 1) (hi := 60) e3 (by omega)
        simp (disch := omega) only [pu_OB, pu_LET, pu_OX0, pu_BND, pu_NZ, pu_BL, pu_m1, nI_add, pk_sub, pk_mul, pk_div, nI_clamp, pu_eq, pu_ne, pu_le_t, pu_le_f, pu_lt_t, pu_lt_f, pu_nm, pu_mm, pu_u2e, pu_u2n, ↓reduceIte, li0, li1, li2, li3, li4, li5, li6, li7, li8, li9, li10, li11, li12, li13, li14, li15, li16, li17, li18, li19, li20, li21, li22, li23, li24, li25, li26, li27, li28, li29, li30, li31, li32, li33, li34, li35, li36, li37, li38, li39, li40, li41, li42, li43, li44, li45, li46, li47, li48, li49, li50, li51, li52, li53, li54, li55, li56, li57, li58, li59, li60, li64, li72, li87, li97, li98, li99, li100, li101, li102, li103, li104, li105, li108, li109, li110, li111, li112, li114, li115, li116, li117, li119, li120, li124, li126, li132, li139, li140, li148, li156, li1000, li1092, li1248, cl_isBand hb9, cl_within, rf_in_good, e]
  rcases rng0 p (n := 8) (by omega) with hp | ⟨b, hb9, rfl⟩
  · exact bad (Or.inl hp)
  · rcases rng1 q (n := 9) (by omega) with hq | ⟨l, hl1, hl2, rfl⟩
    · exact bad (Or.inr (Or.inl hq))
    · rcases rng1 r (n := 60) (by omega) with hr | ⟨a, ha1, ha2, rfl⟩
      · exact bad (Or.inr (Or.inr hr))
      · have hcl : ∀ {W : List E4}, NRW σ (0 + 1) A.1 A.2 W → fX7_isFull (0 + 1) σ = some (nI (if A.2.countP (wt A.1) < 12 then 0 else 1), σ) := fun hn => by
          have := cl_isFull hn (by rw [hn.len]; exact g5.1.2.2.1)
          rw [hn.len] at this
          exact this
        obtain ⟨hS0, W, hn⟩ := g1
        have hfl := hcl hn
        have g1 : CR σ 0 A := ⟨hS0, W, hn⟩
        by_cases c : A.2.countP (wt A.1) < 12
        · rw [if_pos c] at hfl
          refine ch_ok (fo := fX6_faultOfAdding 0 (nI b) (nI l) (nI a)) (opc := fX6_add 0 (nI b) (nI l) (nI a)) (opr := fX12_adds m (nI b) (nI l) (nI a)) (r := nI (A.1 1)) (X := spAdd A b l a) hF g1 g2 g3 g4 g5 g6 g7 g8 g9 ?_ (fun σ1 c1 => cl_add c1 g5.1 c ⟨hb9, hl1, hl2, ha1, ha2⟩) (fun s1 x y => (rf_adds hF x y g5.1 g5.2 (by omega) hb9 ⟨hl1, hl2⟩ ⟨ha1, ha2⟩).2 c) (VG.up (A := A) (vg_add g5.1 g5.2 c ⟨hb9, hl1, hl2, ha1, ha2⟩) (by omega) (by omega))
          unfold fX6_faultOfAdding
          simp (disch := omega) only [pu_OB, pu_LET, pu_OX0, pu_BND, pu_NZ, pu_BL, pu_m1, nI_add, pk_sub, pk_mul, pk_div, nI_clamp, pu_eq, pu_ne, pu_le_t, pu_le_f, pu_lt_t, pu_lt_f, pu_nm, pu_mm, pu_u2e, pu_u2n, ↓reduceIte, li0, li1, li2, li3, li4, li5, li6, li7, li8, li9, li10, li11, li12, li13, li14, li15, li16, li17, li18, li19, li20, li21, li22, li23, li24, li25, li26, li27, li28, li29, li30, li31, li32, li33, li34, li35, li36, li37, li38, li39, li40, li41, li42, li43, li44, li45, li46, li47, li48, li49, li50, li51, li52, li53, li54, li55, li56, li57, li58, li59, li60, li64, li72, li87, li97, li98, li99, li100, li101, li102, li103, li104, li105, li108, li109, li110, li111, li112, li114, li115, li116, li117, li119, li120, li124, li126, li132, li139, li140, li148, li156, li1000, li1092, li1248, cl_isBand hb9, cl_within, rf_in_good, hfl]
        · rw [if_neg c] at hfl
          have hc9 := g5.1.2.2.1
          refine ch_x (fo := fX6_faultOfAdding 0 (nI b) (nI l) (nI a)) (opc := fX6_add 0 (nI b) (nI l) (nI a)) (opr := fX12_adds m (nI b) (nI l) (nI a)) (f := 4) (k := 2) hF g1 g2 g3 g4 g5 g6 g7 g8 g9 (by omega) (by omega) ?_ (fun s1 x y => (rf_adds hF x y g5.1 g5.2 (by omega) hb9 ⟨hl1, hl2⟩ ⟨ha1, ha2⟩).1 (by omega)) (by decide +kernel) (by omega) (by decide)
          unfold fX6_faultOfAdding
          simp (disch := omega) only [pu_OB, pu_LET, pu_OX0, pu_BND, pu_NZ, pu_BL, pu_m1, nI_add, pk_sub, pk_mul, pk_div, nI_clamp, pu_eq, pu_ne, pu_le_t, pu_le_f, pu_lt_t, pu_lt_f, pu_nm, pu_mm, pu_u2e, pu_u2n, ↓reduceIte, li0, li1, li2, li3, li4, li5, li6, li7, li8, li9, li10, li11, li12, li13, li14, li15, li16, li17, li18, li19, li20, li21, li22, li23, li24, li25, li26, li27, li28, li29, li30, li31, li32, li33, li34, li35, li36, li37, li38, li39, li40, li41, li42, li43, li44, li45, li46, li47, li48, li49, li50, li51, li52, li53, li54, li55, li56, li57, li58, li59, li60, li64, li72, li87, li97, li98, li99, li100, li101, li102, li103, li104, li105, li108, li109, li110, li111, li112, li114, li115, li116, li117, li119, li120, li124, li126, li132, li139, li140, li148, li156, li1000, li1092, li1248, cl_isBand hb9, cl_within, rf_in_good, hfl]
theorem ca_removeNoise (hF : 2000 ≤ m) (hC : C < 512) (h : GG σ s C T) (p : Int32) : CASE (fX11_removeNoise m p σ) (fX12_removeNoise m p s) [3, 4] C T := by
  obtain ⟨A, H, S, B, er, fl, g1, g2, g3, g4, g5, g6, g7, g8, g9⟩ := h
  have hB := g5.B (by omega)
  unfold fX11_removeNoise fX12_removeNoise
  rcases rf_place_or (L := A.2) (x := p) with ⟨i, hi, rfl⟩ | hx
  · by_cases hw : wt A.1 (A.2.getD i z4) = true
    · refine ch_ok (fo := fX6_faultOfRemoving m 0 _) (opc := fX6_remove m 0 _) (opr := fX12_removes m _) (r := nI (A.2.getD i z4).2.2.2) (X := spRem A i) hF g1 g2 g3 g4 g5 g6 g7 g8 g9 (cl_remove hF g1 g5.1 hB hi hw).1 (fun σ1 c1 => (cl_remove hF c1 g5.1 hB hi hw).2) (fun s1 x y => rf_removes hF x y g5.1 hB hi hw) (VG.up (A := A) (vg_rem g5.1 g5.2 hi hw) (by omega) (by omega))
    · replace hw := Bool.eq_false_iff.mpr hw
      exact ch_x (fo := fX6_faultOfRemoving m 0 _) (opc := fX6_remove m 0 _) (opr := fX12_removes m _) (f := 4) (k := 2) hF g1 g2 g3 g4 g5 g6 g7 g8 g9 (by omega) (by omega) (cl_remove_h hF g1 g5.1 hB hi hw) (fun s1 x y => rf_removes_h hF x y g5.1 hB hi hw) (by decide +kernel) (by omega) (by decide)
  · exact ch_x (fo := fX6_faultOfRemoving m 0 _) (opc := fX6_remove m 0 _) (opr := fX12_removes m _) (f := 3) (k := 1) hF g1 g2 g3 g4 g5 g6 g7 g8 g9 (by omega) (by omega) (cl_remove_x hF g1 g5.1 hB hx) (fun s1 x y => rf_removes_x hF x y g5.1 hx) (by decide +kernel) (by omega) (by decide)
theorem ca_releaseNoise (hF : 2000 ≤ m) (hC : C < 512) (h : GG σ s C T) (p : Int32) : CASE (fX11_releaseNoise m p σ) (fX12_releaseNoise m p s) [2, 3, 4] C T := by
  obtain ⟨A, H, S, B, er, fl, g1, g2, g3, g4, g5, g6, g7, g8, g9⟩ := h
  have hB := g5.B (by omega)
  unfold fX11_releaseNoise fX12_releaseNoise
  rcases rng0 p (n := 3) (by omega) with hp | ⟨w, hw, rfl⟩
  · refine ch_x (fo := fX6_faultOfReleasing 0 p) (opc := fX6_release 0 p) (opr := fX12_releases m p) (f := 1) (k := 1) hF g1 g2 g3 g4 g5 g6 g7 g8 g9 (by omega) (by omega) ?_ (fun s1 a b => rf_releases_x a b hp) (by decide +kernel) (by omega) (by decide)
    unfold fX6_faultOfReleasing
    simp (disch := omega) only [pu_OB, pu_LET, pu_OX0, pu_BND, pu_NZ, pu_BL, pu_m1, nI_add, pk_sub, pk_mul, pk_div, nI_clamp, pu_eq, pu_ne, pu_le_t, pu_le_f, pu_lt_t, pu_lt_f, pu_nm, pu_mm, pu_u2e, pu_u2n, ↓reduceIte, li0, li1, li2, li3, li4, li5, li6, li7, li8, li9, li10, li11, li12, li13, li14, li15, li16, li17, li18, li19, li20, li21, li22, li23, li24, li25, li26, li27, li28, li29, li30, li31, li32, li33, li34, li35, li36, li37, li38, li39, li40, li41, li42, li43, li44, li45, li46, li47, li48, li49, li50, li51, li52, li53, li54, li55, li56, li57, li58, li59, li60, li64, li72, li87, li97, li98, li99, li100, li101, li102, li103, li104, li105, li108, li109, li110, li111, li112, li114, li115, li116, li117, li119, li120, li124, li126, li132, li139, li140, li148, li156, li1000, li1092, li1248, cl_isWheel_x hp]
  · obtain ⟨hS0, W, hn⟩ := g1
    have g1 : CR σ 0 A := ⟨hS0, W, hn⟩
    have hfl := cl_isFull hn (by rw [hn.len]; exact g5.1.2.2.1)
    rw [hn.len] at hfl
    have hhd := cl_isHeld hn hw
    rcases g5.1.2.2.2.1 w hw with h0 | ⟨e, he, hh⟩
    · refine ch_x (fo := fX6_faultOfReleasing 0 (nI w)) (opc := fX6_release 0 (nI w)) (opr := fX12_releases m (nI w)) (f := 3) (k := 2) hF g1 g2 g3 g4 g5 g6 g7 g8 g9 (by omega) (by omega) ?_ (fun s1 a b => rf_releases_0 a b hw h0) (by decide +kernel) (by omega) (by decide)
      rw [h0] at hhd
      have e0 : hflag 0 = 0 := rfl
      unfold fX6_faultOfReleasing
      simp (disch := omega) only [pu_OB, pu_LET, pu_OX0, pu_BND, pu_NZ, pu_BL, pu_m1, nI_add, pk_sub, pk_mul, pk_div, nI_clamp, pu_eq, pu_ne, pu_le_t, pu_le_f, pu_lt_t, pu_lt_f, pu_nm, pu_mm, pu_u2e, pu_u2n, ↓reduceIte, li0, li1, li2, li3, li4, li5, li6, li7, li8, li9, li10, li11, li12, li13, li14, li15, li16, li17, li18, li19, li20, li21, li22, li23, li24, li25, li26, li27, li28, li29, li30, li31, li32, li33, li34, li35, li36, li37, li38, li39, li40, li41, li42, li43, li44, li45, li46, li47, li48, li49, li50, li51, li52, li53, li54, li55, li56, li57, li58, li59, li60, li64, li72, li87, li97, li98, li99, li100, li101, li102, li103, li104, li105, li108, li109, li110, li111, li112, li114, li115, li116, li117, li119, li120, li124, li126, li132, li139, li140, li148, li156, li1000, li1092, li1248, cl_isWheel hw, hhd, e0]
    · have e1 : hflag (A.1 (13 + w)) = 1 := if_neg (by omega)
      by_cases c : A.2.countP (wt A.1) < 12
      · rw [if_pos c] at hfl
        refine ch_ok (fo := fX6_faultOfReleasing 0 (nI w)) (opc := fX6_release 0 (nI w)) (opr := fX12_releases m (nI w)) (r := nI e.1) (X := (upN A.1 (13 + w) 0, A.2)) hF g1 g2 g3 g4 g5 g6 g7 g8 g9 ?_ (fun σ1 c1 => cl_release c1 g5.1 hw he hh c) (fun s1 x y => rf_releases hF x y g5.1 hB hw hh c) (VG.up (A := A) (vg_free g5.1 g5.2 hw he hh c) (by omega) (by omega))
        unfold fX6_faultOfReleasing
        simp (disch := omega) only [pu_OB, pu_LET, pu_OX0, pu_BND, pu_NZ, pu_BL, pu_m1, nI_add, pk_sub, pk_mul, pk_div, nI_clamp, pu_eq, pu_ne, pu_le_t, pu_le_f, pu_lt_t, pu_lt_f, pu_nm, pu_mm, pu_u2e, pu_u2n, ↓reduceIte, li0, li1, li2, li3, li4, li5, li6, li7, li8, li9, li10, li11, li12, li13, li14, li15, li16, li17, li18, li19, li20, li21, li22, li23, li24, li25, li26, li27, li28, li29, li30, li31, li32, li33, li34, li35, li36, li37, li38, li39, li40, li41, li42, li43, li44, li45, li46, li47, li48, li49, li50, li51, li52, li53, li54, li55, li56, li57, li58, li59, li60, li64, li72, li87, li97, li98, li99, li100, li101, li102, li103, li104, li105, li108, li109, li110, li111, li112, li114, li115, li116, li117, li119, li120, li124, li126, li132, li139, li140, li148, li156, li1000, li1092, li1248, cl_isWheel hw, hhd, e1, hfl]
      · rw [if_neg c] at hfl
        have hc9 := g5.1.2.2.1
        refine ch_x (fo := fX6_faultOfReleasing 0 (nI w)) (opc := fX6_release 0 (nI w)) (opr := fX12_releases m (nI w)) (f := 4) (k := 3) hF g1 g2 g3 g4 g5 g6 g7 g8 g9 (by omega) (by omega) ?_ (fun s1 a b => rf_releases_f hF a b g5.1 hB hw (by omega) (by omega)) (by decide +kernel) (by omega) (by decide)
        unfold fX6_faultOfReleasing
        simp (disch := omega) only [pu_OB, pu_LET, pu_OX0, pu_BND, pu_NZ, pu_BL, pu_m1, nI_add, pk_sub, pk_mul, pk_div, nI_clamp, pu_eq, pu_ne, pu_le_t, pu_le_f, pu_lt_t, pu_lt_f, pu_nm, pu_mm, pu_u2e, pu_u2n, ↓reduceIte, li0, li1, li2, li3, li4, li5, li6, li7, li8, li9, li10, li11, li12, li13, li14, li15, li16, li17, li18, li19, li20, li21, li22, li23, li24, li25, li26, li27, li28, li29, li30, li31, li32, li33, li34, li35, li36, li37, li38, li39, li40, li41, li42, li43, li44, li45, li46, li47, li48, li49, li50, li51, li52, li53, li54, li55, li56, li57, li58, li59, li60, li64, li72, li87, li97, li98, li99, li100, li101, li102, li103, li104, li105, li108, li109, li110, li111, li112, li114, li115, li116, li117, li119, li120, li124, li126, li132, li139, li140, li148, li156, li1000, li1092, li1248, cl_isWheel hw, hhd, e1, hfl]
theorem ca_shipSacks (hF : 2000 ≤ m) (hC : C < 512) (h : GG σ s C T) (p q : Int32) : CASE (fX11_shipSacks m p q σ) (fX12_shipSacks m p q s) [1, 5] C T := by
  obtain ⟨A, H, S, B, er, fl, g1, g2, g3, g4, g5, g6, g7, g8, g9⟩ := h
  have hl := g5.1.len
  unfold fX11_shipSacks fX12_shipSacks
  rcases rng0 p (n := 4) (by omega) with hp | ⟨g, hg, rfl⟩
  · refine ch_x (fo := fX6_faultOfShipping 0 p q) (opc := fX6_ship 0 p q) (opr := fX12_ships p q) (f := 2) (k := 1) hF g1 g2 g3 g4 g5 g6 g7 g8 g9 (by omega) (by omega) ?_ (fun s1 a b => rf_ships_x a b (Or.inl hp)) (by decide +kernel) (by omega) (by decide)
    unfold fX6_faultOfShipping
    simp (disch := omega) only [pu_OB, pu_LET, pu_OX0, pu_BND, pu_NZ, pu_BL, pu_m1, nI_add, pk_sub, pk_mul, pk_div, nI_clamp, pu_eq, pu_ne, pu_le_t, pu_le_f, pu_lt_t, pu_lt_f, pu_nm, pu_mm, pu_u2e, pu_u2n, ↓reduceIte, li0, li1, li2, li3, li4, li5, li6, li7, li8, li9, li10, li11, li12, li13, li14, li15, li16, li17, li18, li19, li20, li21, li22, li23, li24, li25, li26, li27, li28, li29, li30, li31, li32, li33, li34, li35, li36, li37, li38, li39, li40, li41, li42, li43, li44, li45, li46, li47, li48, li49, li50, li51, li52, li53, li54, li55, li56, li57, li58, li59, li60, li64, li72, li87, li97, li98, li99, li100, li101, li102, li103, li104, li105, li108, li109, li110, li111, li112, li114, li115, li116, li117, li119, li120, li124, li126, li132, li139, li140, li148, li156, li1000, li1092, li1248, cl_isGrade_x hp]
  · rcases rng1 q (n := 6) (by omega) with hq | ⟨n, hn1, hn2, rfl⟩
    · refine ch_x (fo := fX6_faultOfShipping 0 (nI g) q) (opc := fX6_ship 0 (nI g) q) (opr := fX12_ships (nI g) q) (f := 2) (k := 1) hF g1 g2 g3 g4 g5 g6 g7 g8 g9 (by omega) (by omega) ?_ (fun s1 a b => rf_ships_x a b (Or.inr hq)) (by decide +kernel) (by omega) (by decide)
      have e : fX12_in q (nI 1) (nI 6) σ = some (nI 0, σ) := rf_in_bad (lo := 1) (hi := 6) hq (by omega)
      unfold fX6_faultOfShipping
      simp (disch := omega) only [pu_OB, pu_LET, pu_OX0, pu_BND, pu_NZ, pu_BL, pu_m1, nI_add, pk_sub, pk_mul, pk_div, nI_clamp, pu_eq, pu_ne, pu_le_t, pu_le_f, pu_lt_t, pu_lt_f, pu_nm, pu_mm, pu_u2e, pu_u2n, ↓reduceIte, li0, li1, li2, li3, li4, li5, li6, li7, li8, li9, li10, li11, li12, li13, li14, li15, li16, li17, li18, li19, li20, li21, li22, li23, li24, li25, li26, li27, li28, li29, li30, li31, li32, li33, li34, li35, li36, li37, li38, li39, li40, li41, li42, li43, li44, li45, li46, li47, li48, li49, li50, li51, li52, li53, li54, li55, li56, li57, li58, li59, li60, li64, li72, li87, li97, li98, li99, li100, li101, li102, li103, li104, li105, li108, li109, li110, li111, li112, li114, li115, li116, li117, li119, li120, li124, li126, li132, li139, li140, li148, li156, li1000, li1092, li1248, cl_isGrade hg, cl_within, e]
    · have hf9 := (g5.2.2.2.2.1 g hg).1
      have efull := cl_full g1 hg hf9
      by_cases c : n ≤ A.1 (28 + g) / 20
      · refine ch_ok (fo := fX6_faultOfShipping 0 (nI g) (nI n)) (opc := fX6_ship 0 (nI g) (nI n)) (opr := fX12_ships (nI g) (nI n)) (r := nI ((A.1 (28 + g) - 20 * n) / 20)) (X := spShip A g n) hF g1 g2 g3 g4 g5 g6 g7 g8 g9 ?_ (fun σ1 c1 => cl_ship c1 hg hf9 c) (fun s1 x y => (rf_ships x y hl hg ⟨hn1, hn2⟩ hf9).2 c) (VG.up (A := A) (vg_ship g5.1 g5.2 hg c) (by omega) (by omega))
        unfold fX6_faultOfShipping
        simp (disch := omega) only [pu_OB, pu_LET, pu_OX0, pu_BND, pu_NZ, pu_BL, pu_m1, nI_add, pk_sub, pk_mul, pk_div, nI_clamp, pu_eq, pu_ne, pu_le_t, pu_le_f, pu_lt_t, pu_lt_f, pu_nm, pu_mm, pu_u2e, pu_u2n, ↓reduceIte, li0, li1, li2, li3, li4, li5, li6, li7, li8, li9, li10, li11, li12, li13, li14, li15, li16, li17, li18, li19, li20, li21, li22, li23, li24, li25, li26, li27, li28, li29, li30, li31, li32, li33, li34, li35, li36, li37, li38, li39, li40, li41, li42, li43, li44, li45, li46, li47, li48, li49, li50, li51, li52, li53, li54, li55, li56, li57, li58, li59, li60, li64, li72, li87, li97, li98, li99, li100, li101, li102, li103, li104, li105, li108, li109, li110, li111, li112, li114, li115, li116, li117, li119, li120, li124, li126, li132, li139, li140, li148, li156, li1000, li1092, li1248, cl_isGrade hg, cl_within, rf_in_good, efull]
      · refine ch_x (fo := fX6_faultOfShipping 0 (nI g) (nI n)) (opc := fX6_ship 0 (nI g) (nI n)) (opr := fX12_ships (nI g) (nI n)) (f := 5) (k := 2) hF g1 g2 g3 g4 g5 g6 g7 g8 g9 (by omega) (by omega) ?_ (fun s1 x y => (rf_ships x y hl hg ⟨hn1, hn2⟩ hf9).1 (by omega)) (by decide +kernel) (by omega) (by decide)
        unfold fX6_faultOfShipping
        simp (disch := omega) only [pu_OB, pu_LET, pu_OX0, pu_BND, pu_NZ, pu_BL, pu_m1, nI_add, pk_sub, pk_mul, pk_div, nI_clamp, pu_eq, pu_ne, pu_le_t, pu_le_f, pu_lt_t, pu_lt_f, pu_nm, pu_mm, pu_u2e, pu_u2n, ↓reduceIte, li0, li1, li2, li3, li4, li5, li6, li7, li8, li9, li10, li11, li12, li13, li14, li15, li16, li17, li18, li19, li20, li21, li22, li23, li24, li25, li26, li27, li28, li29, li30, li31, li32, li33, li34, li35, li36, li37, li38, li39, li40, li41, li42, li43, li44, li45, li46, li47, li48, li49, li50, li51, li52, li53, li54, li55, li56, li57, li58, li59, li60, li64, li72, li87, li97, li98, li99, li100, li101, li102, li103, li104, li105, li108, li109, li110, li111, li112, li114, li115, li116, li117, li119, li120, li124, li126, li132, li139, li140, li148, li156, li1000, li1092, li1248, cl_isGrade hg, cl_within, rf_in_good, efull]
theorem ca_advance (hF : 2000 ≤ m) (hC : C < 512) (h : GG σ s C T) (p : Int32) : CASE (fX11_advance m p σ) (fX12_advance m p s) [1] C T := by
  obtain ⟨A, H, S, B, er, fl, g1, g2, g3, g4, g5, g6, g7, g8, g9⟩ := h
  unfold fX11_advance fX12_advance
  rcases rng1 p (n := 40) (by omega) with hp | ⟨n, hn1, hn2, rfl⟩
  · refine ch_x (fo := fX6_faultOfAdvancing p) (opc := fX6_pass m 0 p) (opr := fX12_advances m p) (f := 2) (k := 1) hF g1 g2 g3 g4 g5 g6 g7 g8 g9 (by omega) (by omega) ?_ (fun s1 a b => rf_advances_x a b hp) (by decide +kernel) (by omega) (by decide)
    have e : fX12_in p (nI 1) (nI 40) σ = some (nI 0, σ) := rf_in_bad (lo := 1) (hi := 40) hp (by omega)
    unfold fX6_faultOfAdvancing
    simp (disch := omega) only [pu_OB, pu_LET, pu_OX0, pu_BND, pu_NZ, pu_BL, pu_m1, nI_add, pk_sub, pk_mul, pk_div, nI_clamp, pu_eq, pu_ne, pu_le_t, pu_le_f, pu_lt_t, pu_lt_f, pu_nm, pu_mm, pu_u2e, pu_u2n, ↓reduceIte, li0, li1, li2, li3, li4, li5, li6, li7, li8, li9, li10, li11, li12, li13, li14, li15, li16, li17, li18, li19, li20, li21, li22, li23, li24, li25, li26, li27, li28, li29, li30, li31, li32, li33, li34, li35, li36, li37, li38, li39, li40, li41, li42, li43, li44, li45, li46, li47, li48, li49, li50, li51, li52, li53, li54, li55, li56, li57, li58, li59, li60, li64, li72, li87, li97, li98, li99, li100, li101, li102, li103, li104, li105, li108, li109, li110, li111, li112, li114, li115, li116, li117, li119, li120, li124, li126, li132, li139, li140, li148, li156, li1000, li1092, li1248, cl_within, e]
  · obtain ⟨τ, g, -, -, hg, -⟩ := cl_pass (m := m) (n := n) hF g1 g5.1 g5.2 (by omega) (by omega) (by omega)
    refine ch_ok (fo := fX6_faultOfAdvancing (nI n)) (opc := fX6_pass m 0 (nI n)) (opr := fX12_advances m (nI n)) (r := nI g) (X := spN n A) hF g1 g2 g3 g4 g5 g6 g7 g8 g9 ?_ (fun σ1 c1 => ?_) (fun s1 x y => rf_advances hF x y g5.1 g5.2 (by omega) (by omega) ⟨hn1, hn2⟩ hg) (VG.up (A := A) (spN_inv g5.1 g5.2) (by omega) (by omega))
    · unfold fX6_faultOfAdvancing
      simp (disch := omega) only [pu_OB, pu_LET, pu_OX0, pu_BND, pu_NZ, pu_BL, pu_m1, nI_add, pk_sub, pk_mul, pk_div, nI_clamp, pu_eq, pu_ne, pu_le_t, pu_le_f, pu_lt_t, pu_lt_f, pu_nm, pu_mm, pu_u2e, pu_u2n, ↓reduceIte, li0, li1, li2, li3, li4, li5, li6, li7, li8, li9, li10, li11, li12, li13, li14, li15, li16, li17, li18, li19, li20, li21, li22, li23, li24, li25, li26, li27, li28, li29, li30, li31, li32, li33, li34, li35, li36, li37, li38, li39, li40, li41, li42, li43, li44, li45, li46, li47, li48, li49, li50, li51, li52, li53, li54, li55, li56, li57, li58, li59, li60, li64, li72, li87, li97, li98, li99, li100, li101, li102, li103, li104, li105, li108, li109, li110, li111, li112, li114, li115, li116, li117, li119, li120, li124, li126, li132, li139, li140, li148, li156, li1000, li1092, li1248, cl_within, rf_in_good]
    · obtain ⟨τ1, g', q1, q2, q3, q4⟩ := cl_pass (m := m) (n := n) hF c1 g5.1 g5.2 (by omega) (by omega) (by omega)
      obtain rfl : g' = g := by omega
      exact ⟨τ1, q1, q2, q4⟩
end CA
