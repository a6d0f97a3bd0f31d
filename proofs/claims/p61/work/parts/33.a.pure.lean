-- ===== the whole relation: the object, the reference, the abstract state =====
def sflag (S : Option AM) : Nat := match S with | none => 0 | some _ => 1
/-- all of the object but its present mill, what is rebuilt at each use, and the text -/
def CX (σ : St) (H : List AM) (S : Option AM) (B : List Nat) (er fl : Option Nat) : Prop :=
  (σ 209 3 = nI (sflag S) ∧ ∀ X, S = some X → CR σ 38 X) ∧ (∃ nx, nx < 8 ∧ σ 210 1 = nI nx ∧ σ 210 2 = nI H.length ∧ H.length ≤ 8 ∧ ∀ i, i < H.length → CR σ (57 + 19 * ((nx + 8 - H.length + i) % 8)) (H.getD i A0)) ∧ (σ 214 1 = nI B.length ∧ B.length ≤ 60 ∧ ∀ j, j < B.length → σ 215 j = nI (B.getD j 0)) ∧ σ 209 8 = oI er ∧ σ 209 9 = oI fl
theorem CX.of {σ τ : St} {H : List AM} {S : Option AM} {B : List Nat} {er fl : Option Nat} (h : CX σ H S B er fl) (hc : ∀ c, 38 ≤ c → c < 211 → τ c = σ c) (h1 : τ 214 1 = σ 214 1) (h2 : τ 215 = σ 215) : CX τ H S B er fl := by
  obtain ⟨⟨a1, a2⟩, ⟨nx, b1, b2, b3, b4, b5⟩, ⟨c1, c2, c3⟩, d1, d2⟩ := h
  refine ⟨⟨by rw [hc _ (by omega) (by omega)]; exact a1, fun X hX => (a2 X hX).of fun c hc9 => hc _ (by omega) (by omega)⟩, ⟨nx, b1, by rw [hc _ (by omega) (by omega)]; exact b2, by rw [hc _ (by omega) (by omega)]; exact b3, b4, fun i hi => (b5 i hi).of fun c hc9 => hc _ (by omega) (by omega)⟩, ⟨by rw [h1]; exact c1, c2, fun j hj => by rw [h2]; exact c3 j hj⟩, by rw [hc _ (by omega) (by omega)]; exact d1, by rw [hc _ (by omega) (by omega)]; exact d2⟩
theorem push_len {H : List AM} {A : AM} : (pushH H A).length = if H.length = 8 then 8 else H.length + 1 := by
  unfold pushH
  by_cases c : H.length = 8
  · rw [if_pos c, if_pos c, List.length_append, List.length_tail, c]
    rfl
  · rw [if_neg c, if_neg c, List.length_append]
    rfl
theorem push_get {H : List AM} {A : AM} {i : Nat} : (pushH H A).getD i A0 = if H.length = 8 then (if i < 7 then H.getD (i + 1) A0 else if i = 7 then A else A0) else (if i < H.length then H.getD i A0 else if i = H.length then A else A0) := by
  unfold pushH
  by_cases c : H.length = 8
  · rw [if_pos c, if_pos c, List.getD_eq_getElem?_getD, List.getElem?_append, List.length_tail, c]
    by_cases h1 : i < 7
    · rw [if_pos (by omega), if_pos h1, List.getElem?_tail, List.getD_eq_getElem?_getD]
    · rw [if_neg (by omega), if_neg h1]
      by_cases h2 : i = 7
      · rw [if_pos h2, h2]
        rfl
      · rw [if_neg h2, List.getElem?_eq_none (by simp; omega)]
        rfl
  · rw [if_neg c, if_neg c, List.getD_eq_getElem?_getD, List.getElem?_append]
    by_cases h1 : i < H.length
    · rw [if_pos h1, if_pos h1, List.getD_eq_getElem?_getD]
    · rw [if_neg h1, if_neg h1]
      by_cases h2 : i = H.length
      · rw [if_pos h2, h2, Nat.sub_self]
        rfl
      · rw [if_neg h2, List.getElem?_eq_none (by simp; omega)]
        rfl
section CL
variable {σ : St} {m : Nat} {A : AM} {H : List AM} {S : Option AM} {B : List Nat} {er fl : Option Nat} {T : List Nat} {C : Nat}
theorem CX.len (h : CX σ H S B er fl) : H.length ≤ 8 := by
  obtain ⟨-, ⟨nx, b1, b2, b3, b4, b5⟩, -⟩ := h
  exact b4
theorem cl_push (hF : 2000 ≤ m) (hC : CR σ 0 A) (hX : CX σ H S B er fl) (hV : VG A C) : ∃ τ, fX3_push m 0 σ = some (nI 0, τ) ∧ CR τ 0 A ∧ CX τ (pushH H A) S B er fl ∧ ∀ c, c < 57 ∨ 209 ≤ c ∧ c ≠ 210 → τ c = σ c := by
  obtain ⟨⟨a1, a2⟩, ⟨nx, b1, b2, b3, b4, b5⟩, ⟨c1, c2, c3⟩, d1, d2⟩ := hX
  obtain ⟨t, t1, t2, t3⟩ := cl_copy (k := 57 + 19 * nx) hF hC hV.1 hV.2 (by omega)
  have h1 : t 210 1 = nI nx := by rw [t3 _ (by omega)]; exact b2
  have h2 : t 210 2 = nI H.length := by rw [t3 _ (by omega)]; exact b3
  have e0 : fX6_copyFrom m (57 + 19 * (nI nx).toNatClampNeg) 0 σ = some (0, t) := by
    rw [nI_clamp (by omega)]
    exact t1
  have e7 : (if 8 < H.length + 1 then 8 else H.length + 1) = (pushH H A).length := by
    rw [push_len]
    split <;> split <;> omega
  refine ⟨u2 (u2 t 210 1 (nI ((nx + 1) % 8))) 210 2 (nI (pushH H A).length), ?_, ?_, ?_, fun c hc => ?_⟩
  · unfold fX3_push
    rw [b2, show (BND (nI nx) 8 _ : Option (Int32 × St)) = _ from pu_BND b1 (by omega), e0, pu_OB, h1]
    simp (disch := omega) only [pu_OB, pu_LET, pu_OX0, pu_BND, pu_NZ, pu_BL, pu_m1, nI_add, pk_sub, pk_mul, pk_div, nI_clamp, pu_eq, pu_ne, pu_le_t, pu_le_f, pu_lt_t, pu_lt_f, pu_nm, pu_mm, pu_u2e, pu_u2n, ↓reduceIte, li0, li1, li2, li3, li4, li5, li6, li7, li8, li9, li10, li11, li12, li13, li14, li15, li16, li17, li18, li19, li20, li21, li22, li23, li24, li25, li26, li27, li28, li29, li30, li31, li32, li33, li34, li35, li36, li37, li38, li39, li40, li41, li42, li43, li44, li45, li46, li47, li48, li49, li50, li51, li52, li53, li54, li55, li56, li57, li58, li59, li60, li64, li72, li87, li97, li98, li99, li100, li101, li102, li103, li104, li105, li108, li109, li110, li111, li112, li114, li115, li116, li117, li119, li120, li124, li126, li132, li139, li140, li148, li156, li1000, li1092, li1248, cl_floorMod, h2, cl_min, e7]
  · exact hC.of fun c hc => by rw [pu_u2r (by omega), pu_u2r (by omega), t3 _ (by omega)]
  · have hlen : (pushH H A).length = if H.length = 8 then 8 else H.length + 1 := push_len
    refine ⟨⟨by rw [pu_u2r (by omega), pu_u2r (by omega), t3 _ (by omega)]; exact a1, fun X hX => (a2 X hX).of fun c hc9 => by rw [pu_u2r (by omega), pu_u2r (by omega), t3 _ (by omega)]⟩, ⟨(nx + 1) % 8, Nat.mod_lt _ (by omega), by rw [pu_u2n (by omega), pu_u2e ⟨rfl, rfl⟩], pu_u2e ⟨rfl, rfl⟩, by rw [hlen]; split <;> omega, fun i hi => ?_⟩, ⟨by rw [pu_u2r (by omega), pu_u2r (by omega), t3 _ (by omega)]; exact c1, c2, fun j hj => by rw [pu_u2r (by omega), pu_u2r (by omega), t3 _ (by omega)]; exact c3 j hj⟩, by rw [pu_u2r (by omega), pu_u2r (by omega), t3 _ (by omega)]; exact d1, by rw [pu_u2r (by omega), pu_u2r (by omega), t3 _ (by omega)]; exact d2⟩
    rw [push_get]
    by_cases c : H.length = 8
    · rw [if_pos c] at hlen ⊢
      rw [hlen] at hi ⊢
      by_cases c7 : i < 7
      · rw [if_pos c7]
        have h5 := b5 (i + 1) (by omega)
        rw [show ((nx + 1) % 8 + 8 - 8 + i) % 8 = (nx + 8 - H.length + (i + 1)) % 8 by omega]
        refine h5.of fun c hc9 => by rw [pu_u2r (by omega), pu_u2r (by omega), t3 _ (by omega)]
      · rw [if_neg c7, if_pos (by omega), show ((nx + 1) % 8 + 8 - 8 + i) % 8 = nx by omega]
        exact t2.of fun c hc9 => by rw [pu_u2r (by omega), pu_u2r (by omega)]
    · rw [if_neg c] at hlen ⊢
      rw [hlen] at hi ⊢
      by_cases c7 : i < H.length
      · rw [if_pos c7]
        have h5 := b5 i c7
        rw [show ((nx + 1) % 8 + 8 - (H.length + 1) + i) % 8 = (nx + 8 - H.length + i) % 8 by omega]
        refine h5.of fun c hc9 => by rw [pu_u2r (by omega), pu_u2r (by omega), t3 _ (by omega)]
      · rw [if_neg c7, if_pos (by omega), show ((nx + 1) % 8 + 8 - (H.length + 1) + i) % 8 = nx by omega]
        exact t2.of fun c hc9 => by rw [pu_u2r (by omega), pu_u2r (by omega)]
  · rw [pu_u2r (by omega), pu_u2r (by omega), t3 _ (by omega)]
/-- the last change is undone -/
theorem cl_pop (hF : 2000 ≤ m) (hX : CX σ H S B er fl) (h0 : 0 < H.length) (hV : VG (H.getD (H.length - 1) A0) C) : ∃ τ, fX3_popInto m 0 σ = some (nI 0, τ) ∧ CR τ 0 (H.getD (H.length - 1) A0) ∧ CX τ H.dropLast S B er fl ∧ τ 210 2 = nI (H.length - 1) := by
  obtain ⟨⟨a1, a2⟩, ⟨nx, b1, b2, b3, b4, b5⟩, ⟨c1, c2, c3⟩, d1, d2⟩ := hX
  have h5 := b5 (H.length - 1) (by omega)
  rw [show (nx + 8 - H.length + (H.length - 1)) % 8 = (nx + 7) % 8 by omega] at h5
  have hCR : CR (u2 σ 210 1 (nI ((nx + 7) % 8))) (57 + 19 * ((nx + 7) % 8)) (H.getD (H.length - 1) A0) := h5.of fun c hc => pu_u2r (by omega)
  obtain ⟨t, t1, t2, t3⟩ := cl_copy (k := 0) hF hCR hV.1 hV.2 (by omega)
  have hfm : fJ9_floorMod_7cf53 (nI nx - 1) (nI 8) σ = some (nI ((nx + 7) % 8), σ) := by
    by_cases c : nx = 0
    · subst c
      exact cl_floorMod_neg
    · have e : nI nx - 1 = nI (nx - 1) := pk_sub (a := nx) (b := 1) (by omega)
      rw [e, cl_floorMod (by omega)]
      rw [show (nx + 7) % 8 = (nx - 1) % 8 by omega]
  have ht2 : t 210 2 = nI H.length := by rw [t3 _ (by omega), pu_u2n (by omega)]; exact b3
  have e0 : fX6_copyFrom m 0 (57 + 19 * (nI ((nx + 7) % 8)).toNatClampNeg) (u2 σ 210 1 (nI ((nx + 7) % 8))) = some (0, t) := by
    rw [nI_clamp (by omega)]
    exact t1
  refine ⟨u2 t 210 2 (nI (H.length - 1)), ?_, t2.of fun c hc => pu_u2r (by omega), ?_, pu_u2e ⟨rfl, rfl⟩⟩
  · unfold fX3_popInto
    rw [b2, show ((8 : Int32)) = nI 8 from rfl, hfm, pu_OB, pu_LET, pu_u2e ⟨rfl, rfl⟩, pu_BND (Nat.mod_lt _ (by omega)) (by omega), e0, pu_OB, ht2]
    simp (disch := omega) only [pu_OB, pu_LET, pu_OX0, pu_BND, pu_NZ, pu_BL, pu_m1, nI_add, pk_sub, pk_mul, pk_div, nI_clamp, pu_eq, pu_ne, pu_le_t, pu_le_f, pu_lt_t, pu_lt_f, pu_nm, pu_mm, pu_u2e, pu_u2n, ↓reduceIte, li0, li1, li2, li3, li4, li5, li6, li7, li8, li9, li10, li11, li12, li13, li14, li15, li16, li17, li18, li19, li20, li21, li22, li23, li24, li25, li26, li27, li28, li29, li30, li31, li32, li33, li34, li35, li36, li37, li38, li39, li40, li41, li42, li43, li44, li45, li46, li47, li48, li49, li50, li51, li52, li53, li54, li55, li56, li57, li58, li59, li60, li64, li72, li87, li97, li98, li99, li100, li101, li102, li103, li104, li105, li108, li109, li110, li111, li112, li114, li115, li116, li117, li119, li120, li124, li126, li132, li139, li140, li148, li156, li1000, li1092, li1248]
  · have hdl : H.dropLast.length = H.length - 1 := List.length_dropLast
    refine ⟨⟨by rw [pu_u2r (by omega), t3 _ (by omega), pu_u2r (by omega)]; exact a1, fun X hX => (a2 X hX).of fun c hc9 => by rw [pu_u2r (by omega), t3 _ (by omega), pu_u2r (by omega)]⟩, ⟨(nx + 7) % 8, Nat.mod_lt _ (by omega), by rw [pu_u2n (by omega), t3 _ (by omega), pu_u2e ⟨rfl, rfl⟩], by rw [hdl]; exact pu_u2e ⟨rfl, rfl⟩, by omega, fun i hi => ?_⟩, ⟨by rw [pu_u2r (by omega), t3 _ (by omega), pu_u2r (by omega)]; exact c1, c2, fun j hj => by rw [pu_u2r (by omega), t3 _ (by omega), pu_u2r (by omega)]; exact c3 j hj⟩, by rw [pu_u2r (by omega), t3 _ (by omega), pu_u2r (by omega)]; exact d1, by rw [pu_u2r (by omega), t3 _ (by omega), pu_u2r (by omega)]; exact d2⟩
    rw [hdl] at hi ⊢
    have hget : H.dropLast.getD i A0 = H.getD i A0 := by
      rw [List.getD_eq_getElem?_getD, List.getElem?_dropLast, if_pos (by omega), List.getD_eq_getElem?_getD]
    rw [hget, show ((nx + 7) % 8 + 8 - (H.length - 1) + i) % 8 = (nx + 8 - H.length + i) % 8 by omega]
    exact (b5 i (by omega)).of fun c hc9 => by rw [pu_u2r (by omega), t3 _ (by omega), pu_u2r (by omega)]
end CL
section RF
variable {s : St} {m : Nat} {A X : AM} {H : List AM} {S : Option AM} {B : List Nat} {er fl : Option Nat} {T : List Nat} {C : Nat}
end RF

