-- ===== the whole relation: the object, the reference, the abstract state =====
def sflag (S : Option AM) : Nat := match S with | none => 0 | some _ => 1
/-- all of the object but its present mill, what is rebuilt at each use, and the text -/
def CX (σ : St) (H : List AM) (S : Option AM) (B : List Nat) (er fl : Option Nat) : Prop :=
  (σ 209 3 = nI (sflag S) ∧ ∀ X, S = some X → CR σ 38 X) ∧ (∃ nx, nx < 8 ∧ σ 210 1 = nI nx ∧ σ 210 2 = nI H.length ∧ H.length ≤ 8 ∧ ∀ i, i < H.length → CR σ (57 + 19 * ((nx + 8 - H.length + i) % 8)) (H.getD i A0)) ∧ (σ 214 1 = nI B.length ∧ B.length ≤ 60 ∧ ∀ j, j < B.length → σ 215 j = nI (B.getD j 0)) ∧ σ 209 8 = oI er ∧ σ 209 9 = oI fl
/-- all of the reference but its rows g, before, ahead and what a call's parsing uses -/
def RX (s : St) (H : List AM) (S : Option AM) (B : List Nat) (er fl : Option Nat) (T : List Nat) : Prop :=
  (s 0 6 = nI (sflag S) ∧ ∀ X, S = some X → SM s 5 X.1 ∧ NM s 5 X.2) ∧ (s 0 4 = nI H.length ∧ H.length ≤ 8 ∧ ∀ i, i < H.length → SM (fun _ j => s 4 (156 * i + j)) 0 (H.getD i A0).1 ∧ NM (fun _ j => s 4 (156 * i + j)) 0 (H.getD i A0).2) ∧ (s 0 8 = nI B.length ∧ B.length ≤ 60 ∧ ∀ j, j < B.length → s 6 j = nI (B.getD j 0)) ∧ s 0 9 = oI er ∧ s 0 10 = oI fl ∧ s 0 12 = nI T.length ∧ T.length ≤ 34 ∧ ∀ j, j < T.length → s 7 j = nI (T.getD j 0)
theorem CX.of {σ τ : St} {H : List AM} {S : Option AM} {B : List Nat} {er fl : Option Nat} (h : CX σ H S B er fl) (hc : ∀ c, 38 ≤ c → c < 211 → τ c = σ c) (h1 : τ 214 1 = σ 214 1) (h2 : τ 215 = σ 215) : CX τ H S B er fl := by
  obtain ⟨⟨a1, a2⟩, ⟨nx, b1, b2, b3, b4, b5⟩, ⟨c1, c2, c3⟩, d1, d2⟩ := h
  refine ⟨⟨by rw [hc _ (by omega) (by omega)]; exact a1, fun X hX => (a2 X hX).of fun c hc9 => hc _ (by omega) (by omega)⟩, ⟨nx, b1, by rw [hc _ (by omega) (by omega)]; exact b2, by rw [hc _ (by omega) (by omega)]; exact b3, b4, fun i hi => (b5 i hi).of fun c hc9 => hc _ (by omega) (by omega)⟩, ⟨by rw [h1]; exact c1, c2, fun j hj => by rw [h2]; exact c3 j hj⟩, by rw [hc _ (by omega) (by omega)]; exact d1, by rw [hc _ (by omega) (by omega)]; exact d2⟩
theorem RX.of {s t : St} {H : List AM} {S : Option AM} {B : List Nat} {er fl : Option Nat} {T : List Nat} (h : RX s H S B er fl T) (hc : ∀ c, 4 ≤ c → c ≤ 7 → t c = s c) (h0 : ∀ j, j = 4 ∨ j = 6 ∨ 8 ≤ j ∧ j ≤ 12 → t 0 j = s 0 j) : RX t H S B er fl T := by
  obtain ⟨⟨a1, a2⟩, ⟨b1, b2, b3⟩, ⟨c1, c2, c3⟩, d1, d2, d3, d4, d5⟩ := h
  refine ⟨⟨by rw [h0 _ (by omega)]; exact a1, fun X hX => ⟨(a2 X hX).1.other (hc _ (by omega) (by omega)), (a2 X hX).2.other (hc _ (by omega) (by omega))⟩⟩, ⟨by rw [h0 _ (by omega)]; exact b1, b2, ?_⟩, ⟨by rw [h0 _ (by omega)]; exact c1, c2, fun j hj => by rw [hc _ (by omega) (by omega)]; exact c3 j hj⟩, by rw [h0 _ (by omega)]; exact d1, by rw [h0 _ (by omega)]; exact d2, by rw [h0 _ (by omega)]; exact d3, d4, fun j hj => by rw [hc _ (by omega) (by omega)]; exact d5 j hj⟩
  rw [hc 4 (by omega) (by omega)]
  exact b3
theorem push_len {H : List AM} {A : AM} : (pushH H A).length = if H.length = 8 then 8 else H.length + 1 := by
  unfold pushH
  by_cases c : H.length = 8
  · rw [if_pos c, if_pos c, List.length_append, List.length_tail, c]
    rfl
  · rw [if_neg c, if_neg c, List.length_append]
    rfl
theorem push_get {H : List AM} {A : AM} {i : Nat} : (pushH H A).getD i A0 = if H.length = 8 then (if i < 7 then H.getD (i + 1) A0 else if i = 7 then A else A0) else (if i < H.length then H.getD i A0 else if i = H.length then A else A0) := by
  unfold pushH
  by_cases c : H.length = 8
  · rw [if_pos c, if_pos c, List.getD_eq_getElem?_getD, List.getElem?_append, List.length_tail, c]
    by_cases h1 : i < 7
    · rw [if_pos (by omega), if_pos h1, List.getElem?_tail, List.getD_eq_getElem?_getD]
    · rw [if_neg (by omega), if_neg h1]
      by_cases h2 : i = 7
      · rw [if_pos h2, h2]
        rfl
      · rw [if_neg h2, List.getElem?_eq_none (by simp; omega)]
        rfl
  · rw [if_neg c, if_neg c, List.getD_eq_getElem?_getD, List.getElem?_append]
    by_cases h1 : i < H.length
    · rw [if_pos h1, if_pos h1, List.getD_eq_getElem?_getD]
    · rw [if_neg h1, if_neg h1]
      by_cases h2 : i = H.length
      · rw [if_pos h2, h2, Nat.sub_self]
        rfl
      · rw [if_neg h2, List.getElem?_eq_none (by simp; omega)]
        rfl
section CL
variable {σ : St} {m : Nat} {A : AM} {H : List AM} {S : Option AM} {B : List Nat} {er fl : Option Nat} {T : List Nat} {C : Nat}
theorem CX.len (h : CX σ H S B er fl) : H.length ≤ 8 := by
  obtain ⟨-, ⟨nx, b1, b2, b3, b4, b5⟩, -⟩ := h
  exact b4
theorem cl_push (hF : 2000 ≤ m) (hC : CR σ 0 A) (hX : CX σ H S B er fl) (hV : VG A C) : ∃ τ, fX3_push m 0 σ = some (nI 0, τ) ∧ CR τ 0 A ∧ CX τ (pushH H A) S B er fl ∧ ∀ c, c < 57 ∨ 209 ≤ c ∧ c ≠ 210 → τ c = σ c := by
  obtain ⟨⟨a1, a2⟩, ⟨nx, b1, b2, b3, b4, b5⟩, ⟨c1, c2, c3⟩, d1, d2⟩ := hX
  obtain ⟨t, t1, t2, t3⟩ := cl_copy (k := 57 + 19 * nx) hF hC hV.1 hV.2 (by omega)
  have h1 : t 210 1 = nI nx := by rw [t3 _ (by omega)]; exact b2
  have h2 : t 210 2 = nI H.length := by rw [t3 _ (by omega)]; exact b3
  have e0 : fX6_copyFrom m (57 + 19 * (nI nx).toNatClampNeg) 0 σ = some (0, t) := by
    rw [nI_clamp (by omega)]
    exact t1
  have e7 : (if 8 < H.length + 1 then 8 else H.length + 1) = (pushH H A).length := by
    rw [push_len]
    split <;> split <;> omega
  refine ⟨u2 (u2 t 210 1 (nI ((nx + 1) % 8))) 210 2 (nI (pushH H A).length), ?_, ?_, ?_, fun c hc => ?_⟩
  · unfold fX3_push
    rw [b2, show (BND (nI nx) 8 _ : Option (Int32 × St)) = _ from pu_BND b1 (by omega), e0, pu_OB, h1]
    simp (disch := omega) only [pu_OB, pu_LET, pu_OX0, pu_BND, pu_NZ, pu_BL, pu_m1, nI_add, pk_sub, pk_mul, pk_div, nI_clamp, pu_eq, pu_ne, pu_le_t, pu_le_f, pu_lt_t, pu_lt_f, pu_nm, pu_mm, pu_u2e, pu_u2n, ↓reduceIte, li0, li1, li2, li3, li4, li5, li6, li7, li8, li9, li10, li11, li12, li13, li14, li15, li16, li17, li18, li19, li20, li21, li22, li23, li24, li25, li26, li27, li28, li29, li30, li31, li32, li33, li34, li35, li36, li37, li38, li39, li40, li41, li42, li43, li44, li45, li46, li47, li48, li49, li50, li51, li52, li53, li54, li55, li56, li57, li58, li59, li60, li64, li72, li87, li97, li98, li99, li100, li101, li102, li103, li104, li105, li108, li109, li110, li111, li112, li114, li115, li116, li117, li119, li120, li124, li126, li132, li139, li140, li148, li156, li1000, li1092, li1248, cl_floorMod, h2, cl_min, e7]
  · exact hC.of fun c hc => by rw [pu_u2r (by omega), pu_u2r (by omega), t3 _ (by omega)]
  · have hlen : (pushH H A).length = if H.length = 8 then 8 else H.length + 1 := push_len
    refine ⟨⟨by rw [pu_u2r (by omega), pu_u2r (by omega), t3 _ (by omega)]; exact a1, fun X hX => (a2 X hX).of fun c hc9 => by rw [pu_u2r (by omega), pu_u2r (by omega), t3 _ (by omega)]⟩, ⟨(nx + 1) % 8, Nat.mod_lt _ (by omega), by rw [pu_u2n (by omega), pu_u2e ⟨rfl, rfl⟩], pu_u2e ⟨rfl, rfl⟩, by rw [hlen]; split <;> omega, fun i hi => ?_⟩, ⟨by rw [pu_u2r (by omega), pu_u2r (by omega), t3 _ (by omega)]; exact c1, c2, fun j hj => by rw [pu_u2r (by omega), pu_u2r (by omega), t3 _ (by omega)]; exact c3 j hj⟩, by rw [pu_u2r (by omega), pu_u2r (by omega), t3 _ (by omega)]; exact d1, by rw [pu_u2r (by omega), pu_u2r (by omega), t3 _ (by omega)]; exact d2⟩
    rw [push_get]
    by_cases c : H.length = 8
    · rw [if_pos c] at hlen ⊢
      rw [hlen] at hi ⊢
      by_cases c7 : i < 7
      · rw [if_pos c7]
        have h5 := b5 (i + 1) (by omega)
        rw [show ((nx + 1) % 8 + 8 - 8 + i) % 8 = (nx + 8 - H.length + (i + 1)) % 8 by omega]
        refine h5.of fun c hc9 => by rw [pu_u2r (by omega), pu_u2r (by omega), t3 _ (by omega)]
      · rw [if_neg c7, if_pos (by omega), show ((nx + 1) % 8 + 8 - 8 + i) % 8 = nx by omega]
        exact t2.of fun c hc9 => by rw [pu_u2r (by omega), pu_u2r (by omega)]
    · rw [if_neg c] at hlen ⊢
      rw [hlen] at hi ⊢
      by_cases c7 : i < H.length
      · rw [if_pos c7]
        have h5 := b5 i c7
        rw [show ((nx + 1) % 8 + 8 - (H.length + 1) + i) % 8 = (nx + 8 - H.length + i) % 8 by omega]
        refine h5.of fun c hc9 => by rw [pu_u2r (by omega), pu_u2r (by omega), t3 _ (by omega)]
      · rw [if_neg c7, if_pos (by omega), show ((nx + 1) % 8 + 8 - (H.length + 1) + i) % 8 = nx by omega]
        exact t2.of fun c hc9 => by rw [pu_u2r (by omega), pu_u2r (by omega)]
  · rw [pu_u2r (by omega), pu_u2r (by omega), t3 _ (by omega)]
/-- the last change is undone -/
theorem cl_pop (hF : 2000 ≤ m) (hX : CX σ H S B er fl) (h0 : 0 < H.length) (hV : VG (H.getD (H.length - 1) A0) C) : ∃ τ, fX3_popInto m 0 σ = some (nI 0, τ) ∧ CR τ 0 (H.getD (H.length - 1) A0) ∧ CX τ H.dropLast S B er fl ∧ τ 210 2 = nI (H.length - 1) := by
  obtain ⟨⟨a1, a2⟩, ⟨nx, b1, b2, b3, b4, b5⟩, ⟨c1, c2, c3⟩, d1, d2⟩ := hX
  have h5 := b5 (H.length - 1) (by omega)
  rw [show (nx + 8 - H.length + (H.length - 1)) % 8 = (nx + 7) % 8 by omega] at h5
  have hCR : CR (u2 σ 210 1 (nI ((nx + 7) % 8))) (57 + 19 * ((nx + 7) % 8)) (H.getD (H.length - 1) A0) := h5.of fun c hc => pu_u2r (by omega)
  obtain ⟨t, t1, t2, t3⟩ := cl_copy (k := 0) hF hCR hV.1 hV.2 (by omega)
  have hfm : fJ9_floorMod_7cf53 (nI nx - 1) (nI 8) σ = some (nI ((nx + 7) % 8), σ) := by
    by_cases c : nx = 0
    · subst c
      exact cl_floorMod_neg
    · have e : nI nx - 1 = nI (nx - 1) := pk_sub (a := nx) (b := 1) (by omega)
      rw [e, cl_floorMod (by omega)]
      rw [show (nx + 7) % 8 = (nx - 1) % 8 by omega]
  have ht2 : t 210 2 = nI H.length := by rw [t3 _ (by omega), pu_u2n (by omega)]; exact b3
  have e0 : fX6_copyFrom m 0 (57 + 19 * (nI ((nx + 7) % 8)).toNatClampNeg) (u2 σ 210 1 (nI ((nx + 7) % 8))) = some (0, t) := by
    rw [nI_clamp (by omega)]
    exact t1
  refine ⟨u2 t 210 2 (nI (H.length - 1)), ?_, t2.of fun c hc => pu_u2r (by omega), ?_, pu_u2e ⟨rfl, rfl⟩⟩
  · unfold fX3_popInto
    rw [b2, show ((8 : Int32)) = nI 8 from rfl, hfm, pu_OB, pu_LET, pu_u2e ⟨rfl, rfl⟩, pu_BND (Nat.mod_lt _ (by omega)) (by omega), e0, pu_OB, ht2]
    simp (disch := omega) only [pu_OB, pu_LET, pu_OX0, pu_BND, pu_NZ, pu_BL, pu_m1, nI_add, pk_sub, pk_mul, pk_div, nI_clamp, pu_eq, pu_ne, pu_le_t, pu_le_f, pu_lt_t, pu_lt_f, pu_nm, pu_mm, pu_u2e, pu_u2n, ↓reduceIte, li0, li1, li2, li3, li4, li5, li6, li7, li8, li9, li10, li11, li12, li13, li14, li15, li16, li17, li18, li19, li20, li21, li22, li23, li24, li25, li26, li27, li28, li29, li30, li31, li32, li33, li34, li35, li36, li37, li38, li39, li40, li41, li42, li43, li44, li45, li46, li47, li48, li49, li50, li51, li52, li53, li54, li55, li56, li57, li58, li59, li60, li64, li72, li87, li97, li98, li99, li100, li101, li102, li103, li104, li105, li108, li109, li110, li111, li112, li114, li115, li116, li117, li119, li120, li124, li126, li132, li139, li140, li148, li156, li1000, li1092, li1248]
  · have hdl : H.dropLast.length = H.length - 1 := List.length_dropLast
    refine ⟨⟨by rw [pu_u2r (by omega), t3 _ (by omega), pu_u2r (by omega)]; exact a1, fun X hX => (a2 X hX).of fun c hc9 => by rw [pu_u2r (by omega), t3 _ (by omega), pu_u2r (by omega)]⟩, ⟨(nx + 7) % 8, Nat.mod_lt _ (by omega), by rw [pu_u2n (by omega), t3 _ (by omega), pu_u2e ⟨rfl, rfl⟩], by rw [hdl]; exact pu_u2e ⟨rfl, rfl⟩, by omega, fun i hi => ?_⟩, ⟨by rw [pu_u2r (by omega), t3 _ (by omega), pu_u2r (by omega)]; exact c1, c2, fun j hj => by rw [pu_u2r (by omega), t3 _ (by omega), pu_u2r (by omega)]; exact c3 j hj⟩, by rw [pu_u2r (by omega), t3 _ (by omega), pu_u2r (by omega)]; exact d1, by rw [pu_u2r (by omega), t3 _ (by omega), pu_u2r (by omega)]; exact d2⟩
    rw [hdl] at hi ⊢
    have hget : H.dropLast.getD i A0 = H.getD i A0 := by
      rw [List.getD_eq_getElem?_getD, List.getElem?_dropLast, if_pos (by omega), List.getD_eq_getElem?_getD]
    rw [hget, show ((nx + 7) % 8 + 8 - (H.length - 1) + i) % 8 = (nx + 8 - H.length + i) % 8 by omega]
    exact (b5 i (by omega)).of fun c hc9 => by rw [pu_u2r (by omega), t3 _ (by omega), pu_u2r (by omega)]
end CL
section RF
variable {s : St} {m : Nat} {A X : AM} {H : List AM} {S : Option AM} {B : List Nat} {er fl : Option Nat} {T : List Nat} {C : Nat}
/-- the row 'before' goes into the history -/
theorem rx_push (hR : RX s H S B er fl T) (h2 : SM s 2 A.1 ∧ NM s 2 A.2) (hl : A.2.length ≤ 15) (hlH : ∀ i, i < H.length → (H.getD i A0).2.length ≤ 15) : RX (hpS s H.length) (pushH H A) S B er fl T ∧ (∀ c, c ≠ 0 → c ≠ 4 → hpS s H.length c = s c) ∧ ∀ j, j ≠ 4 → hpS s H.length 0 j = s 0 j := by
  obtain ⟨⟨a1, a2⟩, ⟨b1, b2, b3⟩, ⟨c1, c2, c3⟩, d1, d2, d3, d4, d5⟩ := hR
  have hf : (∀ c, c ≠ 0 → c ≠ 4 → hpS s H.length c = s c) ∧ ∀ j, j ≠ 4 → hpS s H.length 0 j = s 0 j := by
    unfold hpS
    refine ⟨fun c q1 q2 => ?_, fun j q1 => ?_⟩
    · split
      · rw [pu_u2r q1, cpS_row q2, pu_u2r q1]
        funext j
        exact if_neg (by omega)
      · rw [pu_u2r q1, cpS_row q2]
    · split
      · rw [pu_u2n (by omega), cpS_out (by omega), pu_u2n (by omega)]
        exact if_neg (by omega)
      · rw [pu_u2n (by omega), cpS_out (by omega)]
  refine ⟨⟨⟨by rw [hf.2 _ (by omega)]; exact a1, fun X hX => ⟨(a2 X hX).1.other (hf.1 _ (by omega) (by omega)), (a2 X hX).2.other (hf.1 _ (by omega) (by omega))⟩⟩, ⟨?_, by rw [push_len]; split <;> omega, fun i hi => ?_⟩, ⟨by rw [hf.2 _ (by omega)]; exact c1, c2, fun j hj => by rw [hf.1 _ (by omega) (by omega)]; exact c3 j hj⟩, by rw [hf.2 _ (by omega)]; exact d1, by rw [hf.2 _ (by omega)]; exact d2, by rw [hf.2 _ (by omega)]; exact d3, d4, fun j hj => by rw [hf.1 _ (by omega) (by omega)]; exact d5 j hj⟩, hf⟩
  · rw [push_len]
    unfold hpS
    by_cases c : H.length = 8
    · rw [if_pos c, if_pos c, pu_u2e ⟨rfl, rfl⟩]
    · rw [if_neg c, if_neg c, pu_u2e ⟨rfl, rfl⟩]
  · rw [push_get]
    have hlen : (pushH H A).length = if H.length = 8 then 8 else H.length + 1 := push_len
    unfold hpS
    by_cases c : H.length = 8
    · rw [if_pos c] at hlen ⊢
      rw [if_pos c]
      rw [hlen] at hi
      by_cases c7 : i < 7
      · rw [if_pos c7]
        have h9 := b3 (i + 1) (by omega)
        have he : ∀ j, j < 156 → (u2 (cpS (u2 (shH s 0) 0 4 (nI 7)) 2 0 4 1092 0) 0 4 (nI 8)) 4 (156 * i + j) = s 4 (156 * (i + 1) + j) := fun j hj => by
          rw [pu_u2n (by omega), cpS_out (by omega), pu_u2n (by omega)]
          unfold shH
          rw [if_pos (by omega)]
          exact congrArg (s 4) (by omega)
        exact ⟨h9.1.ext he, h9.2.ext (hlH _ (by omega)) he⟩
      · rw [if_neg c7, if_pos (by omega)]
        have he : ∀ j, j < 156 → (u2 (cpS (u2 (shH s 0) 0 4 (nI 7)) 2 0 4 1092 0) 0 4 (nI 8)) 4 (156 * i + j) = s 2 j := fun j hj => by
          rw [pu_u2n (by omega), show 156 * i + j = 1092 + j by omega, cpS_in hj, pu_u2n (by omega), Nat.zero_add]
          exact if_neg (by omega)
        exact ⟨h2.1.ext he, h2.2.ext hl he⟩
    · rw [if_neg c] at hlen ⊢
      rw [if_neg c]
      rw [hlen] at hi
      by_cases c7 : i < H.length
      · rw [if_pos c7]
        have h9 := b3 i c7
        have he : ∀ j, j < 156 → (u2 (cpS s 2 0 4 (156 * H.length) 0) 0 4 (nI (H.length + 1))) 4 (156 * i + j) = s 4 (156 * i + j) := fun j hj => by
          rw [pu_u2n (by omega), cpS_out (by omega)]
        exact ⟨h9.1.ext he, h9.2.ext (hlH _ c7) he⟩
      · rw [if_neg c7, if_pos (by omega)]
        have he : ∀ j, j < 156 → (u2 (cpS s 2 0 4 (156 * H.length) 0) 0 4 (nI (H.length + 1))) 4 (156 * i + j) = s 2 j := fun j hj => by
          rw [pu_u2n (by omega), show i = H.length by omega, cpS_in hj, Nat.zero_add]
        exact ⟨h2.1.ext he, h2.2.ext hl he⟩
/-- a change's end: kept, or taken back -/
theorem rf_kept {r : Int32} (hF : 2000 ≤ m) (hR : RX s H S B er fl T) (h1 : SM s 1 X.1 ∧ NM s 1 X.2) (h2 : SM s 2 A.1 ∧ NM s 2 A.2) (hl : A.2.length ≤ 15) (hlH : ∀ i, i < H.length → (H.getD i A0).2.length ≤ 15) {c : Nat} (hc : c < 100) (h13 : s 0 13 = nI c) :
    ∃ t, fX12_kept m r s = some (if c = 0 then r else nI 0, t) ∧ SM t 1 (if c = 0 then X else A).1 ∧ NM t 1 (if c = 0 then X else A).2 ∧ RX t (if c = 0 then pushH H A else H) S B er fl T ∧ t 0 13 = nI c := by
  by_cases c0 : c = 0
  · subst c0
    rw [if_pos rfl, if_pos rfl, if_pos rfl]
    have hp := rx_push hR h2 hl hlH
    exact ⟨_, rf_kept_ok hF h13 hR.2.1.1 hR.2.1.2.1, h1.1.other (hp.2.1 _ (by omega) (by omega)), h1.2.other (hp.2.1 _ (by omega) (by omega)), hp.1, by rw [hp.2.2 _ (by omega)]; exact h13⟩
  · rw [if_neg c0, if_neg c0, if_neg c0]
    have he : ∀ j, j < 156 → cpS s 2 0 1 0 0 1 j = s 2 j := fun j hj => by
      have := cpS_in (s := s) (p := 2) (a := 0) (q := 1) (b := 0) hj
      rw [Nat.zero_add] at this
      exact this
    exact ⟨_, rf_kept_x hF h13 (by omega), h2.1.ext he, h2.2.ext hl he, hR.of (fun c q1 q2 => cpS_row (by omega)) fun j hj => cpS_out (by omega), by rw [cpS_out (by omega)]; exact h13⟩
/-- a call that changes the mill -/
theorem rf_change {op : St → Option (Int32 × St)} {r : Int32} {c : Nat} (hF : 2000 ≤ m) (hS : SM s 1 A.1) (hN : NM s 1 A.2) (hR : RX s H S B er fl T) (hl : A.2.length ≤ 15) (hlH : ∀ i, i < H.length → (H.getD i A0).2.length ≤ 15) (hc : c < 100)
    (hop : ∀ s1, SM s1 1 A.1 → NM s1 1 A.2 → RO (op s1) s1 r c X) : ∃ t, (OB (fX12_begin m s) fun _ s2 => OB (op s2) fun r4 s5 => OB (fX12_kept m r4 s5) fun r7 s8 => some (r7, s8)) = some (if c = 0 then r else nI 0, t) ∧ SM t 1 (if c = 0 then X else A).1 ∧ NM t 1 (if c = 0 then X else A).2 ∧ RX t (if c = 0 then pushH H A else H) S B er fl T ∧ t 0 13 = nI c := by
  have e1 : cpS s 1 0 2 0 0 1 = s 1 := cpS_row (by omega)
  have he : ∀ j, j < 156 → cpS s 1 0 2 0 0 2 j = s 1 j := fun j hj => by
    have := cpS_in (s := s) (p := 1) (a := 0) (q := 2) (b := 0) hj
    rw [Nat.zero_add] at this
    exact this
  obtain ⟨t1, o1, o2, o3, o4, o5, o6⟩ := hop (cpS s 1 0 2 0 0) (hS.other e1) (hN.other e1)
  have hR1 : RX t1 H S B er fl T := hR.of (fun c q1 q2 => by rw [o5 _ (by omega), cpS_row (by omega)]) fun j hj => by rw [o6 _ (by omega), cpS_out (by omega)]
  have h21 : SM t1 2 A.1 ∧ NM t1 2 A.2 := ⟨(hS.ext he).other (o5 _ (by omega)), (hN.ext hl he).other (o5 _ (by omega))⟩
  obtain ⟨t, k1, k2⟩ := rf_kept (r := r) hF hR1 ⟨o2, o3⟩ h21 hl hlH hc o4
  refine ⟨t, ?_, k2⟩
  rw [rf_begin hF, pu_OB, o1, pu_OB, k1, pu_OB]
end RF
