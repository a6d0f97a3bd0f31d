-- ===== the text =====
def txW (w gr we : Nat) (st hd : Int32) (nm am : Nat) : List Nat := decL w ++ [103] ++ decL gr ++ [119] ++ decL we ++ (if st = 0 then [] else [33]) ++ [58] ++ (if hd = 0 then [45] else decL nm ++ [120] ++ decL am)
def txS (f0 o0 f1 o1 f2 o2 f3 o3 : Nat) : List Nat := [] ++ decL f0 ++ [43] ++ decL o0 ++ [32] ++ decL f1 ++ [43] ++ decL o1 ++ [32] ++ decL f2 ++ [43] ++ decL o2 ++ [32] ++ decL f3 ++ [43] ++ decL o3
theorem decL_1 {v : Nat} (h : v < 10) : decL v = [48 + v / 1 % 10] := by
  have e : sb_dg v = 1 := if_pos h
  unfold decL
  rw [e]
  show [sb_dec v 0] = _
  unfold sb_dec
  rw [e]
theorem decL_2 {v : Nat} (h1 : 10 ≤ v) (h : v < 100) : decL v = [48 + v / 10 % 10, 48 + v / 1 % 10] := by
  have e : sb_dg v = 2 := by
    unfold sb_dg
    rw [if_neg (by omega), if_pos h]
  unfold decL
  rw [e]
  show [sb_dec v 0, sb_dec v 1] = _
  unfold sb_dec
  rw [e]
theorem decL_3 {v : Nat} (h1 : 100 ≤ v) (h : v < 1000) : decL v = [48 + v / 100 % 10, 48 + v / 10 % 10, 48 + v / 1 % 10] := by
  have e : sb_dg v = 3 := by
    unfold sb_dg
    rw [if_neg (by omega), if_neg (by omega), if_pos h]
  unfold decL
  rw [e]
  show [sb_dec v 0, sb_dec v 1, sb_dec v 2] = _
  unfold sb_dec
  rw [e]
theorem decL_4 {v : Nat} (h1 : 1000 ≤ v) (h : v < 10000) : decL v = [48 + v / 1000 % 10, 48 + v / 100 % 10, 48 + v / 10 % 10, 48 + v / 1 % 10] := by
  have e : sb_dg v = 4 := by
    unfold sb_dg
    rw [if_neg (by omega), if_neg (by omega), if_neg (by omega), if_pos h]
  unfold decL
  rw [e]
  show [sb_dec v 0, sb_dec v 1, sb_dec v 2, sb_dec v 3] = _
  unfold sb_dec
  rw [e]
theorem decL_le {v : Nat} (h : v < 10000) : (decL v).length ≤ 4 := by
  rw [decL_len]
  unfold sb_dg
  (repeat' split) <;> omega
theorem decL_le2 {v : Nat} (h : v < 100) : (decL v).length ≤ 2 := by
  rw [decL_len]
  exact dg2 h
theorem decL_ok (v : Nat) : tOk (decL v) := by
  intro t ht
  unfold decL at ht
  obtain ⟨i, -, rfl⟩ := List.mem_map.mp ht
  unfold sb_dec
  omega
theorem tOk_app {a b : List Nat} (ha : tOk a) (hb9 : tOk b) : tOk (a ++ b) := fun t ht => by
  rcases List.mem_append.mp ht with h | h
  · exact ha t h
  · exact hb9 t h
theorem tOk_1 {c : Nat} (h : c < 256) : tOk [c] := fun t ht => by rw [List.mem_singleton.mp ht]; exact h
def OT (s : St) (T : List Nat) : Prop := s 0 12 = nI T.length ∧ ∀ j, j < T.length → s 7 j = nI (T.getD j 0)
section PR
variable {σ s : St} {m C : Nat} {T : List Nat}
theorem rf_writes {c : Nat} (h : OT s T) (hl : T.length < 60) (hc : c < 256) : ∃ t, fX12_writes (nI c) s = some (nI 0, t) ∧ OT t (T ++ [c]) ∧ (∀ k, k ≠ 0 → k ≠ 7 → t k = s k) ∧ ∀ j, j ≠ 12 → t 0 j = s 0 j := by
  have e1 := h.1
  have e2 : vp_nar .char (((nI c).toUInt32 % 65536).toInt32) = nI c := by
    rw [pk_vc, pk_char, pk_tn (by omega), Nat.mod_eq_of_lt (by omega)]
  have hbl : (T ++ [c]).length = T.length + 1 := by rw [List.length_append]; rfl
  refine ⟨u2 (u2 s 7 T.length (nI c)) 0 12 (nI (T.length + 1)), ?_, ⟨by rw [pu_u2e ⟨rfl, rfl⟩, hbl], fun j hj => ?_⟩, fun k a b => by rw [pu_u2r a, pu_u2r b], fun j hj => by rw [pu_u2n (by omega), pu_u2n (by omega)]⟩
  · unfold fX12_writes
    simp (disch := omega) only [pu_OB, pu_LET, pu_OX0, pu_BND, pu_NZ, pu_BL, pu_m1, nI_add, pk_sub, pk_mul, pk_div, nI_clamp, pu_eq, pu_ne, pu_le_t, pu_le_f, pu_lt_t, pu_lt_f, pu_nm, pu_mm, pu_u2e, pu_u2n, ↓reduceIte, li0, li1, li2, li3, li4, li5, li6, li7, li8, li9, li10, li11, li12, li13, li14, li15, li16, li17, li18, li19, li20, li21, li22, li23, li24, li25, li26, li27, li28, li29, li30, li31, li32, li33, li34, li35, li36, li37, li38, li39, li40, li41, li42, li43, li44, li45, li46, li47, li48, li49, li50, li51, li52, li53, li54, li55, li56, li57, li58, li59, li60, li64, li72, li87, li97, li98, li99, li100, li101, li102, li103, li104, li105, li108, li109, li110, li111, li112, li114, li115, li116, li117, li119, li120, li124, li126, li132, li139, li140, li148, li156, li1000, li1092, li1248, e1, e2]
  · rw [hbl] at hj
    rw [nap_getD (by omega), pu_u2n (by omega)]
    by_cases c9 : j = T.length
    · rw [if_pos c9, c9, pu_u2e ⟨rfl, rfl⟩]
    · rw [if_neg c9, pu_u2n (by omega)]
      exact h.2 j (by omega)
theorem rf_w22_S (r : Nat) (x1 x2 : Int32) (s : St) : fX12_writesNumber_L22 m (r + 1) x1 x2 s = fX12_writesNumber_L22b m (fX12_writesNumber_L22 m r) x1 x2 s := rfl
theorem rf_w4_S (r : Nat) (x1 x2 : Int32) (s : St) : fX12_writesNumber_L4 m (r + 1) x1 x2 s = fX12_writesNumber_L4b m (fX12_writesNumber_L4 m r) x1 x2 s := rfl
/-- one digit, then the rest of the units -/
theorem rf_digit {v u u1 r : Nat} {X : List Nat} (h : OT s T) (hl : T.length < 60) (hv : v < 10000) (hu : 0 < u ∧ u ≤ 1000) (hu1 : u / 10 = u1) (hz : ∀ t, OT t (T ++ [48 + v / u % 10]) → ∃ t', fX12_writesNumber_L22 m r (nI v) (nI u1) t = some (nI 0, t') ∧ OT t' (T ++ [48 + v / u % 10] ++ X) ∧ (∀ k, k ≠ 0 → k ≠ 7 → t' k = t k) ∧ ∀ j, j ≠ 12 → t' 0 j = t 0 j) :
    ∃ t', fX12_writesNumber_L22 m (r + 1) (nI v) (nI u) s = some (nI 0, t') ∧ OT t' (T ++ ([48 + v / u % 10] ++ X)) ∧ (∀ k, k ≠ 0 → k ≠ 7 → t' k = s k) ∧ ∀ j, j ≠ 12 → t' 0 j = s 0 j := by
  obtain ⟨t, w1, w2, w3, w4⟩ := rf_writes (c := 48 + v / u % 10) h hl (by omega)
  obtain ⟨t', z1, z2, z3, z4⟩ := hz t w2
  have hq : v / u < 2 ^ 31 := Nat.lt_of_le_of_lt (Nat.div_le_self v u) (by omega)
  have e1 : nI v / nI u = nI (v / u) := pk_div (by omega) hu.1 (by omega)
  have e2 : nI (v / u) - nI (v / u) / nI 10 * nI 10 = nI (v / u % 10) := pk_rem hq (by omega) (by omega)
  have e3 : nI u / nI 10 = nI u1 := by rw [pk_div (by omega) (by omega) (by omega), hu1]
  refine ⟨t', ?_, by rw [← List.append_assoc]; exact z2, fun k a b => by rw [z3 k a b, w3 k a b], fun j hj => by rw [z4 j hj, w4 j hj]⟩
  rw [rf_w22_S]
  unfold fX12_writesNumber_L22b
  simp (disch := omega) only [li0, li10, li48, pu_le_f, ↓reduceIte, pu_NZ, e1, e2, nI_add, w1, pu_OB, e3, pu_LET]
  exact z1
theorem rf_w22_0 {v r : Nat} : fX12_writesNumber_L22 m (r + 1) (nI v) (nI 0) s = some (nI 0, s) := by
  rw [rf_w22_S]
  unfold fX12_writesNumber_L22b
  simp (disch := omega) only [li0, pu_le_t, ↓reduceIte]
theorem rf_wn1 {v r : Nat} (h : OT s T) (hl : T.length + 1 ≤ 60) (hv : v < 10000) (hr : 2 ≤ r) : ∃ t', fX12_writesNumber_L22 m r (nI v) (nI 1) s = some (nI 0, t') ∧ OT t' (T ++ [48 + v / 1 % 10]) ∧ (∀ k, k ≠ 0 → k ≠ 7 → t' k = s k) ∧ ∀ j, j ≠ 12 → t' 0 j = s 0 j := by
  obtain ⟨r, rfl⟩ : ∃ q, r = q + 2 := ⟨r - 2, by omega⟩
  have := rf_digit (m := m) (u := 1) (u1 := 0) (r := r + 1) (X := []) h (by omega) hv (by omega) rfl fun t ht => ⟨t, rf_w22_0, by rw [List.append_nil]; exact ht, fun k a b => rfl, fun j hj => rfl⟩
  exact this
theorem rf_wn2 {v r : Nat} (h : OT s T) (hl : T.length + 2 ≤ 60) (hv : v < 10000) (hr : 3 ≤ r) : ∃ t', fX12_writesNumber_L22 m r (nI v) (nI 10) s = some (nI 0, t') ∧ OT t' (T ++ [48 + v / 10 % 10, 48 + v / 1 % 10]) ∧ (∀ k, k ≠ 0 → k ≠ 7 → t' k = s k) ∧ ∀ j, j ≠ 12 → t' 0 j = s 0 j := by
  obtain ⟨r, rfl⟩ : ∃ q, r = q + 1 := ⟨r - 1, by omega⟩
  exact rf_digit (m := m) (u := 10) (u1 := 1) (r := r) (X := [48 + v / 1 % 10]) h (by omega) hv (by omega) rfl fun t ht => rf_wn1 ht (by rw [List.length_append]; exact hl) hv (by omega)
theorem rf_wn3 {v r : Nat} (h : OT s T) (hl : T.length + 3 ≤ 60) (hv : v < 10000) (hr : 4 ≤ r) : ∃ t', fX12_writesNumber_L22 m r (nI v) (nI 100) s = some (nI 0, t') ∧ OT t' (T ++ [48 + v / 100 % 10, 48 + v / 10 % 10, 48 + v / 1 % 10]) ∧ (∀ k, k ≠ 0 → k ≠ 7 → t' k = s k) ∧ ∀ j, j ≠ 12 → t' 0 j = s 0 j := by
  obtain ⟨r, rfl⟩ : ∃ q, r = q + 1 := ⟨r - 1, by omega⟩
  exact rf_digit (m := m) (u := 100) (u1 := 10) (r := r) (X := [48 + v / 10 % 10, 48 + v / 1 % 10]) h (by omega) hv (by omega) rfl fun t ht => rf_wn2 ht (by rw [List.length_append]; exact hl) hv (by omega)
theorem rf_wn4 {v r : Nat} (h : OT s T) (hl : T.length + 4 ≤ 60) (hv : v < 10000) (hr : 5 ≤ r) : ∃ t', fX12_writesNumber_L22 m r (nI v) (nI 1000) s = some (nI 0, t') ∧ OT t' (T ++ [48 + v / 1000 % 10, 48 + v / 100 % 10, 48 + v / 10 % 10, 48 + v / 1 % 10]) ∧ (∀ k, k ≠ 0 → k ≠ 7 → t' k = s k) ∧ ∀ j, j ≠ 12 → t' 0 j = s 0 j := by
  obtain ⟨r, rfl⟩ : ∃ q, r = q + 1 := ⟨r - 1, by omega⟩
  exact rf_digit (m := m) (u := 1000) (u1 := 100) (r := r) (X := [48 + v / 100 % 10, 48 + v / 10 % 10, 48 + v / 1 % 10]) h (by omega) hv (by omega) rfl fun t ht => rf_wn3 ht (by rw [List.length_append]; exact hl) hv (by omega)
theorem rf_num {v : Nat} (hF : 2000 ≤ m) (h : OT s T) (hl : T.length + 4 ≤ 60) (hv : v < 10000) : ∃ t', fX12_writesNumber m (nI v) s = some (nI 0, t') ∧ OT t' (T ++ decL v) ∧ (∀ k, k ≠ 0 → k ≠ 7 → t' k = s k) ∧ ∀ j, j ≠ 12 → t' 0 j = s 0 j := by
  have d1 : nI 1000 / nI 10 = nI 100 := pk_div (by omega) (by omega) (by omega)
  have d2 : nI 100 / nI 10 = nI 10 := pk_div (by omega) (by omega) (by omega)
  have d3 : nI 10 / nI 10 = nI 1 := pk_div (by omega) (by omega) (by omega)
  have key : ∀ q, 5 ≤ q → ∃ t', fX12_writesNumber_L4 m q (nI v) (nI 1000) s = some (nI 0, t') ∧ OT t' (T ++ decL v) ∧ (∀ k, k ≠ 0 → k ≠ 7 → t' k = s k) ∧ ∀ j, j ≠ 12 → t' 0 j = s 0 j := by
    intro q hq
    obtain ⟨q, rfl⟩ : ∃ r, q = r + 4 := ⟨q - 4, by omega⟩
    by_cases c1 : v < 10
    · obtain ⟨t', z1, z2⟩ := rf_wn1 (m := m) (v := v) (r := m) h (by omega) hv (by omega)
      refine ⟨t', ?_, by rw [decL_1 c1]; exact z2⟩
      simp (disch := omega) only [rf_w4_S, fX12_writesNumber_L4b, li1, li10, pu_le_f, pu_le_t, ↓reduceIte, d1, d2, d3, pu_LET]
      exact z1
    · by_cases c2 : v < 100
      · obtain ⟨t', z1, z2⟩ := rf_wn2 (m := m) (v := v) (r := m) h (by omega) hv (by omega)
        refine ⟨t', ?_, by rw [decL_2 (by omega) c2]; exact z2⟩
        simp (disch := omega) only [rf_w4_S, fX12_writesNumber_L4b, li1, li10, pu_le_f, pu_le_t, ↓reduceIte, d1, d2, d3, pu_LET]
        exact z1
      · by_cases c3 : v < 1000
        · obtain ⟨t', z1, z2⟩ := rf_wn3 (m := m) (v := v) (r := m) h (by omega) hv (by omega)
          refine ⟨t', ?_, by rw [decL_3 (by omega) c3]; exact z2⟩
          simp (disch := omega) only [rf_w4_S, fX12_writesNumber_L4b, li1, li10, pu_le_f, pu_le_t, ↓reduceIte, d1, d2, d3, pu_LET]
          exact z1
        · obtain ⟨t', z1, z2⟩ := rf_wn4 (m := m) (v := v) (r := m) h (by omega) hv (by omega)
          refine ⟨t', ?_, by rw [decL_4 (by omega) hv]; exact z2⟩
          simp (disch := omega) only [rf_w4_S, fX12_writesNumber_L4b, li1, li10, pu_le_f, pu_le_t, ↓reduceIte, d1, d2, d3, pu_LET]
          exact z1
  unfold fX12_writesNumber
  exact key m (by omega)
/-- the text's row and its length written, nothing else -/
theorem GG.text {t : St} {T' : List Nat} {k : Int32} (h : GG σ s C T) (ho : OT t T') (hl : T'.length ≤ 34) (ht : tOk T') (hf : ∀ k, k ≠ 0 → k ≠ 7 → t k = s k) (h0 : ∀ j, j ≠ 12 → t 0 j = s 0 j) : GG σ (u2 t 0 13 k) (C + 1) T' := by
  obtain ⟨A, H, S, B, er, fl, g1, g2, g3, g4, g5, g6, g7, g8, g9⟩ := h
  have hr : ∀ c, c ≠ 0 → c ≠ 7 → u2 t 0 13 k c = s c := fun c a b => by rw [pu_u2r a, hf c a b]
  have h9 : ∀ j, j ≠ 12 → j ≠ 13 → u2 t 0 13 k 0 j = s 0 j := fun j a b => by rw [pu_u2n (by omega), h0 j a]
  refine ⟨A, H, S, B, er, fl, g1, g2, ⟨g3.1.other (hr 1 (by omega) (by omega)), g3.2.other (hr 1 (by omega) (by omega))⟩, ?_, g5.mono (by omega), fun i hi => (g6 i hi).mono (by omega), fun X hX => (g7 X hX).mono (by omega), g8, ht⟩
  obtain ⟨⟨a1, a2⟩, ⟨b1, b2, b3⟩, ⟨c1, c2, c3⟩, d1, d2, d3, d4, d5⟩ := g4
  refine ⟨⟨by rw [h9 _ (by omega) (by omega)]; exact a1, fun X hX => ⟨(a2 X hX).1.other (hr _ (by omega) (by omega)), (a2 X hX).2.other (hr _ (by omega) (by omega))⟩⟩, ⟨by rw [h9 _ (by omega) (by omega)]; exact b1, b2, ?_⟩, ⟨by rw [h9 _ (by omega) (by omega)]; exact c1, c2, fun j hj => by rw [hr _ (by omega) (by omega)]; exact c3 j hj⟩, by rw [h9 _ (by omega) (by omega)]; exact d1, by rw [h9 _ (by omega) (by omega)]; exact d2, by rw [pu_u2n (by omega)]; exact ho.1, hl, fun j hj => by rw [pu_u2n (by omega)]; exact ho.2 j hj⟩
  rw [hr 4 (by omega) (by omega)]
  exact b3
theorem OT.nil : OT (u2 s 0 12 (nI 0)) [] := ⟨pu_u2e ⟨rfl, rfl⟩, fun j hj => absurd hj (Nat.not_lt_zero _)⟩
theorem ca_outputAt (h : GG σ s C T) (p : Int32) : CASE (fOut T p σ) (fX12_outputAt p s) [2] C T := by
  have h0 := h
  obtain ⟨A, H, S, B, er, fl, g1, g2, g3, g4, g5, g6, g7, g8, g9⟩ := h0
  obtain ⟨-, -, -, -, -, d3, d4, d5⟩ := g4
  rcases rng0 p (n := T.length) (by omega) with hp | ⟨j, hj, rfl⟩
  · have e1 : fX12_in p 0 (nI T.length - 1) s = some (nI 0, s) := by
      by_cases c : T.length = 0
      · unfold fX12_in
        by_cases c2 : p < 0
        · rw [if_pos c2]
          rfl
        · rw [if_neg c2, if_pos]
          · rfl
          · rw [c]
            have c2 : ¬ p.toInt < 0 := fun q => c2 (by rw [Int32.lt_iff_toInt_lt, Int32.toInt_zero]; exact q)
            rw [Int32.lt_iff_toInt_lt, show (nI 0 - 1).toInt = -1 from by decide +kernel]
            omega
      · have e : nI T.length - 1 = nI (T.length - 1) := pk_sub (a := T.length) (b := 1) (by omega)
        rw [e]
        exact rf_in_bad (lo := 0) (hi := T.length - 1) (by rw [Nat.sub_add_cancel (by omega)]; exact hp) (by omega)
    have ech : vp_nar .char (nI 0) = nI 0 := nar_ch (by omega)
    have ech2 : (CH (nI 0) (some (nI 0, u2 s 0 13 (nI 1))) : Option (Int32 × St)) = some (nI 0, u2 s 0 13 (nI 1)) := if_pos ech
    refine q_x (c := 2) (k := 1) (r := 0) (r' := nI 0) h ?_ ?_ (by decide) (by omega) (by decide +kernel)
    · unfold fOut
      by_cases c : p < 0
      · rw [if_pos c]
      · rw [if_neg c, if_neg]
        intro h9
        have h8 := hp.resolve_left c
        rw [Int32.le_iff_toInt_le] at h8
        rw [Int32.lt_iff_toInt_lt] at h9
        omega
    · unfold fX12_outputAt
      rw [d3, e1]
      unfold fX12_outputAt_B20
      simp (disch := omega) only [pu_OB, pu_LET, pu_OX0, pu_BND, pu_NZ, pu_BL, pu_m1, nI_add, pk_sub, pk_mul, pk_div, nI_clamp, pu_eq, pu_ne, pu_le_t, pu_le_f, pu_lt_t, pu_lt_f, pu_nm, pu_mm, pu_u2e, pu_u2n, ↓reduceIte, li0, li1, li2, li3, li4, li5, li6, li7, li8, li9, li10, li11, li12, li13, li14, li15, li16, li17, li18, li19, li20, li21, li22, li23, li24, li25, li26, li27, li28, li29, li30, li31, li32, li33, li34, li35, li36, li37, li38, li39, li40, li41, li42, li43, li44, li45, li46, li47, li48, li49, li50, li51, li52, li53, li54, li55, li56, li57, li58, li59, li60, li64, li72, li87, li97, li98, li99, li100, li101, li102, li103, li104, li105, li108, li109, li110, li111, li112, li114, li115, li116, li117, li119, li120, li124, li126, li132, li139, li140, li148, li156, li1000, li1092, li1248]
      exact ech2
  · have e : nI T.length - nI 1 = nI (T.length - 1) := pk_sub (by omega)
    have e2 := d5 j hj
    have ht : T.getD j 0 < 256 := g9 _ (ngetD_mem hj)
    have ech2 : (CH (nI (T.getD j 0)) (some (nI (T.getD j 0), u2 s 0 13 (nI 0))) : Option (Int32 × St)) = some (nI (T.getD j 0), u2 s 0 13 (nI 0)) := if_pos (nar_ch (by omega))
    refine q_ok (r := nI (T.getD j 0)) h ?_ ?_
    · unfold fOut
      simp (disch := omega) only [pu_OB, pu_LET, pu_OX0, pu_BND, pu_NZ, pu_BL, pu_m1, nI_add, pk_sub, pk_mul, pk_div, nI_clamp, pu_eq, pu_ne, pu_le_t, pu_le_f, pu_lt_t, pu_lt_f, pu_nm, pu_mm, pu_u2e, pu_u2n, ↓reduceIte, li0, li1, li2, li3, li4, li5, li6, li7, li8, li9, li10, li11, li12, li13, li14, li15, li16, li17, li18, li19, li20, li21, li22, li23, li24, li25, li26, li27, li28, li29, li30, li31, li32, li33, li34, li35, li36, li37, li38, li39, li40, li41, li42, li43, li44, li45, li46, li47, li48, li49, li50, li51, li52, li53, li54, li55, li56, li57, li58, li59, li60, li64, li72, li87, li97, li98, li99, li100, li101, li102, li103, li104, li105, li108, li109, li110, li111, li112, li114, li115, li116, li117, li119, li120, li124, li126, li132, li139, li140, li148, li156, li1000, li1092, li1248]
    · unfold fX12_outputAt fX12_outputAt_B20
      simp (disch := omega) only [pu_OB, pu_LET, pu_OX0, pu_BND, pu_NZ, pu_BL, pu_m1, nI_add, pk_sub, pk_mul, pk_div, nI_clamp, pu_eq, pu_ne, pu_le_t, pu_le_f, pu_lt_t, pu_lt_f, pu_nm, pu_mm, pu_u2e, pu_u2n, ↓reduceIte, li0, li1, li2, li3, li4, li5, li6, li7, li8, li9, li10, li11, li12, li13, li14, li15, li16, li17, li18, li19, li20, li21, li22, li23, li24, li25, li26, li27, li28, li29, li30, li31, li32, li33, li34, li35, li36, li37, li38, li39, li40, li41, li42, li43, li44, li45, li46, li47, li48, li49, li50, li51, li52, li53, li54, li55, li56, li57, li58, li59, li60, li64, li72, li87, li97, li98, li99, li100, li101, li102, li103, li104, li105, li108, li109, li110, li111, li112, li114, li115, li116, li117, li119, li120, li124, li126, li132, li139, li140, li148, li156, li1000, li1092, li1248, d3, rf_in_good, e2]
      exact ech2
theorem ca_renderWheel_x (h : GG σ s C T) {p : Int32} (hp : p < 0 ∨ nI 3 ≤ p) : fX11_requireWheel p σ = some ((2, 0), σ) ∧ fX12_renderWheel m p s = some (nI 0, u2 s 0 13 (nI 1)) ∧ GG σ (u2 s 0 13 (nI 1)) (C + 1) T := by
  refine ⟨cl_reqW_x hp, ?_, h.th⟩
  unfold fX12_renderWheel
  simp (disch := omega) only [pu_OB, pu_LET, pu_OX0, pu_BND, pu_NZ, pu_BL, pu_m1, nI_add, pk_sub, pk_mul, pk_div, nI_clamp, pu_eq, pu_ne, pu_le_t, pu_le_f, pu_lt_t, pu_lt_f, pu_nm, pu_mm, pu_u2e, pu_u2n, ↓reduceIte, li0, li1, li2, li3, li4, li5, li6, li7, li8, li9, li10, li11, li12, li13, li14, li15, li16, li17, li18, li19, li20, li21, li22, li23, li24, li25, li26, li27, li28, li29, li30, li31, li32, li33, li34, li35, li36, li37, li38, li39, li40, li41, li42, li43, li44, li45, li46, li47, li48, li49, li50, li51, li52, li53, li54, li55, li56, li57, li58, li59, li60, li64, li72, li87, li97, li98, li99, li100, li101, li102, li103, li104, li105, li108, li109, li110, li111, li112, li114, li115, li116, li117, li119, li120, li124, li126, li132, li139, li140, li148, li156, li1000, li1092, li1248, rf_isWheel_x hp, rf_fails]
theorem ca_renderWheel (hF : 2000 ≤ m) (hC : C < 512) (h : GG σ s C T) {w : Nat} (hw : w < 3) : ∃ gr we nm am st hd, (fX11_requireWheel (nI w) σ = some ((0, 0), σ) ∧ σ (0 + 16) w = nI gr ∧ gr < 100 ∧ σ (0 + 17) w = nI we ∧ we < 100 ∧ fX6_isStuck 0 (nI w) σ = some (st, σ) ∧ fX7_isHeld (0 + 1) (nI w) σ = some (hd, σ) ∧ (¬ hd = 0 → σ (0 + 1 + 1) (12 + w) = nI nm ∧ σ (0 + 1 + 4) (12 + w) = nI am) ∧ nm < 2 ^ 31 ∧ am < 100) ∧ ∃ t, fX12_renderWheel m (nI w) s = some (nI (txW w gr we st hd nm am).length, t) ∧ t 0 13 = nI 0 ∧ GG σ t (C + 1) (txW w gr we st hd nm am) := by
  have h0 := h
  obtain ⟨A, H, S, B, er, fl, g1, g2, g3, g4, g5, g6, g7, g8, g9⟩ := h0
  have hB := g5.B (by omega)
  have hb1 := g5.2.1
  have hg := g5.2.2.1 w hw
  have hl := g5.1.len
  have est := cl_isStuck g1.1 hw (by omega)
  have hCW := g1
  obtain ⟨-, W, hn⟩ := hCW
  have ehd := cl_isHeld hn hw
  have hnil : OT (u2 s 0 12 (nI 0)) [] := OT.nil
  obtain ⟨t1, a1, a2, a3, a4⟩ := rf_num (m := m) (v := w) hF hnil (by decide) (by omega)
  obtain ⟨t2, b1, b2, b3, b4⟩ := rf_writes (c := 103) a2 (by rw [List.length_append]; have := decL_le2 (show w < 100 by omega); show 0 + _ < _; omega) (by omega)
  have l1 := decL_le2 (show w < 100 by omega)
  have l2 := decL_le2 (show A.1 (7 + w) < 100 by omega)
  have l3 := decL_le2 (show A.1 (10 + w) < 100 by omega)
  obtain ⟨t3, c1, c2, c3, c4⟩ := rf_num (m := m) (v := A.1 (7 + w)) hF b2 (by simp only [List.length_append, List.length_cons, List.length_nil]; omega) (by omega)
  obtain ⟨t4, d1, d2, d3, d4⟩ := rf_writes (c := 119) c2 (by simp only [List.length_append, List.length_cons, List.length_nil]; omega) (by omega)
  obtain ⟨t5, e1, e2, e3, e4⟩ := rf_num (m := m) (v := A.1 (10 + w)) hF d2 (by simp only [List.length_append, List.length_cons, List.length_nil]; omega) (by omega)
  have f5 : ∀ k, k ≠ 0 → k ≠ 7 → t5 k = s k := fun k x y => by rw [e3 k x y, d3 k x y, c3 k x y, b3 k x y, a3 k x y, pu_u2r x]
  have f50 : ∀ j, j ≠ 12 → t5 0 j = s 0 j := fun j x => by rw [e4 j x, d4 j x, c4 j x, b4 j x, a4 j x, pu_u2n (by omega)]
  have r7 : t2 1 (7 + w) = nI (A.1 (7 + w)) := by rw [b3 1 (by omega) (by omega), a3 1 (by omega) (by omega), pu_u2n (by omega)]; exact g3.1 _ (by omega) (by omega) (by omega)
  have r10 : t4 1 (10 + w) = nI (A.1 (10 + w)) := by rw [d3 1 (by omega) (by omega), c3 1 (by omega) (by omega), b3 1 (by omega) (by omega), a3 1 (by omega) (by omega), pu_u2n (by omega)]; exact g3.1 _ (by omega) (by omega) (by omega)
  have r10' : t5 1 (10 + w) = nI (A.1 (10 + w)) := by rw [f5 1 (by omega) (by omega)]; exact g3.1 _ (by omega) (by omega) (by omega)
  -- the sign of a jam
  have hjam : ∃ t6, (if A.1 (10 + w) < 12 then some ((nI 0 : Int32), t5) else fX12_writes (nI 33) t5) = some (nI 0, t6) ∧ OT t6 (([] ++ decL w ++ [103] ++ decL (A.1 (7 + w)) ++ [119] ++ decL (A.1 (10 + w))) ++ (if nI (if A.1 (10 + w) < 12 then 0 else 1) = 0 then [] else [33])) ∧ (∀ k, k ≠ 0 → k ≠ 7 → t6 k = s k) ∧ ∀ j, j ≠ 12 → t6 0 j = s 0 j := by
    by_cases cj : A.1 (10 + w) < 12
    · rw [if_pos cj, if_pos cj, if_pos (show nI 0 = 0 from rfl), List.append_nil]
      exact ⟨t5, rfl, e2, f5, f50⟩
    · rw [if_neg cj, if_neg cj, if_neg (show ¬ nI 1 = 0 by decide +kernel)]
      obtain ⟨t6, z1, z2, z3, z4⟩ := rf_writes (c := 33) e2 (by simp only [List.length_append, List.length_cons, List.length_nil]; omega) (by omega)
      exact ⟨t6, z1, z2, fun k x y => by rw [z3 k x y, f5 k x y], fun j x => by rw [z4 j x, f50 j x]⟩
  obtain ⟨t6, j1, j2, j3, j4⟩ := hjam
  have hjl : (if nI (if A.1 (10 + w) < 12 then 0 else 1) = 0 then ([] : List Nat) else [33]).length ≤ 1 := by
    split
    · exact Nat.zero_le _
    · exact Nat.le_refl _
  have hjt : tOk (if nI (if A.1 (10 + w) < 12 then 0 else 1) = 0 then ([] : List Nat) else [33]) := by
    split
    · exact fun t ht => by cases ht
    · exact tOk_1 (by omega)
  generalize hJ : (if nI (if A.1 (10 + w) < 12 then 0 else 1) = 0 then ([] : List Nat) else [33]) = J at j2 hjl hjt
  obtain ⟨t7, k1, k2, k3, k4⟩ := rf_writes (c := 58) j2 (by simp only [List.length_append, List.length_cons, List.length_nil]; omega) (by omega)
  have f7 : ∀ k, k ≠ 0 → k ≠ 7 → t7 k = s k := fun k x y => by rw [k3 k x y, j3 k x y]
  have f70 : ∀ j, j ≠ 12 → t7 0 j = s 0 j := fun j x => by rw [k4 j x, j4 j x]
  have r13 : t7 1 (13 + w) = nI (A.1 (13 + w)) := by rw [f7 1 (by omega) (by omega)]; exact g3.1 _ (by omega) (by omega) (by omega)
  have h13 := g5.1.held hw
  have hmain : ∀ t8 : St, ∀ X : List Nat, fX12_renderWheel_B81 m (nI w) t6 = fX12_renderWheel_B156 m t8 → OT t8 ([] ++ decL w ++ [103] ++ decL (A.1 (7 + w)) ++ [119] ++ decL (A.1 (10 + w)) ++ J ++ [58] ++ X) → fX12_renderWheel m (nI w) s = some (nI ([] ++ decL w ++ [103] ++ decL (A.1 (7 + w)) ++ [119] ++ decL (A.1 (10 + w)) ++ J ++ [58] ++ X).length, u2 t8 0 13 (nI 0)) := fun t8 X q1 q2 => by
    have q3 := q2.1
    have q4 : fX12_renderWheel_B156 m t8 = some (nI ([] ++ decL w ++ [103] ++ decL (A.1 (7 + w)) ++ [119] ++ decL (A.1 (10 + w)) ++ J ++ [58] ++ X).length, u2 t8 0 13 (nI 0)) := by
      unfold fX12_renderWheel_B156
      rw [q3, rf_done, pu_OB]
    rw [← q4, ← q1]
    unfold fX12_renderWheel
    by_cases cj : A.1 (10 + w) < 12
    · rw [if_pos cj] at j1
      obtain rfl : t5 = t6 := by cases j1; rfl
      simp (disch := omega) only [pu_OB, pu_LET, pu_OX0, pu_BND, pu_NZ, pu_BL, pu_m1, nI_add, pk_sub, pk_mul, pk_div, nI_clamp, pu_eq, pu_ne, pu_le_t, pu_le_f, pu_lt_t, pu_lt_f, pu_nm, pu_mm, pu_u2e, pu_u2n, ↓reduceIte, li0, li1, li2, li3, li4, li5, li6, li7, li8, li9, li10, li11, li12, li13, li14, li15, li16, li17, li18, li19, li20, li21, li22, li23, li24, li25, li26, li27, li28, li29, li30, li31, li32, li33, li34, li35, li36, li37, li38, li39, li40, li41, li42, li43, li44, li45, li46, li47, li48, li49, li50, li51, li52, li53, li54, li55, li56, li57, li58, li59, li60, li64, li72, li87, li97, li98, li99, li100, li101, li102, li103, li104, li105, li108, li109, li110, li111, li112, li114, li115, li116, li117, li119, li120, li124, li126, li132, li139, li140, li148, li156, li1000, li1092, li1248, rf_isWheel hw, a1, b1, r7, c1, d1, r10, e1, r10']
    · rw [if_neg cj] at j1
      simp (disch := omega) only [pu_OB, pu_LET, pu_OX0, pu_BND, pu_NZ, pu_BL, pu_m1, nI_add, pk_sub, pk_mul, pk_div, nI_clamp, pu_eq, pu_ne, pu_le_t, pu_le_f, pu_lt_t, pu_lt_f, pu_nm, pu_mm, pu_u2e, pu_u2n, ↓reduceIte, li0, li1, li2, li3, li4, li5, li6, li7, li8, li9, li10, li11, li12, li13, li14, li15, li16, li17, li18, li19, li20, li21, li22, li23, li24, li25, li26, li27, li28, li29, li30, li31, li32, li33, li34, li35, li36, li37, li38, li39, li40, li41, li42, li43, li44, li45, li46, li47, li48, li49, li50, li51, li52, li53, li54, li55, li56, li57, li58, li59, li60, li64, li72, li87, li97, li98, li99, li100, li101, li102, li103, li104, li105, li108, li109, li110, li111, li112, li114, li115, li116, li117, li119, li120, li124, li126, li132, li139, li140, li148, li156, li1000, li1092, li1248, rf_isWheel hw, a1, b1, r7, c1, d1, r10, e1, r10', j1]
  have hpre : tOk ([] ++ decL w ++ [103] ++ decL (A.1 (7 + w)) ++ [119] ++ decL (A.1 (10 + w)) ++ J ++ [58]) := tOk_app (tOk_app (tOk_app (tOk_app (tOk_app (tOk_app (decL_ok _) (tOk_1 (by omega))) (decL_ok _)) (tOk_1 (by omega))) (decL_ok _)) hjt) (tOk_1 (by omega))
  rcases pd_pred g5.1 hw with hz | ⟨p, hp, hh⟩
  · rw [hz] at ehd r13
    obtain ⟨t8, m1, m2, m3, m4⟩ := rf_writes (c := 45) k2 (by simp only [List.length_append, List.length_cons, List.length_nil]; omega) (by omega)
    have q1 : fX12_renderWheel_B81 m (nI w) t6 = fX12_renderWheel_B156 m t8 := by
      unfold fX12_renderWheel_B81
      simp (disch := omega) only [pu_OB, pu_LET, pu_OX0, pu_BND, pu_NZ, pu_BL, pu_m1, nI_add, pk_sub, pk_mul, pk_div, nI_clamp, pu_eq, pu_ne, pu_le_t, pu_le_f, pu_lt_t, pu_lt_f, pu_nm, pu_mm, pu_u2e, pu_u2n, ↓reduceIte, li0, li1, li2, li3, li4, li5, li6, li7, li8, li9, li10, li11, li12, li13, li14, li15, li16, li17, li18, li19, li20, li21, li22, li23, li24, li25, li26, li27, li28, li29, li30, li31, li32, li33, li34, li35, li36, li37, li38, li39, li40, li41, li42, li43, li44, li45, li46, li47, li48, li49, li50, li51, li52, li53, li54, li55, li56, li57, li58, li59, li60, li64, li72, li87, li97, li98, li99, li100, li101, li102, li103, li104, li105, li108, li109, li110, li111, li112, li114, li115, li116, li117, li119, li120, li124, li126, li132, li139, li140, li148, li156, li1000, li1092, li1248, k1, r13, m1]
    have eT : txW w (A.1 (7 + w)) (A.1 (10 + w)) (nI (if A.1 (10 + w) < 12 then 0 else 1)) (nI (hflag 0)) 0 0 = [] ++ decL w ++ [103] ++ decL (A.1 (7 + w)) ++ [119] ++ decL (A.1 (10 + w)) ++ J ++ [58] ++ [45] := by
      unfold txW
      rw [if_pos (show nI (hflag 0) = 0 from rfl), hJ, List.nil_append]
    refine ⟨A.1 (7 + w), A.1 (10 + w), 0, 0, _, _, ⟨cl_reqW hw, g1.1.gear hw, by omega, g1.1.wear hw, by omega, est, ehd, fun h => absurd rfl h, by omega, by omega⟩, u2 t8 0 13 (nI 0), ?_, pu_u2e ⟨rfl, rfl⟩, ?_⟩
    · rw [eT]
      exact hmain t8 [45] q1 m2
    · rw [eT]
      exact h.text m2 (by simp only [List.length_append, List.length_cons, List.length_nil]; omega) (tOk_app hpre (tOk_1 (by omega))) (fun k x y => by rw [m3 k x y, f7 k x y]) fun j x => by rw [m4 j x, f70 j x]
  · have he := g5.1.at hp
    have e1f : hflag (A.1 (13 + w)) = 1 := if_neg (by omega)
    rw [e1f] at ehd
    rw [hh] at r13
    have hsl := (hn.2.2.2 w hw).2 _ (getD_mem hp) hh
    have ex : nI ((A.2.getD p z4).1 + 1) - nI 1 = nI (A.2.getD p z4).1 := nI_pred _
    have l5 := decL_le (show (A.2.getD p z4).1 < 10000 by omega)
    have l6 := decL_le2 (show (A.2.getD p z4).2.2.2 < 100 by omega)
    obtain ⟨t8, m1, m2, m3, m4⟩ := rf_num (m := m) (v := (A.2.getD p z4).1) hF k2 (by simp only [List.length_append, List.length_cons, List.length_nil]; omega) (by omega)
    obtain ⟨t9, n1, n2, n3, n4⟩ := rf_writes (c := 120) m2 (by simp only [List.length_append, List.length_cons, List.length_nil]; omega) (by omega)
    have f9 : ∀ k, k ≠ 0 → k ≠ 7 → t9 k = s k := fun k x y => by rw [n3 k x y, m3 k x y, f7 k x y]
    have f90 : ∀ j, j ≠ 12 → t9 0 j = s 0 j := fun j x => by rw [n4 j x, m4 j x, f70 j x]
    have r13' : t9 1 (13 + w) = nI ((A.2.getD p z4).1 + 1) := by rw [f9 1 (by omega) (by omega), g3.1 _ (by omega) (by omega) (by omega), hh]
    have hN9 : NM t9 1 A.2 := g3.2.other (f9 1 (by omega) (by omega))
    have epl := rf_place_at (m := m) hF hN9 g5.1 hB hp
    have eam := (hN9.2 p hp).2.2.2
    obtain ⟨t10, o1, o2, o3, o4⟩ := rf_num (m := m) (v := (A.2.getD p z4).2.2.2) hF n2 (by simp only [List.length_append, List.length_cons, List.length_nil]; omega) (by omega)
    have q1 : fX12_renderWheel_B81 m (nI w) t6 = fX12_renderWheel_B156 m t10 := by
      unfold fX12_renderWheel_B81
      simp (disch := omega) only [pu_OB, pu_LET, pu_OX0, pu_BND, pu_NZ, pu_BL, pu_m1, nI_add, pk_sub, pk_mul, pk_div, nI_clamp, pu_eq, pu_ne, pu_le_t, pu_le_f, pu_lt_t, pu_lt_f, pu_nm, pu_mm, pu_u2e, pu_u2n, ↓reduceIte, li0, li1, li2, li3, li4, li5, li6, li7, li8, li9, li10, li11, li12, li13, li14, li15, li16, li17, li18, li19, li20, li21, li22, li23, li24, li25, li26, li27, li28, li29, li30, li31, li32, li33, li34, li35, li36, li37, li38, li39, li40, li41, li42, li43, li44, li45, li46, li47, li48, li49, li50, li51, li52, li53, li54, li55, li56, li57, li58, li59, li60, li64, li72, li87, li97, li98, li99, li100, li101, li102, li103, li104, li105, li108, li109, li110, li111, li112, li114, li115, li116, li117, li119, li120, li124, li126, li132, li139, li140, li148, li156, li1000, li1092, li1248, k1, r13, ex, m1, n1, r13', epl, eam, o1]
    have eT : txW w (A.1 (7 + w)) (A.1 (10 + w)) (nI (if A.1 (10 + w) < 12 then 0 else 1)) (nI 1) (A.2.getD p z4).1 (A.2.getD p z4).2.2.2 = [] ++ decL w ++ [103] ++ decL (A.1 (7 + w)) ++ [119] ++ decL (A.1 (10 + w)) ++ J ++ [58] ++ (decL (A.2.getD p z4).1 ++ [120] ++ decL (A.2.getD p z4).2.2.2) := by
      unfold txW
      rw [if_neg (show ¬ nI 1 = 0 by decide +kernel), hJ, List.nil_append]
    have o2 : OT t10 ([] ++ decL w ++ [103] ++ decL (A.1 (7 + w)) ++ [119] ++ decL (A.1 (10 + w)) ++ J ++ [58] ++ (decL (A.2.getD p z4).1 ++ [120] ++ decL (A.2.getD p z4).2.2.2)) := by
      simp only [List.append_assoc] at o2 ⊢
      exact o2
    refine ⟨A.1 (7 + w), A.1 (10 + w), (A.2.getD p z4).1, (A.2.getD p z4).2.2.2, _, _, ⟨cl_reqW hw, g1.1.gear hw, by omega, g1.1.wear hw, by omega, est, ehd, fun _ => ⟨hsl.1, hsl.2.2.2⟩, by omega, by omega⟩, u2 t10 0 13 (nI 0), ?_, pu_u2e ⟨rfl, rfl⟩, ?_⟩
    · rw [eT]
      exact hmain t10 _ q1 o2
    · rw [eT]
      exact h.text o2 (by simp only [List.length_append, List.length_cons, List.length_nil]; omega) (tOk_app hpre (tOk_app (tOk_app (decL_ok _) (tOk_1 (by omega))) (decL_ok _))) (fun k x y => by rw [o3 k x y, f9 k x y]) fun j x => by rw [o4 j x, f90 j x]
theorem rf_rs_S (r : Nat) (x1 : Int32) (s : St) : fX12_renderSacks_L7 m (r + 1) x1 s = fX12_renderSacks_L7b m (fX12_renderSacks_L7 m r) x1 s := rfl
/-- one grade's sacks -/
theorem rf_sack {A : AM} {g r : Nat} {t : St} (hF : 2000 ≤ m) (hS : SM t 1 A.1) (hg : g < 4) (hf : A.1 (28 + g) ≤ 139) (ho : OT t T) (hl : T.length ≤ 40) : ∃ t', fX12_renderSacks_B22 m (fX12_renderSacks_L7 m r) (nI g) t = fX12_renderSacks_L7 m r (nI (g + 1)) t' ∧ OT t' (T ++ decL (A.1 (28 + g) / 20) ++ [43] ++ decL (A.1 (28 + g) % 20)) ∧ (∀ k, k ≠ 0 → k ≠ 7 → t' k = t k) ∧ ∀ j, j ≠ 12 → t' 0 j = t 0 j := by
  have l1 := decL_le2 (show A.1 (28 + g) / 20 < 100 by omega)
  have e1 : t 1 (28 + g) = nI (A.1 (28 + g)) := hS _ (by omega) (by omega) (by omega)
  obtain ⟨t1, a1, a2, a3, a4⟩ := rf_num (m := m) (v := A.1 (28 + g) / 20) hF ho (by omega) (by omega)
  obtain ⟨t2, b1, b2, b3, b4⟩ := rf_writes (c := 43) a2 (by simp only [List.length_append, List.length_cons, List.length_nil]; omega) (by omega)
  have e2 : t2 1 (28 + g) = nI (A.1 (28 + g)) := by rw [b3 1 (by omega) (by omega), a3 1 (by omega) (by omega), e1]
  obtain ⟨t3, c1, c2, c3, c4⟩ := rf_num (m := m) (v := A.1 (28 + g) % 20) hF b2 (by simp only [List.length_append, List.length_cons, List.length_nil]; omega) (by omega)
  have e3 : nI (A.1 (28 + g)) / nI 20 = nI (A.1 (28 + g) / 20) := pk_div (by omega) (by omega) (by omega)
  have e4 : nI (A.1 (28 + g)) - nI (A.1 (28 + g) / 20 * 20) = nI (A.1 (28 + g) % 20) := by
    rw [pk_sub (by omega)]
    exact congrArg nI (by omega)
  refine ⟨t3, ?_, c2, fun k x y => by rw [c3 k x y, b3 k x y, a3 k x y], fun j x => by rw [c4 j x, b4 j x, a4 j x]⟩
  unfold fX12_renderSacks_B22
  simp (disch := omega) only [pu_OB, pu_LET, pu_OX0, pu_BND, pu_NZ, pu_BL, pu_m1, nI_add, pk_sub, pk_mul, pk_div, nI_clamp, pu_eq, pu_ne, pu_le_t, pu_le_f, pu_lt_t, pu_lt_f, pu_nm, pu_mm, pu_u2e, pu_u2n, ↓reduceIte, li0, li1, li2, li3, li4, li5, li6, li7, li8, li9, li10, li11, li12, li13, li14, li15, li16, li17, li18, li19, li20, li21, li22, li23, li24, li25, li26, li27, li28, li29, li30, li31, li32, li33, li34, li35, li36, li37, li38, li39, li40, li41, li42, li43, li44, li45, li46, li47, li48, li49, li50, li51, li52, li53, li54, li55, li56, li57, li58, li59, li60, li64, li72, li87, li97, li98, li99, li100, li101, li102, li103, li104, li105, li108, li109, li110, li111, li112, li114, li115, li116, li117, li119, li120, li124, li126, li132, li139, li140, li148, li156, li1000, li1092, li1248, e1, e3, a1, b1, e2, e4, c1]
theorem ca_renderSacks (hF : 2000 ≤ m) (h : GG σ s C T) : ∃ f0 o0 f1 o1 f2 o2 f3 o3, (fX9_full (0 + 7) 0 σ = some (nI f0, σ) ∧ fX9_open (0 + 7) 0 σ = some (nI o0, σ) ∧ fX9_full (0 + 7) 1 σ = some (nI f1, σ) ∧ fX9_open (0 + 7) 1 σ = some (nI o1, σ) ∧ fX9_full (0 + 7) 2 σ = some (nI f2, σ) ∧ fX9_open (0 + 7) 2 σ = some (nI o2, σ) ∧ fX9_full (0 + 7) 3 σ = some (nI f3, σ) ∧ fX9_open (0 + 7) 3 σ = some (nI o3, σ)) ∧ (f0 < 10 ∧ f1 < 10 ∧ f2 < 10 ∧ f3 < 10 ∧ o0 < 100 ∧ o1 < 100 ∧ o2 < 100 ∧ o3 < 100) ∧ ∃ t, fX12_renderSacks m s = some (nI (txS f0 o0 f1 o1 f2 o2 f3 o3).length, t) ∧ GG σ t (C + 1) (txS f0 o0 f1 o1 f2 o2 f3 o3) := by
  have h0 := h
  obtain ⟨A, H, S, B, er, fl, g1, g2, g3, g4, g5, g6, g7, g8, g9⟩ := h0
  have hf : ∀ g, g < 4 → A.1 (28 + g) ≤ 139 := fun g hg => (g5.2.2.2.2.1 g hg).1
  have b0 := hf 0 (by omega)
  have b1 := hf 1 (by omega)
  have b2 := hf 2 (by omega)
  have b3 := hf 3 (by omega)
  have c1 := fun g (hg : g < 4) => cl_full g1 hg (hf g hg)
  have c2 := fun g (hg : g < 4) => cl_open g1 hg (hf g hg)
  have hnil : OT (u2 s 0 12 (nI 0)) [] := OT.nil
  have hle : ∀ v, v < 10 → (decL v).length ≤ 1 := fun v hv => by
    rw [decL_1 hv]
    exact Nat.le_refl _
  have w0 := hle (A.1 (28 + 0) / 20) (by omega)
  have w1 := hle (A.1 (28 + 1) / 20) (by omega)
  have w2 := hle (A.1 (28 + 2) / 20) (by omega)
  have w3 := hle (A.1 (28 + 3) / 20) (by omega)
  have v0 := decL_le2 (show A.1 (28 + 0) % 20 < 100 by omega)
  have v1 := decL_le2 (show A.1 (28 + 1) % 20 < 100 by omega)
  have v2 := decL_le2 (show A.1 (28 + 2) % 20 < 100 by omega)
  have v3 := decL_le2 (show A.1 (28 + 3) % 20 < 100 by omega)
  obtain ⟨r, hr⟩ : ∃ r, m = r + 5 := ⟨m - 5, by omega⟩
  obtain ⟨t0, a1, a2, a3, a4⟩ := rf_sack (m := m) (g := 0) (r := r + 4) hF (g3.1.other (t := u2 s 0 12 (nI 0)) (pu_u2r (by omega))) (by omega) b0 hnil (by decide)
  have s0 : SM t0 1 A.1 := g3.1.other (by rw [a3 1 (by omega) (by omega), pu_u2r (by omega)])
  obtain ⟨u0, p1, p2, p3, p4⟩ := rf_writes (c := 32) a2 (by simp only [List.length_append, List.length_cons, List.length_nil]; omega) (by omega)
  obtain ⟨t1, d1, d2, d3, d4⟩ := rf_sack (m := m) (g := 1) (r := r + 3) hF (s0.other (p3 1 (by omega) (by omega))) (by omega) b1 p2 (by simp only [List.length_append, List.length_cons, List.length_nil]; omega)
  have s1 : SM t1 1 A.1 := s0.other (by rw [d3 1 (by omega) (by omega), p3 1 (by omega) (by omega)])
  obtain ⟨u1, q1, q2, q3, q4⟩ := rf_writes (c := 32) d2 (by simp only [List.length_append, List.length_cons, List.length_nil]; omega) (by omega)
  obtain ⟨t2, e1, e2, e3, e4⟩ := rf_sack (m := m) (g := 2) (r := r + 2) hF (s1.other (q3 1 (by omega) (by omega))) (by omega) b2 q2 (by simp only [List.length_append, List.length_cons, List.length_nil]; omega)
  have s2 : SM t2 1 A.1 := s1.other (by rw [e3 1 (by omega) (by omega), q3 1 (by omega) (by omega)])
  obtain ⟨u2', r1, r2, r3, r4⟩ := rf_writes (c := 32) e2 (by simp only [List.length_append, List.length_cons, List.length_nil]; omega) (by omega)
  obtain ⟨t3, f1, f2, f3, f4⟩ := rf_sack (m := m) (g := 3) (r := r + 1) hF (s2.other (r3 1 (by omega) (by omega))) (by omega) b3 r2 (by simp only [List.length_append, List.length_cons, List.length_nil]; omega)
  have eT : txS (A.1 (28 + 0) / 20) (A.1 (28 + 0) % 20) (A.1 (28 + 1) / 20) (A.1 (28 + 1) % 20) (A.1 (28 + 2) / 20) (A.1 (28 + 2) % 20) (A.1 (28 + 3) / 20) (A.1 (28 + 3) % 20) = [] ++ decL (A.1 (28 + 0) / 20) ++ [43] ++ decL (A.1 (28 + 0) % 20) ++ [32] ++ decL (A.1 (28 + 1) / 20) ++ [43] ++ decL (A.1 (28 + 1) % 20) ++ [32] ++ decL (A.1 (28 + 2) / 20) ++ [43] ++ decL (A.1 (28 + 2) % 20) ++ [32] ++ decL (A.1 (28 + 3) / 20) ++ [43] ++ decL (A.1 (28 + 3) % 20) := rfl
  have hlen := f2.1
  refine ⟨_, _, _, _, _, _, _, _, ⟨c1 0 (by omega), c2 0 (by omega), c1 1 (by omega), c2 1 (by omega), c1 2 (by omega), c2 2 (by omega), c1 3 (by omega), c2 3 (by omega)⟩, ⟨by omega, by omega, by omega, by omega, by omega, by omega, by omega, by omega⟩, u2 t3 0 13 (nI 0), ?_, ?_⟩
  · rw [eT]
    have key : fX12_renderSacks_L7 m (r + 5) (nI 0) (u2 s 0 12 (nI 0)) = some (nI ([] ++ decL (A.1 (28 + 0) / 20) ++ [43] ++ decL (A.1 (28 + 0) % 20) ++ [32] ++ decL (A.1 (28 + 1) / 20) ++ [43] ++ decL (A.1 (28 + 1) % 20) ++ [32] ++ decL (A.1 (28 + 2) / 20) ++ [43] ++ decL (A.1 (28 + 2) % 20) ++ [32] ++ decL (A.1 (28 + 3) / 20) ++ [43] ++ decL (A.1 (28 + 3) % 20)).length, u2 t3 0 13 (nI 0)) := by
      rw [rf_rs_S]
      unfold fX12_renderSacks_L7b
      simp (disch := omega) only [pu_OB, pu_LET, pu_OX0, pu_BND, pu_NZ, pu_BL, pu_m1, nI_add, pk_sub, pk_mul, pk_div, nI_clamp, pu_eq, pu_ne, pu_le_t, pu_le_f, pu_lt_t, pu_lt_f, pu_nm, pu_mm, pu_u2e, pu_u2n, ↓reduceIte, li0, li1, li2, li3, li4, li5, li6, li7, li8, li9, li10, li11, li12, li13, li14, li15, li16, li17, li18, li19, li20, li21, li22, li23, li24, li25, li26, li27, li28, li29, li30, li31, li32, li33, li34, li35, li36, li37, li38, li39, li40, li41, li42, li43, li44, li45, li46, li47, li48, li49, li50, li51, li52, li53, li54, li55, li56, li57, li58, li59, li60, li64, li72, li87, li97, li98, li99, li100, li101, li102, li103, li104, li105, li108, li109, li110, li111, li112, li114, li115, li116, li117, li119, li120, li124, li126, li132, li139, li140, li148, li156, li1000, li1092, li1248]
      rw [a1, rf_rs_S]
      unfold fX12_renderSacks_L7b
      simp (disch := omega) only [pu_OB, pu_LET, pu_OX0, pu_BND, pu_NZ, pu_BL, pu_m1, nI_add, pk_sub, pk_mul, pk_div, nI_clamp, pu_eq, pu_ne, pu_le_t, pu_le_f, pu_lt_t, pu_lt_f, pu_nm, pu_mm, pu_u2e, pu_u2n, ↓reduceIte, li0, li1, li2, li3, li4, li5, li6, li7, li8, li9, li10, li11, li12, li13, li14, li15, li16, li17, li18, li19, li20, li21, li22, li23, li24, li25, li26, li27, li28, li29, li30, li31, li32, li33, li34, li35, li36, li37, li38, li39, li40, li41, li42, li43, li44, li45, li46, li47, li48, li49, li50, li51, li52, li53, li54, li55, li56, li57, li58, li59, li60, li64, li72, li87, li97, li98, li99, li100, li101, li102, li103, li104, li105, li108, li109, li110, li111, li112, li114, li115, li116, li117, li119, li120, li124, li126, li132, li139, li140, li148, li156, li1000, li1092, li1248, p1]
      rw [d1, rf_rs_S]
      unfold fX12_renderSacks_L7b
      simp (disch := omega) only [pu_OB, pu_LET, pu_OX0, pu_BND, pu_NZ, pu_BL, pu_m1, nI_add, pk_sub, pk_mul, pk_div, nI_clamp, pu_eq, pu_ne, pu_le_t, pu_le_f, pu_lt_t, pu_lt_f, pu_nm, pu_mm, pu_u2e, pu_u2n, ↓reduceIte, li0, li1, li2, li3, li4, li5, li6, li7, li8, li9, li10, li11, li12, li13, li14, li15, li16, li17, li18, li19, li20, li21, li22, li23, li24, li25, li26, li27, li28, li29, li30, li31, li32, li33, li34, li35, li36, li37, li38, li39, li40, li41, li42, li43, li44, li45, li46, li47, li48, li49, li50, li51, li52, li53, li54, li55, li56, li57, li58, li59, li60, li64, li72, li87, li97, li98, li99, li100, li101, li102, li103, li104, li105, li108, li109, li110, li111, li112, li114, li115, li116, li117, li119, li120, li124, li126, li132, li139, li140, li148, li156, li1000, li1092, li1248, q1]
      rw [e1, rf_rs_S]
      unfold fX12_renderSacks_L7b
      simp (disch := omega) only [pu_OB, pu_LET, pu_OX0, pu_BND, pu_NZ, pu_BL, pu_m1, nI_add, pk_sub, pk_mul, pk_div, nI_clamp, pu_eq, pu_ne, pu_le_t, pu_le_f, pu_lt_t, pu_lt_f, pu_nm, pu_mm, pu_u2e, pu_u2n, ↓reduceIte, li0, li1, li2, li3, li4, li5, li6, li7, li8, li9, li10, li11, li12, li13, li14, li15, li16, li17, li18, li19, li20, li21, li22, li23, li24, li25, li26, li27, li28, li29, li30, li31, li32, li33, li34, li35, li36, li37, li38, li39, li40, li41, li42, li43, li44, li45, li46, li47, li48, li49, li50, li51, li52, li53, li54, li55, li56, li57, li58, li59, li60, li64, li72, li87, li97, li98, li99, li100, li101, li102, li103, li104, li105, li108, li109, li110, li111, li112, li114, li115, li116, li117, li119, li120, li124, li126, li132, li139, li140, li148, li156, li1000, li1092, li1248, r1]
      rw [f1, rf_rs_S]
      unfold fX12_renderSacks_L7b
      rw [hlen]
      simp (disch := omega) only [pu_OB, pu_LET, pu_OX0, pu_BND, pu_NZ, pu_BL, pu_m1, nI_add, pk_sub, pk_mul, pk_div, nI_clamp, pu_eq, pu_ne, pu_le_t, pu_le_f, pu_lt_t, pu_lt_f, pu_nm, pu_mm, pu_u2e, pu_u2n, ↓reduceIte, li0, li1, li2, li3, li4, li5, li6, li7, li8, li9, li10, li11, li12, li13, li14, li15, li16, li17, li18, li19, li20, li21, li22, li23, li24, li25, li26, li27, li28, li29, li30, li31, li32, li33, li34, li35, li36, li37, li38, li39, li40, li41, li42, li43, li44, li45, li46, li47, li48, li49, li50, li51, li52, li53, li54, li55, li56, li57, li58, li59, li60, li64, li72, li87, li97, li98, li99, li100, li101, li102, li103, li104, li105, li108, li109, li110, li111, li112, li114, li115, li116, li117, li119, li120, li124, li126, li132, li139, li140, li148, li156, li1000, li1092, li1248, rf_done]
    unfold fX12_renderSacks
    rw [pu_LET]
    rw [← hr] at key
    exact key
  · rw [eT]
    refine h.text f2 (by simp only [List.length_append, List.length_cons, List.length_nil]; omega) ?_ (fun k x y => by rw [f3 k x y, r3 k x y, e3 k x y, q3 k x y, d3 k x y, p3 k x y, a3 k x y, pu_u2r x]) fun j x => by rw [f4 j x, r4 j x, e4 j x, q4 j x, d4 j x, p4 j x, a4 j x, pu_u2n (by omega)]
    exact tOk_app (tOk_app (tOk_app (tOk_app (tOk_app (tOk_app (tOk_app (tOk_app (tOk_app (tOk_app (tOk_app (tOk_app (tOk_app (tOk_app (decL_ok _) (tOk_1 (by omega))) (decL_ok _)) (tOk_1 (by omega))) (decL_ok _)) (tOk_1 (by omega))) (decL_ok _)) (tOk_1 (by omega))) (decL_ok _)) (tOk_1 (by omega))) (decL_ok _)) (tOk_1 (by omega))) (decL_ok _)) (tOk_1 (by omega))) (decL_ok _)
end PR
