-- ===== a script read: the reference's command =====
section RS
variable {s : St} {m : Nat} {B : List Nat}
theorem rf_parse {k p : Nat} (hF : 2000 ≤ m) (hk : k < 50) (hR : RP s B (true, p)) (hB : bOk B) (hp : p < 500) : ∃ t, fX12_parsesCommand m (nI (4 * k)) s = some (nI 0, t) ∧ RP t B (cmdS B p).1 ∧ Fr s t (4 * k) (4 * k + 4) ∧ ((cmdS B p).1.1 = true → t 8 (4 * k) = nI (lt (wdS B p).1) ∧ ∀ a, a < na (wdS B p).1 → t 8 (4 * k + 1 + a) = nI (aN (cmdS B p).2 a)) := by
  have hh : fX12_here s = some (hI B p, s) := rf_here hR hB (by show p < 1000; omega)
  have h14 : s 0 14 = nI p := hR.2.2
  by_cases hcb99 : cb B p = 99
  · have hcb := hcb99
    have e0 := hI_e hcb (by omega)
    rw [e0] at hh
    have R0 : RP (u2 (u2 s 0 14 (nI (p + 1))) 8 (4 * k) (nI 99)) B (true, p + 1) := hR.go.w8
    obtain ⟨t1, a1, b1, c1⟩ := rf_needsThree (a := 108) (b := 101) (c := 97) R0 hB (by have := nds_le (B := B) (w := [108, 101, 97]) (x := (true, p + 1)); simp only [List.length_cons, List.length_nil] at this; show p + 1 < 800; omega) (by omega) (by omega) (by omega)
    obtain ⟨t2, a2, b2, c2⟩ := rf_needs (c := 114) b1 hB (by have := nds_le (B := B) (w := [108, 101, 97]) (x := (true, p + 1)); simp only [List.length_cons, List.length_nil] at this; show (nds B [108, 101, 97] (true, p + 1)).2 < 900; omega) (by omega)
    have hX := nds_le (B := B) (w := [108, 101, 97, 114]) (x := (true, p + 1))
    simp only [List.length_cons, List.length_nil] at hX
    change RP t2 B (nds B [108, 101, 97, 114] (true, p + 1)) at b2
    have hw : wdS B p = (4, nds B [108, 101, 97, 114] (true, p + 1)) := by
      unfold wdS
      rw [hcb]
      rfl
    have hcm : cmdS B p = argS B 4 (nds B [108, 101, 97, 114] (true, p + 1)) := by
      unfold cmdS
      rw [hw]
    rw [hcm, hw]
    generalize nds B [108, 101, 97, 114] (true, p + 1) = X at *
    obtain ⟨t3, a3, b3, c3⟩ := rf_digits (m := m) (n := 1) hF (by omega) b2 hB (by omega)
    have l3 := dgS_pos (B := B) (n := 1) (x := X)
    rw [show argS B 4 X = ((dgS B 1 X).1, (dgS B 1 X).2, 0, 0) from rfl]
    refine ⟨(u2 t3 8 (4 * k + 1) (nI (dgS B 1 X).2)), ?_, (b3.w8 (j := 4 * k + 1) (v := nI (dgS B 1 X).2)), fun i j y z w => ?_, fun _ => ⟨?_, fun a ha => ?_⟩⟩
    · unfold fX12_parsesCommand
      simp (disch := omega) only [pu_OB, pu_LET, pu_OX0, pu_BND, pu_NZ, pu_BL, pu_m1, nI_add, pk_sub, pk_mul, pk_div, nI_clamp, pu_eq, pu_ne, pu_le_t, pu_le_f, pu_lt_t, pu_lt_f, pu_nm, pu_mm, pu_u2e, pu_u2n, ↓reduceIte, li0, li1, li2, li3, li4, li5, li6, li7, li8, li9, li10, li11, li12, li13, li14, li15, li16, li17, li18, li19, li20, li21, li22, li23, li24, li25, li26, li27, li28, li29, li30, li31, li32, li33, li34, li35, li36, li37, li38, li39, li40, li41, li42, li43, li44, li45, li46, li47, li48, li49, li50, li51, li52, li53, li54, li55, li56, li57, li58, li59, li60, li64, li72, li87, li97, li98, li99, li100, li101, li102, li103, li104, li105, li108, li109, li110, li111, li112, li114, li115, li116, li117, li119, li120, li124, li126, li132, li139, li140, li148, li156, li1000, li1092, li1248, hh, h14, a1, a2, a3]
    · rw [pu_u2n (by omega), c3 i j y z (by omega), c2 i j y z (by omega), c1 i j y z (by omega), pu_u2n (by omega), pu_u2n (by omega)]
    · rw [pu_u2n (by omega), c3 8 (4 * k) (by omega) (by omega) (by omega), c2 8 (4 * k) (by omega) (by omega) (by omega), c1 8 (4 * k) (by omega) (by omega) (by omega), pu_u2e ⟨rfl, rfl⟩]
      rfl
    · have ha : a < 1 := ha
      obtain rfl : a = 0 := by omega
      show (u2 t3 8 (4 * k + 1) (nI (dgS B 1 X).2)) 8 (4 * k + 1) = _
      rw [pu_u2e ⟨rfl, rfl⟩]
      rfl
  by_cases hcb100 : cb B p = 100
  · have hcb := hcb100
    have e0 := hI_e hcb (by omega)
    rw [e0] at hh
    have R0 : RP (u2 (u2 s 0 14 (nI (p + 1))) 8 (4 * k) (nI 100)) B (true, p + 1) := hR.go.w8
    obtain ⟨t1, a1, b1, c1⟩ := rf_needsThree (a := 114) (b := 111) (c := 112) R0 hB (by have := nds_le (B := B) (w := [114, 111, 112]) (x := (true, p + 1)); simp only [List.length_cons, List.length_nil] at this; show p + 1 < 800; omega) (by omega) (by omega) (by omega)
    have hX := nds_le (B := B) (w := [114, 111, 112]) (x := (true, p + 1))
    simp only [List.length_cons, List.length_nil] at hX
    change RP t1 B (nds B [114, 111, 112] (true, p + 1)) at b1
    have hw : wdS B p = (1, nds B [114, 111, 112] (true, p + 1)) := by
      unfold wdS
      rw [hcb]
      rfl
    have hcm : cmdS B p = argS B 1 (nds B [114, 111, 112] (true, p + 1)) := by
      unfold cmdS
      rw [hw]
    rw [hcm, hw]
    generalize nds B [114, 111, 112] (true, p + 1) = X at *
    obtain ⟨t2, a2, b2, c2⟩ := rf_digits (m := m) (n := 2) hF (by omega) b1 hB (by omega)
    have l2 := dgS_pos (B := B) (n := 2) (x := X)
    rw [show argS B 1 X = ((dgS B 2 X).1, (dgS B 2 X).2, 0, 0) from rfl]
    refine ⟨(u2 t2 8 (4 * k + 1) (nI (dgS B 2 X).2)), ?_, (b2.w8 (j := 4 * k + 1) (v := nI (dgS B 2 X).2)), fun i j y z w => ?_, fun _ => ⟨?_, fun a ha => ?_⟩⟩
    · unfold fX12_parsesCommand
      simp (disch := omega) only [pu_OB, pu_LET, pu_OX0, pu_BND, pu_NZ, pu_BL, pu_m1, nI_add, pk_sub, pk_mul, pk_div, nI_clamp, pu_eq, pu_ne, pu_le_t, pu_le_f, pu_lt_t, pu_lt_f, pu_nm, pu_mm, pu_u2e, pu_u2n, ↓reduceIte, li0, li1, li2, li3, li4, li5, li6, li7, li8, li9, li10, li11, li12, li13, li14, li15, li16, li17, li18, li19, li20, li21, li22, li23, li24, li25, li26, li27, li28, li29, li30, li31, li32, li33, li34, li35, li36, li37, li38, li39, li40, li41, li42, li43, li44, li45, li46, li47, li48, li49, li50, li51, li52, li53, li54, li55, li56, li57, li58, li59, li60, li64, li72, li87, li97, li98, li99, li100, li101, li102, li103, li104, li105, li108, li109, li110, li111, li112, li114, li115, li116, li117, li119, li120, li124, li126, li132, li139, li140, li148, li156, li1000, li1092, li1248, hh, h14, a1, a2]
    · rw [pu_u2n (by omega), c2 i j y z (by omega), c1 i j y z (by omega), pu_u2n (by omega), pu_u2n (by omega)]
    · rw [pu_u2n (by omega), c2 8 (4 * k) (by omega) (by omega) (by omega), c1 8 (4 * k) (by omega) (by omega) (by omega), pu_u2e ⟨rfl, rfl⟩]
      rfl
    · have ha : a < 1 := ha
      obtain rfl : a = 0 := by omega
      show (u2 t2 8 (4 * k + 1) (nI (dgS B 2 X).2)) 8 (4 * k + 1) = _
      rw [pu_u2e ⟨rfl, rfl⟩]
      rfl
  by_cases hcb103 : cb B p = 103
  · have hcb := hcb103
    have e0 := hI_e hcb (by omega)
    rw [e0] at hh
    have R0 : RP (u2 (u2 s 0 14 (nI (p + 1))) 8 (4 * k) (nI 103)) B (true, p + 1) := hR.go.w8
    obtain ⟨t1, a1, b1, c1⟩ := rf_needsThree (a := 101) (b := 97) (c := 114) R0 hB (by have := nds_le (B := B) (w := [101, 97, 114]) (x := (true, p + 1)); simp only [List.length_cons, List.length_nil] at this; show p + 1 < 800; omega) (by omega) (by omega) (by omega)
    have hX := nds_le (B := B) (w := [101, 97, 114]) (x := (true, p + 1))
    simp only [List.length_cons, List.length_nil] at hX
    change RP t1 B (nds B [101, 97, 114] (true, p + 1)) at b1
    have hw : wdS B p = (2, nds B [101, 97, 114] (true, p + 1)) := by
      unfold wdS
      rw [hcb]
      rfl
    have hcm : cmdS B p = argS B 2 (nds B [101, 97, 114] (true, p + 1)) := by
      unfold cmdS
      rw [hw]
    rw [hcm, hw]
    generalize nds B [101, 97, 114] (true, p + 1) = X at *
    obtain ⟨t2, a2, b2, c2⟩ := rf_digits (m := m) (n := 1) hF (by omega) b1 hB (by omega)
    have l2 := dgS_pos (B := B) (n := 1) (x := X)
    obtain ⟨t3, a3, b3, c3⟩ := rf_digits (m := m) (n := 1) hF (by omega) (b2.w8 (j := 4 * k + 1) (v := nI (dgS B 1 X).2)) hB (by omega)
    have l3 := dgS_pos (B := B) (n := 1) (x := (dgS B 1 X).1)
    rw [show argS B 2 X = ((dgS B 1 (dgS B 1 X).1).1, (dgS B 1 X).2, (dgS B 1 (dgS B 1 X).1).2, 0) from rfl]
    refine ⟨(u2 t3 8 (4 * k + 2) (nI (dgS B 1 (dgS B 1 X).1).2)), ?_, (b3.w8 (j := 4 * k + 2) (v := nI (dgS B 1 (dgS B 1 X).1).2)), fun i j y z w => ?_, fun _ => ⟨?_, fun a ha => ?_⟩⟩
    · unfold fX12_parsesCommand
      simp (disch := omega) only [pu_OB, pu_LET, pu_OX0, pu_BND, pu_NZ, pu_BL, pu_m1, nI_add, pk_sub, pk_mul, pk_div, nI_clamp, pu_eq, pu_ne, pu_le_t, pu_le_f, pu_lt_t, pu_lt_f, pu_nm, pu_mm, pu_u2e, pu_u2n, ↓reduceIte, li0, li1, li2, li3, li4, li5, li6, li7, li8, li9, li10, li11, li12, li13, li14, li15, li16, li17, li18, li19, li20, li21, li22, li23, li24, li25, li26, li27, li28, li29, li30, li31, li32, li33, li34, li35, li36, li37, li38, li39, li40, li41, li42, li43, li44, li45, li46, li47, li48, li49, li50, li51, li52, li53, li54, li55, li56, li57, li58, li59, li60, li64, li72, li87, li97, li98, li99, li100, li101, li102, li103, li104, li105, li108, li109, li110, li111, li112, li114, li115, li116, li117, li119, li120, li124, li126, li132, li139, li140, li148, li156, li1000, li1092, li1248, hh, h14, a1, a2, a3]
    · rw [pu_u2n (by omega), c3 i j y z (by omega), pu_u2n (by omega), c2 i j y z (by omega), c1 i j y z (by omega), pu_u2n (by omega), pu_u2n (by omega)]
    · rw [pu_u2n (by omega), c3 8 (4 * k) (by omega) (by omega) (by omega), pu_u2n (by omega), c2 8 (4 * k) (by omega) (by omega) (by omega), c1 8 (4 * k) (by omega) (by omega) (by omega), pu_u2e ⟨rfl, rfl⟩]
      rfl
    · have ha : a < 2 := ha
      rcases (show a = 0 ∨ a = 1 by omega) with rfl | rfl
      · show (u2 t3 8 (4 * k + 2) (nI (dgS B 1 (dgS B 1 X).1).2)) 8 (4 * k + 1) = _
        rw [pu_u2n (by omega), c3 8 (4 * k + 1) (by omega) (by omega) (by omega), pu_u2e ⟨rfl, rfl⟩]
        rfl
      · show (u2 t3 8 (4 * k + 2) (nI (dgS B 1 (dgS B 1 X).1).2)) 8 (4 * k + 2) = _
        rw [pu_u2e ⟨rfl, rfl⟩]
        rfl
  by_cases hcb109 : cb B p = 109
  · have hcb := hcb109
    have e0 := hI_e hcb (by omega)
    rw [e0] at hh
    have R0 : RP (u2 (u2 s 0 14 (nI (p + 1))) 8 (4 * k) (nI 109)) B (true, p + 1) := hR.go.w8
    obtain ⟨t1, a1, b1, c1⟩ := rf_needsThree (a := 101) (b := 115) (c := 104) R0 hB (by have := nds_le (B := B) (w := [101, 115, 104]) (x := (true, p + 1)); simp only [List.length_cons, List.length_nil] at this; show p + 1 < 800; omega) (by omega) (by omega) (by omega)
    have hX := nds_le (B := B) (w := [101, 115, 104]) (x := (true, p + 1))
    simp only [List.length_cons, List.length_nil] at hX
    change RP t1 B (nds B [101, 115, 104] (true, p + 1)) at b1
    have hw : wdS B p = (3, nds B [101, 115, 104] (true, p + 1)) := by
      unfold wdS
      rw [hcb]
      rfl
    have hcm : cmdS B p = argS B 3 (nds B [101, 115, 104] (true, p + 1)) := by
      unfold cmdS
      rw [hw]
    rw [hcm, hw]
    generalize nds B [101, 115, 104] (true, p + 1) = X at *
    obtain ⟨t2, a2, b2, c2⟩ := rf_digits (m := m) (n := 1) hF (by omega) b1 hB (by omega)
    have l2 := dgS_pos (B := B) (n := 1) (x := X)
    obtain ⟨t3, a3, b3, c3⟩ := rf_digits (m := m) (n := 1) hF (by omega) (b2.w8 (j := 4 * k + 1) (v := nI (dgS B 1 X).2)) hB (by omega)
    have l3 := dgS_pos (B := B) (n := 1) (x := (dgS B 1 X).1)
    rw [show argS B 3 X = ((dgS B 1 (dgS B 1 X).1).1, (dgS B 1 X).2, (dgS B 1 (dgS B 1 X).1).2, 0) from rfl]
    refine ⟨(u2 t3 8 (4 * k + 2) (nI (dgS B 1 (dgS B 1 X).1).2)), ?_, (b3.w8 (j := 4 * k + 2) (v := nI (dgS B 1 (dgS B 1 X).1).2)), fun i j y z w => ?_, fun _ => ⟨?_, fun a ha => ?_⟩⟩
    · unfold fX12_parsesCommand
      simp (disch := omega) only [pu_OB, pu_LET, pu_OX0, pu_BND, pu_NZ, pu_BL, pu_m1, nI_add, pk_sub, pk_mul, pk_div, nI_clamp, pu_eq, pu_ne, pu_le_t, pu_le_f, pu_lt_t, pu_lt_f, pu_nm, pu_mm, pu_u2e, pu_u2n, ↓reduceIte, li0, li1, li2, li3, li4, li5, li6, li7, li8, li9, li10, li11, li12, li13, li14, li15, li16, li17, li18, li19, li20, li21, li22, li23, li24, li25, li26, li27, li28, li29, li30, li31, li32, li33, li34, li35, li36, li37, li38, li39, li40, li41, li42, li43, li44, li45, li46, li47, li48, li49, li50, li51, li52, li53, li54, li55, li56, li57, li58, li59, li60, li64, li72, li87, li97, li98, li99, li100, li101, li102, li103, li104, li105, li108, li109, li110, li111, li112, li114, li115, li116, li117, li119, li120, li124, li126, li132, li139, li140, li148, li156, li1000, li1092, li1248, hh, h14, a1, a2, a3]
    · rw [pu_u2n (by omega), c3 i j y z (by omega), pu_u2n (by omega), c2 i j y z (by omega), c1 i j y z (by omega), pu_u2n (by omega), pu_u2n (by omega)]
    · rw [pu_u2n (by omega), c3 8 (4 * k) (by omega) (by omega) (by omega), pu_u2n (by omega), c2 8 (4 * k) (by omega) (by omega) (by omega), c1 8 (4 * k) (by omega) (by omega) (by omega), pu_u2e ⟨rfl, rfl⟩]
      rfl
    · have ha : a < 2 := ha
      rcases (show a = 0 ∨ a = 1 by omega) with rfl | rfl
      · show (u2 t3 8 (4 * k + 2) (nI (dgS B 1 (dgS B 1 X).1).2)) 8 (4 * k + 1) = _
        rw [pu_u2n (by omega), c3 8 (4 * k + 1) (by omega) (by omega) (by omega), pu_u2e ⟨rfl, rfl⟩]
        rfl
      · show (u2 t3 8 (4 * k + 2) (nI (dgS B 1 (dgS B 1 X).1).2)) 8 (4 * k + 2) = _
        rw [pu_u2e ⟨rfl, rfl⟩]
        rfl
  by_cases hcb110 : cb B p = 110
  · have hcb := hcb110
    have e0 := hI_e hcb (by omega)
    rw [e0] at hh
    have R0 : RP (u2 (u2 s 0 14 (nI (p + 1))) 8 (4 * k) (nI 110)) B (true, p + 1) := hR.go.w8
    obtain ⟨t1, a1, b1, c1⟩ := rf_needsThree (a := 111) (b := 105) (c := 115) R0 hB (by have := nds_le (B := B) (w := [111, 105, 115]) (x := (true, p + 1)); simp only [List.length_cons, List.length_nil] at this; show p + 1 < 800; omega) (by omega) (by omega) (by omega)
    obtain ⟨t2, a2, b2, c2⟩ := rf_needs (c := 101) b1 hB (by have := nds_le (B := B) (w := [111, 105, 115]) (x := (true, p + 1)); simp only [List.length_cons, List.length_nil] at this; show (nds B [111, 105, 115] (true, p + 1)).2 < 900; omega) (by omega)
    have hX := nds_le (B := B) (w := [111, 105, 115, 101]) (x := (true, p + 1))
    simp only [List.length_cons, List.length_nil] at hX
    change RP t2 B (nds B [111, 105, 115, 101] (true, p + 1)) at b2
    have hw : wdS B p = (0, nds B [111, 105, 115, 101] (true, p + 1)) := by
      unfold wdS
      rw [hcb]
      rfl
    have hcm : cmdS B p = argS B 0 (nds B [111, 105, 115, 101] (true, p + 1)) := by
      unfold cmdS
      rw [hw]
    rw [hcm, hw]
    generalize nds B [111, 105, 115, 101] (true, p + 1) = X at *
    obtain ⟨t3, a3, b3, c3⟩ := rf_digits (m := m) (n := 1) hF (by omega) b2 hB (by omega)
    have l3 := dgS_pos (B := B) (n := 1) (x := X)
    obtain ⟨t4, a4, b4, c4⟩ := rf_digits (m := m) (n := 1) hF (by omega) (b3.w8 (j := 4 * k + 1) (v := nI (dgS B 1 X).2)) hB (by omega)
    have l4 := dgS_pos (B := B) (n := 1) (x := (dgS B 1 X).1)
    obtain ⟨t5, a5, b5, c5⟩ := rf_digits (m := m) (n := 2) hF (by omega) (b4.w8 (j := 4 * k + 2) (v := nI (dgS B 1 (dgS B 1 X).1).2)) hB (by omega)
    have l5 := dgS_pos (B := B) (n := 2) (x := (dgS B 1 (dgS B 1 X).1).1)
    rw [show argS B 0 X = ((dgS B 2 (dgS B 1 (dgS B 1 X).1).1).1, (dgS B 1 X).2, (dgS B 1 (dgS B 1 X).1).2, (dgS B 2 (dgS B 1 (dgS B 1 X).1).1).2) from rfl]
    refine ⟨(u2 t5 8 (4 * k + 3) (nI (dgS B 2 (dgS B 1 (dgS B 1 X).1).1).2)), ?_, (b5.w8 (j := 4 * k + 3) (v := nI (dgS B 2 (dgS B 1 (dgS B 1 X).1).1).2)), fun i j y z w => ?_, fun _ => ⟨?_, fun a ha => ?_⟩⟩
    · unfold fX12_parsesCommand
      simp (disch := omega) only [pu_OB, pu_LET, pu_OX0, pu_BND, pu_NZ, pu_BL, pu_m1, nI_add, pk_sub, pk_mul, pk_div, nI_clamp, pu_eq, pu_ne, pu_le_t, pu_le_f, pu_lt_t, pu_lt_f, pu_nm, pu_mm, pu_u2e, pu_u2n, ↓reduceIte, li0, li1, li2, li3, li4, li5, li6, li7, li8, li9, li10, li11, li12, li13, li14, li15, li16, li17, li18, li19, li20, li21, li22, li23, li24, li25, li26, li27, li28, li29, li30, li31, li32, li33, li34, li35, li36, li37, li38, li39, li40, li41, li42, li43, li44, li45, li46, li47, li48, li49, li50, li51, li52, li53, li54, li55, li56, li57, li58, li59, li60, li64, li72, li87, li97, li98, li99, li100, li101, li102, li103, li104, li105, li108, li109, li110, li111, li112, li114, li115, li116, li117, li119, li120, li124, li126, li132, li139, li140, li148, li156, li1000, li1092, li1248, hh, h14, a1, a2, a3, a4, a5]
    · rw [pu_u2n (by omega), c5 i j y z (by omega), pu_u2n (by omega), c4 i j y z (by omega), pu_u2n (by omega), c3 i j y z (by omega), c2 i j y z (by omega), c1 i j y z (by omega), pu_u2n (by omega), pu_u2n (by omega)]
    · rw [pu_u2n (by omega), c5 8 (4 * k) (by omega) (by omega) (by omega), pu_u2n (by omega), c4 8 (4 * k) (by omega) (by omega) (by omega), pu_u2n (by omega), c3 8 (4 * k) (by omega) (by omega) (by omega), c2 8 (4 * k) (by omega) (by omega) (by omega), c1 8 (4 * k) (by omega) (by omega) (by omega), pu_u2e ⟨rfl, rfl⟩]
      rfl
    · have ha : a < 3 := ha
      rcases (show a = 0 ∨ a = 1 ∨ a = 2 by omega) with rfl | rfl | rfl
      · show (u2 t5 8 (4 * k + 3) (nI (dgS B 2 (dgS B 1 (dgS B 1 X).1).1).2)) 8 (4 * k + 1) = _
        rw [pu_u2n (by omega), c5 8 (4 * k + 1) (by omega) (by omega) (by omega), pu_u2n (by omega), c4 8 (4 * k + 1) (by omega) (by omega) (by omega), pu_u2e ⟨rfl, rfl⟩]
        rfl
      · show (u2 t5 8 (4 * k + 3) (nI (dgS B 2 (dgS B 1 (dgS B 1 X).1).1).2)) 8 (4 * k + 2) = _
        rw [pu_u2n (by omega), c5 8 (4 * k + 2) (by omega) (by omega) (by omega), pu_u2e ⟨rfl, rfl⟩]
        rfl
      · show (u2 t5 8 (4 * k + 3) (nI (dgS B 2 (dgS B 1 (dgS B 1 X).1).1).2)) 8 (4 * k + 3) = _
        rw [pu_u2e ⟨rfl, rfl⟩]
        rfl
  by_cases hcb114 : cb B p = 114
  · have hcb := hcb114
    have e0 := hI_e hcb (by omega)
    rw [e0] at hh
    have R0 : RP (u2 (u2 s 0 14 (nI (p + 1))) 8 (4 * k) (nI 114)) B (true, p + 1) := hR.go.w8
    obtain ⟨t1, a1, b1, c1⟩ := rf_needsThree (a := 101) (b := 108) (c := 101) R0 hB (by have := nds_le (B := B) (w := [101, 108, 101]) (x := (true, p + 1)); simp only [List.length_cons, List.length_nil] at this; show p + 1 < 800; omega) (by omega) (by omega) (by omega)
    obtain ⟨t2, a2, b2, c2⟩ := rf_needsThree (a := 97) (b := 115) (c := 101) b1 hB (by have := nds_le (B := B) (w := [101, 108, 101]) (x := (true, p + 1)); simp only [List.length_cons, List.length_nil] at this; show (nds B [101, 108, 101] (true, p + 1)).2 < 800; omega) (by omega) (by omega) (by omega)
    have hX := nds_le (B := B) (w := [101, 108, 101, 97, 115, 101]) (x := (true, p + 1))
    simp only [List.length_cons, List.length_nil] at hX
    change RP t2 B (nds B [101, 108, 101, 97, 115, 101] (true, p + 1)) at b2
    have hw : wdS B p = (5, nds B [101, 108, 101, 97, 115, 101] (true, p + 1)) := by
      unfold wdS
      rw [hcb]
      rfl
    have hcm : cmdS B p = argS B 5 (nds B [101, 108, 101, 97, 115, 101] (true, p + 1)) := by
      unfold cmdS
      rw [hw]
    rw [hcm, hw]
    generalize nds B [101, 108, 101, 97, 115, 101] (true, p + 1) = X at *
    obtain ⟨t3, a3, b3, c3⟩ := rf_digits (m := m) (n := 1) hF (by omega) b2 hB (by omega)
    have l3 := dgS_pos (B := B) (n := 1) (x := X)
    rw [show argS B 5 X = ((dgS B 1 X).1, (dgS B 1 X).2, 0, 0) from rfl]
    refine ⟨(u2 t3 8 (4 * k + 1) (nI (dgS B 1 X).2)), ?_, (b3.w8 (j := 4 * k + 1) (v := nI (dgS B 1 X).2)), fun i j y z w => ?_, fun _ => ⟨?_, fun a ha => ?_⟩⟩
    · unfold fX12_parsesCommand
      simp (disch := omega) only [pu_OB, pu_LET, pu_OX0, pu_BND, pu_NZ, pu_BL, pu_m1, nI_add, pk_sub, pk_mul, pk_div, nI_clamp, pu_eq, pu_ne, pu_le_t, pu_le_f, pu_lt_t, pu_lt_f, pu_nm, pu_mm, pu_u2e, pu_u2n, ↓reduceIte, li0, li1, li2, li3, li4, li5, li6, li7, li8, li9, li10, li11, li12, li13, li14, li15, li16, li17, li18, li19, li20, li21, li22, li23, li24, li25, li26, li27, li28, li29, li30, li31, li32, li33, li34, li35, li36, li37, li38, li39, li40, li41, li42, li43, li44, li45, li46, li47, li48, li49, li50, li51, li52, li53, li54, li55, li56, li57, li58, li59, li60, li64, li72, li87, li97, li98, li99, li100, li101, li102, li103, li104, li105, li108, li109, li110, li111, li112, li114, li115, li116, li117, li119, li120, li124, li126, li132, li139, li140, li148, li156, li1000, li1092, li1248, hh, h14, a1, a2, a3]
    · rw [pu_u2n (by omega), c3 i j y z (by omega), c2 i j y z (by omega), c1 i j y z (by omega), pu_u2n (by omega), pu_u2n (by omega)]
    · rw [pu_u2n (by omega), c3 8 (4 * k) (by omega) (by omega) (by omega), c2 8 (4 * k) (by omega) (by omega) (by omega), c1 8 (4 * k) (by omega) (by omega) (by omega), pu_u2e ⟨rfl, rfl⟩]
      rfl
    · have ha : a < 1 := ha
      obtain rfl : a = 0 := by omega
      show (u2 t3 8 (4 * k + 1) (nI (dgS B 1 X).2)) 8 (4 * k + 1) = _
      rw [pu_u2e ⟨rfl, rfl⟩]
      rfl
  by_cases hcb115 : cb B p = 115
  · have hcb := hcb115
    have e0 := hI_e hcb (by omega)
    rw [e0] at hh
    have R1 : RP (u2 (u2 s 0 14 (nI (p + 1))) 8 (4 * k) (nI 115)) B (true, p + 1) := hR.go.w8
    have hh1 : fX12_here (u2 (u2 s 0 14 (nI (p + 1))) 8 (4 * k) (nI 115)) = some (hI B (p + 1), _) := rf_here R1 hB (by show p + 1 < 1000; omega)
    by_cases h104 : cb B (p + 1) = 104
    · have e1 := hI_e h104 (by omega)
      rw [e1] at hh1
      have R0 : RP (u2 (u2 (u2 s 0 14 (nI (p + 1))) 8 (4 * k) (nI 115)) 8 (4 * k) (nI 104)) B (true, p + 1) := R1.w8
      obtain ⟨t1, a1, b1, c1⟩ := rf_needsThree (a := 104) (b := 105) (c := 112) R0 hB (by have := nds_le (B := B) (w := [104, 105, 112]) (x := (true, p + 1)); simp only [List.length_cons, List.length_nil] at this; show p + 1 < 800; omega) (by omega) (by omega) (by omega)
      have hX := nds_le (B := B) (w := [104, 105, 112]) (x := (true, p + 1))
      simp only [List.length_cons, List.length_nil] at hX
      change RP t1 B (nds B [104, 105, 112] (true, p + 1)) at b1
      have hw : wdS B p = (6, nds B [104, 105, 112] (true, p + 1)) := by
        unfold wdS
        rw [hcb, if_pos h104]
        rfl
      have hcm : cmdS B p = argS B 6 (nds B [104, 105, 112] (true, p + 1)) := by
        unfold cmdS
        rw [hw]
      rw [hcm, hw]
      generalize nds B [104, 105, 112] (true, p + 1) = X at *
      obtain ⟨t2, a2, b2, c2⟩ := rf_digits (m := m) (n := 1) hF (by omega) b1 hB (by omega)
      have l2 := dgS_pos (B := B) (n := 1) (x := X)
      obtain ⟨t3, a3, b3, c3⟩ := rf_digits (m := m) (n := 1) hF (by omega) (b2.w8 (j := 4 * k + 1) (v := nI (dgS B 1 X).2)) hB (by omega)
      have l3 := dgS_pos (B := B) (n := 1) (x := (dgS B 1 X).1)
      rw [show argS B 6 X = ((dgS B 1 (dgS B 1 X).1).1, (dgS B 1 X).2, (dgS B 1 (dgS B 1 X).1).2, 0) from rfl]
      refine ⟨(u2 t3 8 (4 * k + 2) (nI (dgS B 1 (dgS B 1 X).1).2)), ?_, (b3.w8 (j := 4 * k + 2) (v := nI (dgS B 1 (dgS B 1 X).1).2)), fun i j y z w => ?_, fun _ => ⟨?_, fun a ha => ?_⟩⟩
      · have eS : fX12_parsesS m (nI (4 * k)) (u2 (u2 s 0 14 (nI (p + 1))) 8 (4 * k) (nI 115)) = some (nI 0, (u2 t3 8 (4 * k + 2) (nI (dgS B 1 (dgS B 1 X).1).2))) := by
          unfold fX12_parsesS
          rw [hh1, pu_OB]
          simp (disch := omega) only [pu_OB, pu_LET, pu_OX0, pu_BND, pu_NZ, pu_BL, pu_m1, nI_add, pk_sub, pk_mul, pk_div, nI_clamp, pu_eq, pu_ne, pu_le_t, pu_le_f, pu_lt_t, pu_lt_f, pu_nm, pu_mm, pu_u2e, pu_u2n, ↓reduceIte, li0, li1, li2, li3, li4, li5, li6, li7, li8, li9, li10, li11, li12, li13, li14, li15, li16, li17, li18, li19, li20, li21, li22, li23, li24, li25, li26, li27, li28, li29, li30, li31, li32, li33, li34, li35, li36, li37, li38, li39, li40, li41, li42, li43, li44, li45, li46, li47, li48, li49, li50, li51, li52, li53, li54, li55, li56, li57, li58, li59, li60, li64, li72, li87, li97, li98, li99, li100, li101, li102, li103, li104, li105, li108, li109, li110, li111, li112, li114, li115, li116, li117, li119, li120, li124, li126, li132, li139, li140, li148, li156, li1000, li1092, li1248, a1, a2, a3]
        unfold fX12_parsesCommand
        simp (disch := omega) only [pu_OB, pu_LET, pu_OX0, pu_BND, pu_NZ, pu_BL, pu_m1, nI_add, pk_sub, pk_mul, pk_div, nI_clamp, pu_eq, pu_ne, pu_le_t, pu_le_f, pu_lt_t, pu_lt_f, pu_nm, pu_mm, pu_u2e, pu_u2n, ↓reduceIte, li0, li1, li2, li3, li4, li5, li6, li7, li8, li9, li10, li11, li12, li13, li14, li15, li16, li17, li18, li19, li20, li21, li22, li23, li24, li25, li26, li27, li28, li29, li30, li31, li32, li33, li34, li35, li36, li37, li38, li39, li40, li41, li42, li43, li44, li45, li46, li47, li48, li49, li50, li51, li52, li53, li54, li55, li56, li57, li58, li59, li60, li64, li72, li87, li97, li98, li99, li100, li101, li102, li103, li104, li105, li108, li109, li110, li111, li112, li114, li115, li116, li117, li119, li120, li124, li126, li132, li139, li140, li148, li156, li1000, li1092, li1248, hh, h14, eS]
      · rw [pu_u2n (by omega), c3 i j y z (by omega), pu_u2n (by omega), c2 i j y z (by omega), c1 i j y z (by omega), pu_u2n (by omega), pu_u2n (by omega), pu_u2n (by omega)]
      · rw [pu_u2n (by omega), c3 8 (4 * k) (by omega) (by omega) (by omega), pu_u2n (by omega), c2 8 (4 * k) (by omega) (by omega) (by omega), c1 8 (4 * k) (by omega) (by omega) (by omega), pu_u2e ⟨rfl, rfl⟩]
        rfl
      · have ha : a < 2 := ha
        rcases (show a = 0 ∨ a = 1 by omega) with rfl | rfl
        · show (u2 t3 8 (4 * k + 2) (nI (dgS B 1 (dgS B 1 X).1).2)) 8 (4 * k + 1) = _
          rw [pu_u2n (by omega), c3 8 (4 * k + 1) (by omega) (by omega) (by omega), pu_u2e ⟨rfl, rfl⟩]
          rfl
        · show (u2 t3 8 (4 * k + 2) (nI (dgS B 1 (dgS B 1 X).1).2)) 8 (4 * k + 2) = _
          rw [pu_u2e ⟨rfl, rfl⟩]
          rfl
    · have e1 := hI_n (q := p + 1) (c := 104) hB h104 (by omega)
      have R0 := R1
      obtain ⟨t1, a1, b1, c1⟩ := rf_needsThree (a := 116) (b := 101) (c := 112) R0 hB (by have := nds_le (B := B) (w := [116, 101, 112]) (x := (true, p + 1)); simp only [List.length_cons, List.length_nil] at this; show p + 1 < 800; omega) (by omega) (by omega) (by omega)
      have hX := nds_le (B := B) (w := [116, 101, 112]) (x := (true, p + 1))
      simp only [List.length_cons, List.length_nil] at hX
      change RP t1 B (nds B [116, 101, 112] (true, p + 1)) at b1
      have hw : wdS B p = (7, nds B [116, 101, 112] (true, p + 1)) := by
        unfold wdS
        rw [hcb, if_neg h104]
        rfl
      have hcm : cmdS B p = argS B 7 (nds B [116, 101, 112] (true, p + 1)) := by
        unfold cmdS
        rw [hw]
      rw [hcm, hw]
      generalize nds B [116, 101, 112] (true, p + 1) = X at *
      have hh2 : fX12_here t1 = some (hI B X.2, t1) := rf_here b1 hB (by omega)
      have h15 := b1.2.1
      by_cases hsp : X.1 = true ∧ cb B X.2 = 32
      · rw [if_pos hsp.1] at h15
        rw [hI_e hsp.2 (by omega)] at hh2
        obtain ⟨t2, a2, b2, c2⟩ := rf_digits (m := m) (n := 2) hF (by omega) b1 hB (by omega)
        have l2 := dgS_pos (B := B) (n := 2) (x := X)
        rw [show argS B 7 X = ((dgS B 2 X).1, (dgS B 2 X).2, 0, 0) from if_pos hsp]
        refine ⟨(u2 t2 8 (4 * k + 1) (nI (dgS B 2 X).2)), ?_, (b2.w8 (j := 4 * k + 1) (v := nI (dgS B 2 X).2)), fun i j y z w => ?_, fun _ => ⟨?_, fun a ha => ?_⟩⟩
        · have eS : fX12_parsesS m (nI (4 * k)) (u2 (u2 s 0 14 (nI (p + 1))) 8 (4 * k) (nI 115)) = some (nI 0, (u2 t2 8 (4 * k + 1) (nI (dgS B 2 X).2))) := by
            unfold fX12_parsesS
            rw [hh1, pu_OB]
            rw [if_neg (show ¬ hI B (p + 1) = 104 from of_eq_false e1)]
            rw [show (116 : Int32) = nI 116 from rfl, show (101 : Int32) = nI 101 from rfl, show (112 : Int32) = nI 112 from rfl, a1, pu_OB, if_pos (show t1 0 15 = 0 from h15), hh2, pu_OB]
            simp (disch := omega) only [pu_OB, pu_LET, pu_OX0, pu_BND, pu_NZ, pu_BL, pu_m1, nI_add, pk_sub, pk_mul, pk_div, nI_clamp, pu_eq, pu_ne, pu_le_t, pu_le_f, pu_lt_t, pu_lt_f, pu_nm, pu_mm, pu_u2e, pu_u2n, ↓reduceIte, li0, li1, li2, li3, li4, li5, li6, li7, li8, li9, li10, li11, li12, li13, li14, li15, li16, li17, li18, li19, li20, li21, li22, li23, li24, li25, li26, li27, li28, li29, li30, li31, li32, li33, li34, li35, li36, li37, li38, li39, li40, li41, li42, li43, li44, li45, li46, li47, li48, li49, li50, li51, li52, li53, li54, li55, li56, li57, li58, li59, li60, li64, li72, li87, li97, li98, li99, li100, li101, li102, li103, li104, li105, li108, li109, li110, li111, li112, li114, li115, li116, li117, li119, li120, li124, li126, li132, li139, li140, li148, li156, li1000, li1092, li1248, a1, a2, h15]
          unfold fX12_parsesCommand
          simp (disch := omega) only [pu_OB, pu_LET, pu_OX0, pu_BND, pu_NZ, pu_BL, pu_m1, nI_add, pk_sub, pk_mul, pk_div, nI_clamp, pu_eq, pu_ne, pu_le_t, pu_le_f, pu_lt_t, pu_lt_f, pu_nm, pu_mm, pu_u2e, pu_u2n, ↓reduceIte, li0, li1, li2, li3, li4, li5, li6, li7, li8, li9, li10, li11, li12, li13, li14, li15, li16, li17, li18, li19, li20, li21, li22, li23, li24, li25, li26, li27, li28, li29, li30, li31, li32, li33, li34, li35, li36, li37, li38, li39, li40, li41, li42, li43, li44, li45, li46, li47, li48, li49, li50, li51, li52, li53, li54, li55, li56, li57, li58, li59, li60, li64, li72, li87, li97, li98, li99, li100, li101, li102, li103, li104, li105, li108, li109, li110, li111, li112, li114, li115, li116, li117, li119, li120, li124, li126, li132, li139, li140, li148, li156, li1000, li1092, li1248, hh, h14, eS]
        · rw [pu_u2n (by omega), c2 i j y z (by omega), c1 i j y z (by omega), pu_u2n (by omega), pu_u2n (by omega)]
        · rw [pu_u2n (by omega), c2 8 (4 * k) (by omega) (by omega) (by omega), c1 8 (4 * k) (by omega) (by omega) (by omega), pu_u2e ⟨rfl, rfl⟩]
          rfl
        · have ha : a < 1 := ha
          obtain rfl : a = 0 := by omega
          show (u2 t2 8 (4 * k + 1) (nI (dgS B 2 X).2)) 8 (4 * k + 1) = _
          rw [pu_u2e ⟨rfl, rfl⟩]
          rfl
      · have hbr : t1 0 15 = nI 1 ∨ t1 0 15 = nI 0 ∧ (hI B X.2 = nI 32) = False := by
          by_cases g : X.1 = true
          · rw [if_pos g] at h15
            exact Or.inr ⟨h15, hI_n hB (fun h => hsp ⟨g, h⟩) (by omega)⟩
          · rw [if_neg g] at h15
            exact Or.inl h15
        rw [show argS B 7 X = (X, 1, 0, 0) from if_neg hsp]
        refine ⟨(u2 t1 8 (4 * k + 1) (nI 1)), ?_, b1.w8, fun i j y z w => ?_, fun _ => ⟨?_, fun a ha => ?_⟩⟩
        · have eS : fX12_parsesS m (nI (4 * k)) (u2 (u2 s 0 14 (nI (p + 1))) 8 (4 * k) (nI 115)) = some (nI 0, (u2 t1 8 (4 * k + 1) (nI 1))) := by
            unfold fX12_parsesS
            rw [hh1, pu_OB]
            rw [if_neg (show ¬ hI B (p + 1) = 104 from of_eq_false e1)]
            rw [show (116 : Int32) = nI 116 from rfl, show (101 : Int32) = nI 101 from rfl, show (112 : Int32) = nI 112 from rfl, a1, pu_OB]
            rcases hbr with h9 | ⟨h9, h8⟩
            · simp (disch := omega) only [pu_OB, pu_LET, pu_OX0, pu_BND, pu_NZ, pu_BL, pu_m1, nI_add, pk_sub, pk_mul, pk_div, nI_clamp, pu_eq, pu_ne, pu_le_t, pu_le_f, pu_lt_t, pu_lt_f, pu_nm, pu_mm, pu_u2e, pu_u2n, ↓reduceIte, li0, li1, li2, li3, li4, li5, li6, li7, li8, li9, li10, li11, li12, li13, li14, li15, li16, li17, li18, li19, li20, li21, li22, li23, li24, li25, li26, li27, li28, li29, li30, li31, li32, li33, li34, li35, li36, li37, li38, li39, li40, li41, li42, li43, li44, li45, li46, li47, li48, li49, li50, li51, li52, li53, li54, li55, li56, li57, li58, li59, li60, li64, li72, li87, li97, li98, li99, li100, li101, li102, li103, li104, li105, li108, li109, li110, li111, li112, li114, li115, li116, li117, li119, li120, li124, li126, li132, li139, li140, li148, li156, li1000, li1092, li1248, h9]
            · rw [if_pos (show t1 0 15 = 0 from h9), hh2, pu_OB, if_neg (show ¬ hI B X.2 = 32 from of_eq_false h8)]
              simp (disch := omega) only [pu_OB, pu_LET, pu_OX0, pu_BND, pu_NZ, pu_BL, pu_m1, nI_add, pk_sub, pk_mul, pk_div, nI_clamp, pu_eq, pu_ne, pu_le_t, pu_le_f, pu_lt_t, pu_lt_f, pu_nm, pu_mm, pu_u2e, pu_u2n, ↓reduceIte, li0, li1, li2, li3, li4, li5, li6, li7, li8, li9, li10, li11, li12, li13, li14, li15, li16, li17, li18, li19, li20, li21, li22, li23, li24, li25, li26, li27, li28, li29, li30, li31, li32, li33, li34, li35, li36, li37, li38, li39, li40, li41, li42, li43, li44, li45, li46, li47, li48, li49, li50, li51, li52, li53, li54, li55, li56, li57, li58, li59, li60, li64, li72, li87, li97, li98, li99, li100, li101, li102, li103, li104, li105, li108, li109, li110, li111, li112, li114, li115, li116, li117, li119, li120, li124, li126, li132, li139, li140, li148, li156, li1000, li1092, li1248, h9]
          unfold fX12_parsesCommand
          simp (disch := omega) only [pu_OB, pu_LET, pu_OX0, pu_BND, pu_NZ, pu_BL, pu_m1, nI_add, pk_sub, pk_mul, pk_div, nI_clamp, pu_eq, pu_ne, pu_le_t, pu_le_f, pu_lt_t, pu_lt_f, pu_nm, pu_mm, pu_u2e, pu_u2n, ↓reduceIte, li0, li1, li2, li3, li4, li5, li6, li7, li8, li9, li10, li11, li12, li13, li14, li15, li16, li17, li18, li19, li20, li21, li22, li23, li24, li25, li26, li27, li28, li29, li30, li31, li32, li33, li34, li35, li36, li37, li38, li39, li40, li41, li42, li43, li44, li45, li46, li47, li48, li49, li50, li51, li52, li53, li54, li55, li56, li57, li58, li59, li60, li64, li72, li87, li97, li98, li99, li100, li101, li102, li103, li104, li105, li108, li109, li110, li111, li112, li114, li115, li116, li117, li119, li120, li124, li126, li132, li139, li140, li148, li156, li1000, li1092, li1248, hh, h14, eS]
        · rw [pu_u2n (by omega), c1 i j y z (by omega), pu_u2n (by omega), pu_u2n (by omega)]
        · rw [pu_u2n (by omega), c1 8 (4 * k) (by omega) (by omega) (by omega), pu_u2e ⟨rfl, rfl⟩]
          rfl
        · have ha : a < 1 := ha
          obtain rfl : a = 0 := by omega
          show (u2 t1 8 (4 * k + 1) (nI 1)) 8 (4 * k + 1) = _
          rw [pu_u2e ⟨rfl, rfl⟩]
          rfl
  have hw : wdS B p = (8, (false, p)) := by
    unfold wdS
    rw [if_neg hcb110, if_neg hcb100, if_neg hcb103, if_neg hcb109, if_neg hcb99, if_neg hcb114, if_neg hcb115]
  have hcm : cmdS B p = ((false, p), (0, 0, 0)) := by
    unfold cmdS
    rw [hw]
    rfl
  rw [hcm, hw]
  refine ⟨u2 (u2 (u2 (u2 s 0 14 (nI (p + 1))) 8 (4 * k) (hI B p)) 0 15 (nI 1)) 0 14 (nI p), ?_, ((hR.go (q := p + 1)).w8.fl (b := false) rfl).go, fun i j y z w => by rw [pu_u2n (by omega), pu_u2n (by omega), pu_u2n (by omega), pu_u2n (by omega)], fun h => absurd h Bool.false_ne_true⟩
  unfold fX12_parsesCommand fX12_parsesCommand_B342
  rw [hh, pu_OB]
  simp (disch := omega) only [pu_OB, pu_LET, pu_OX0, pu_BND, pu_NZ, pu_BL, pu_m1, nI_add, pk_sub, pk_mul, pk_div, nI_clamp, pu_eq, pu_ne, pu_le_t, pu_le_f, pu_lt_t, pu_lt_f, pu_nm, pu_mm, pu_u2e, pu_u2n, ↓reduceIte, li0, li1, li2, li3, li4, li5, li6, li7, li8, li9, li10, li11, li12, li13, li14, li15, li16, li17, li18, li19, li20, li21, li22, li23, li24, li25, li26, li27, li28, li29, li30, li31, li32, li33, li34, li35, li36, li37, li38, li39, li40, li41, li42, li43, li44, li45, li46, li47, li48, li49, li50, li51, li52, li53, li54, li55, li56, li57, li58, li59, li60, li64, li72, li87, li97, li98, li99, li100, li101, li102, li103, li104, li105, li108, li109, li110, li111, li112, li114, li115, li116, li117, li119, li120, li124, li126, li132, li139, li140, li148, li156, li1000, li1092, li1248, h14, hI_n hB hcb110, hI_n hB hcb100, hI_n hB hcb103, hI_n hB hcb109, hI_n hB hcb99, hI_n hB hcb114, hI_n hB hcb115]
  rfl
end RS
