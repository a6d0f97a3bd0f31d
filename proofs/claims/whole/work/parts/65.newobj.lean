-- ===== the object newly made =====
theorem gws_add {lo m n : Nat} {sh : Nat → Sh} {cA : Nat → ClassId} {ad a : Nat → Nat} {σ : St} : gws lo (m + n) sh cA ad a σ = gws lo m sh cA ad a σ ++ gws (lo + m) n sh cA ad a σ := by
  unfold gws
  rw [List.range_add, List.map_append, List.map_map]
  congr 1
  apply List.map_congr_left
  intro c _
  show (a (lo + (m + c)), mkE cA ad a (sh (lo + (m + c))) (σ (lo + (m + c)))) = _
  rw [Nat.add_assoc]
theorem wc_gws {cA : Nat → ClassId} {ad a : Nat → Nat} {fr : va_W} {σ : St} : wc cA ad a fr σ = gws 0 241 shc cA ad a σ ++ fr := by
  unfold wc gwd gws
  congr 1
theorem σN0_m {i c : Nat} (hi : i < 11) (hc : c < 19) : σN0 (19 * i + c) = σM0 c := by
  funext j
  show (if 19 * i + c < 209 then σM0 ((19 * i + c) % 19) j else _) = _
  rw [if_pos (by omega), show (19 * i + c) % 19 = c by omega]
theorem mill_seg {cA : Nat → ClassId} {ad a b : Nat → Nat} {i : Nat} (hi : i < 11) (hab : ∀ c, c < 19 → a (19 * i + c) = b c) : gws 0 19 (shmill 0) cA ad b σM0 = gws (19 * i) 19 shc cA ad a σN0 := by
  unfold gws
  apply List.map_congr_left
  intro c hc
  have hc := List.mem_range.mp hc
  have e : ∀ r, r < 19 → b r = a (19 * i + r) := fun r hr => (hab r hr).symm
  rw [Nat.zero_add, shc_mill hi hc, σN0_m hi hc, hab c hc]
  congr 1
  rcases (show c = 0 ∨ c = 1 ∨ c = 7 ∨ c = 12 ∨ (c ≠ 0 ∧ c ≠ 1 ∧ c ≠ 7 ∧ c ≠ 12) by omega) with rfl | rfl | rfl | rfl | ⟨h0, h1, h7, h12⟩
  · show (Sum.inr (7, [.ref (b 1), .ref (b 7), .ref (b 12), .ref (b 16), .ref (b 17), .ref (b 18), .int (σM0 0 6)]) : va_E) = Sum.inr (7, [.ref (a (19 * i + 1)), .ref (a (19 * i + 7)), .ref (a (19 * i + 12)), .ref (a (19 * i + 16)), .ref (a (19 * i + 17)), .ref (a (19 * i + 18)), .int (σM0 0 6)])
    rw [e 1 (by omega), e 7 (by omega), e 12 (by omega), e 16 (by omega), e 17 (by omega), e 18 (by omega)]
  · show (Sum.inr (8, [.ref (b 2), .ref (b 3), .ref (b 4), .ref (b 5), .ref (b 6), .int (σM0 1 5), .int (σM0 1 6)]) : va_E) = Sum.inr (8, [.ref (a (19 * i + 2)), .ref (a (19 * i + 3)), .ref (a (19 * i + 4)), .ref (a (19 * i + 5)), .ref (a (19 * i + 6)), .int (σM0 1 5), .int (σM0 1 6)])
    rw [e 2 (by omega), e 3 (by omega), e 4 (by omega), e 5 (by omega), e 6 (by omega)]
  · show (Sum.inr (10, [.ref (b 8), .ref (b 9), .ref (b 10), .ref (b 11), .int (σM0 7 4), .int (σM0 7 5), .int (σM0 7 6)]) : va_E) = Sum.inr (10, [.ref (a (19 * i + 8)), .ref (a (19 * i + 9)), .ref (a (19 * i + 10)), .ref (a (19 * i + 11)), .int (σM0 7 4), .int (σM0 7 5), .int (σM0 7 6)])
    rw [e 8 (by omega), e 9 (by omega), e 10 (by omega), e 11 (by omega)]
  · show (Sum.inr (6, [.ref (b 13), .ref (b 14), .ref (b 15), .int (σM0 12 3)]) : va_E) = Sum.inr (6, [.ref (a (19 * i + 13)), .ref (a (19 * i + 14)), .ref (a (19 * i + 15)), .int (σM0 12 3)])
    rw [e 13 (by omega), e 14 (by omega), e 15 (by omega)]
  · rcases (show c = 2 ∨ c = 3 ∨ c = 4 ∨ c = 5 ∨ c = 6 ∨ c = 8 ∨ c = 9 ∨ c = 10 ∨ c = 11 ∨ c = 13 ∨ c = 14 ∨ c = 15 ∨ c = 16 ∨ c = 17 ∨ c = 18 by omega) with rfl | rfl | rfl | rfl | rfl | rfl | rfl | rfl | rfl | rfl | rfl | rfl | rfl | rfl | rfl <;> rfl
theorem cmd_seg {cA : Nat → ClassId} {ad a b : Nat → Nat} {i : Nat} (hi : i < 12) (h0 : a (217 + 2 * i) = b 217) (h1 : a (217 + 2 * i + 1) = b 218) : gws 217 2 shc cA ad b σC0 = gws (217 + 2 * i) 2 shc cA ad a σN0 := by
  have s0 : shc (217 + 2 * i + 0) = .inl (4, [1, 217 + 2 * i + 0 + 1 + 2]) := by
    unfold shc
    rw [if_neg (by omega), if_neg (by omega), if_pos (by omega)]
  have s1 : shc (217 + 2 * i + 1) = .inr (.inl (0, 3)) := by
    unfold shc
    rw [if_neg (by omega), if_neg (by omega), if_neg (by omega)]
  have n0 : σN0 (217 + 2 * i + 0) 0 = 7 := by
    unfold σN0
    rw [if_neg (by omega), if_neg (by omega), if_pos (by omega)]
  have n1 : σN0 (217 + 2 * i + 1) = fun _ => 0 := by
    funext j
    unfold σN0
    rw [if_neg (by omega), if_neg (by omega), if_neg (by omega)]
  show [(b 217, mkE cA ad b (shc 217) (σC0 217)), (b 218, mkE cA ad b (shc 218) (σC0 218))] = [(a (217 + 2 * i + 0), mkE cA ad a (shc (217 + 2 * i + 0)) (σN0 (217 + 2 * i + 0))), (a (217 + 2 * i + 1), mkE cA ad a (shc (217 + 2 * i + 1)) (σN0 (217 + 2 * i + 1)))]
  rw [s0, s1, n1, show a (217 + 2 * i + 0) = b 217 from h0, h1]
  have e1 : mkE cA ad a (.inl (4, [1, 217 + 2 * i + 0 + 1 + 2])) (σN0 (217 + 2 * i + 0)) = Sum.inr (4, [.ref (ad (σN0 (217 + 2 * i + 0) 0).toNatClampNeg), .ref (a (217 + 2 * i + 1))]) := rfl
  rw [e1, n0, h1]
  rfl
/-- where the object's cells lie, from where its parts lie -/
def aN0 (b1 b2 b3 : Nat → Nat) (bH : Nat → Nat → Nat) (h0 : Nat) (bq : Nat → Nat) (bT : Nat → Nat → Nat) (z : Nat) : Nat → Nat := fun k => if k < 19 then b1 k else if k < 38 then b2 (k - 19) else if k < 57 then b3 (k - 38) else if k < 209 then bH ((k - 57) / 19) ((k - 57) % 19) else if k = 209 then h0 else if k < 212 then bH 8 (k - 210) else if k < 214 then bq k else if k < 217 then bT 12 (k - 214) else if k < 241 then bT ((k - 217) / 2) (217 + (k - 217) % 2) else z
theorem up8 {f : Nat → Nat} : (va_up (va_up (va_up (va_up (va_up (va_up (va_up (va_up (fun _ => none) 0 (some (f 0))) 1 (some (f 1))) 2 (some (f 2))) 3 (some (f 3))) 4 (some (f 4))) 5 (some (f 5))) 6 (some (f 6))) 7 (some (f 7))) = fun j => if j < 8 then some (f j) else none := by
  funext j
  by_cases h : j < 8
  · rcases (show j = 0 ∨ j = 1 ∨ j = 2 ∨ j = 3 ∨ j = 4 ∨ j = 5 ∨ j = 6 ∨ j = 7 by omega) with rfl | rfl | rfl | rfl | rfl | rfl | rfl | rfl <;> rfl
  · rw [if_neg h]
    simp only [va_up]
    rw [if_neg (by omega), if_neg (by omega), if_neg (by omega), if_neg (by omega), if_neg (by omega), if_neg (by omega), if_neg (by omega), if_neg (by omega)]
theorem up12 {f : Nat → Nat} : (va_up (va_up (va_up (va_up (va_up (va_up (va_up (va_up (va_up (va_up (va_up (va_up (fun _ => none) 0 (some (f 0))) 1 (some (f 1))) 2 (some (f 2))) 3 (some (f 3))) 4 (some (f 4))) 5 (some (f 5))) 6 (some (f 6))) 7 (some (f 7))) 8 (some (f 8))) 9 (some (f 9))) 10 (some (f 10))) 11 (some (f 11))) = fun j => if j < 12 then some (f j) else none := by
  funext j
  by_cases h : j < 12
  · rcases (show j = 0 ∨ j = 1 ∨ j = 2 ∨ j = 3 ∨ j = 4 ∨ j = 5 ∨ j = 6 ∨ j = 7 ∨ j = 8 ∨ j = 9 ∨ j = 10 ∨ j = 11 by omega) with rfl | rfl | rfl | rfl | rfl | rfl | rfl | rfl | rfl | rfl | rfl | rfl <;> rfl
  · rw [if_neg h]
    simp only [va_up]
    rw [if_neg (by omega), if_neg (by omega), if_neg (by omega), if_neg (by omega), if_neg (by omega), if_neg (by omega), if_neg (by omega), if_neg (by omega), if_neg (by omega), if_neg (by omega), if_neg (by omega), if_neg (by omega)]

section N65
variable {cA : Nat → ClassId} {ad b1 b2 b3 bq : Nat → Nat} {bH bT : Nat → Nat → Nat} {h0 z : Nat}
theorem aN_1 {c : Nat} (h : c < 19) : (aN0 b1 b2 b3 bH h0 bq bT z) (19 * 0 + c) = b1 c := by
  unfold aN0
  rw [Nat.mul_zero, Nat.zero_add, if_pos h]
theorem aN_2 {c : Nat} (h : c < 19) : (aN0 b1 b2 b3 bH h0 bq bT z) (19 * 1 + c) = b2 c := by
  unfold aN0
  rw [if_neg (by omega), if_pos (by omega), show 19 * 1 + c - 19 = c by omega]
theorem aN_3 {c : Nat} (h : c < 19) : (aN0 b1 b2 b3 bH h0 bq bT z) (19 * 2 + c) = b3 c := by
  unfold aN0
  rw [if_neg (by omega), if_neg (by omega), if_pos (by omega), show 19 * 2 + c - 38 = c by omega]
theorem aN_h {i c : Nat} (hi : i < 8) (h : c < 19) : (aN0 b1 b2 b3 bH h0 bq bT z) (19 * (3 + i) + c) = bH i c := by
  unfold aN0
  rw [if_neg (by omega), if_neg (by omega), if_neg (by omega), if_pos (by omega), show (19 * (3 + i) + c - 57) / 19 = i by omega, show (19 * (3 + i) + c - 57) % 19 = c by omega]
theorem aN_c {i : Nat} (hi : i < 12) : (aN0 b1 b2 b3 bH h0 bq bT z) (217 + 2 * i) = bT i 217 ∧ (aN0 b1 b2 b3 bH h0 bq bT z) (217 + 2 * i + 1) = bT i 218 := by
  unfold aN0
  constructor
  · rw [if_neg (by omega), if_neg (by omega), if_neg (by omega), if_neg (by omega), if_neg (by omega), if_neg (by omega), if_neg (by omega), if_neg (by omega), if_pos (by omega), show (217 + 2 * i - 217) / 2 = i by omega, show 217 + (217 + 2 * i - 217) % 2 = 217 by omega]
  · rw [if_neg (by omega), if_neg (by omega), if_neg (by omega), if_neg (by omega), if_neg (by omega), if_neg (by omega), if_neg (by omega), if_neg (by omega), if_pos (by omega), show (217 + 2 * i + 1 - 217) / 2 = i by omega, show 217 + (217 + 2 * i + 1 - 217) % 2 = 218 by omega]
theorem seg_H : ([(bH 8 0, .inr (5, [.ref (bH 8 1), .int 0, .int 0])), (bH 8 1, .inl (cA 4, 8, .inr (.inr (.inr (.inr (va_up (va_up (va_up (va_up (va_up (va_up (va_up (va_up (fun _ => none) 0 (some (bH 0 0))) 1 (some (bH 1 0))) 2 (some (bH 2 0))) 3 (some (bH 3 0))) 4 (some (bH 4 0))) 5 (some (bH 5 0))) 6 (some (bH 6 0))) 7 (some (bH 7 0))))))))] : va_W) = gws 210 2 shc cA ad (aN0 b1 b2 b3 bH h0 bq bT z) σN0 := by
  rw [up8 (f := fun i => bH i 0)]
  have e : (fun j : Nat => if j < 8 then some (bH j 0) else none) = fun j => if j < 8 then some ((aN0 b1 b2 b3 bH h0 bq bT z) (57 + 19 * j)) else none := by
    funext j
    by_cases h : j < 8
    · rw [if_pos h, if_pos h, show 57 + 19 * j = 19 * (3 + j) + 0 by omega, aN_h h (by omega)]
    · rw [if_neg h, if_neg h]
  rw [e]
  rfl
theorem seg_T : ([(bT 12 0, .inr (9, [.ref (bT 12 1), .int 0, .int 0, .ref (bT 12 2), .int 0])), (bT 12 1, .inl (cA 1, 60, .inl (fun _ => 0))), (bT 12 2, .inl (cA 3, 12, .inr (.inr (.inr (.inr (va_up (va_up (va_up (va_up (va_up (va_up (va_up (va_up (va_up (va_up (va_up (va_up (fun _ => none) 0 (some (bT 0 217))) 1 (some (bT 1 217))) 2 (some (bT 2 217))) 3 (some (bT 3 217))) 4 (some (bT 4 217))) 5 (some (bT 5 217))) 6 (some (bT 6 217))) 7 (some (bT 7 217))) 8 (some (bT 8 217))) 9 (some (bT 9 217))) 10 (some (bT 10 217))) 11 (some (bT 11 217))))))))] : va_W) = gws 214 3 shc cA ad (aN0 b1 b2 b3 bH h0 bq bT z) σN0 := by
  rw [up12 (f := fun i => bT i 217)]
  have e : (fun j : Nat => if j < 12 then some (bT j 217) else none) = fun j => if j < 12 then some ((aN0 b1 b2 b3 bH h0 bq bT z) (217 + 2 * j)) else none := by
    funext j
    by_cases h : j < 12
    · rw [if_pos h, if_pos h, (aN_c h).1]
    · rw [if_neg h, if_neg h]
  rw [e]
  rfl
theorem seg_Q : gws 212 2 shc cA ad bq (fun _ _ => 0) = gws 212 2 shc cA ad (aN0 b1 b2 b3 bH h0 bq bT z) σN0 := rfl
theorem seg_O : ([(h0, .inr (12, [.ref (b1 0), .ref (b2 0), .ref (b3 0), .int 0, .ref (bH 8 0), .ref (bq 212), .ref (bT 12 0), .ref z, .int (-1), .int (-1)]))] : va_W) = gws 209 1 shc cA ad (aN0 b1 b2 b3 bH h0 bq bT z) σN0 := rfl
theorem wN_perm {SB : va_W} : List.Perm (α := Nat × va_E) ([(h0, .inr (12, [.ref (b1 0), .ref (b2 0), .ref (b3 0), .int 0, .ref (bH 8 0), .ref (bq 212), .ref (bT 12 0), .ref z, .int (-1), .int (-1)]))] ++ ((((((([] : va_W) ++ gws 0 19 (shmill 0) cA ad b1 σM0) ++ gws 0 19 (shmill 0) cA ad b2 σM0) ++ gws 0 19 (shmill 0) cA ad b3 σM0) ++ wH cA ad bH) ++ gws 212 2 shc cA ad bq (fun _ _ => 0)) ++ wT cA ad bT) ++ SB) (wc cA ad (aN0 b1 b2 b3 bH h0 bq bT z) SB σN0) := by
  unfold wH wT
  rw [seg_O (b1 := b1) (b2 := b2) (b3 := b3) (bH := bH) (bq := bq) (bT := bT) (z := z) (h0 := h0) (cA := cA) (ad := ad), seg_H (b1 := b1) (b2 := b2) (b3 := b3) (bH := bH) (bq := bq) (bT := bT) (z := z) (h0 := h0) (cA := cA) (ad := ad), seg_T (b1 := b1) (b2 := b2) (b3 := b3) (bH := bH) (bq := bq) (bT := bT) (z := z) (h0 := h0) (cA := cA) (ad := ad), seg_Q (b1 := b1) (b2 := b2) (b3 := b3) (bH := bH) (bq := bq) (bT := bT) (z := z) (h0 := h0) (cA := cA) (ad := ad)]
  rw [mill_seg (i := 0) (a := (aN0 b1 b2 b3 bH h0 bq bT z)) (by omega) (fun c h => aN_1 h), mill_seg (i := 1) (a := (aN0 b1 b2 b3 bH h0 bq bT z)) (by omega) (fun c h => aN_2 h), mill_seg (i := 2) (a := (aN0 b1 b2 b3 bH h0 bq bT z)) (by omega) (fun c h => aN_3 h)]
  rw [mill_seg (b := bH 0) (i := 3 + 0) (a := (aN0 b1 b2 b3 bH h0 bq bT z)) (by omega) (fun c h => aN_h (by omega) h), mill_seg (b := bH 1) (i := 3 + 1) (a := (aN0 b1 b2 b3 bH h0 bq bT z)) (by omega) (fun c h => aN_h (by omega) h), mill_seg (b := bH 2) (i := 3 + 2) (a := (aN0 b1 b2 b3 bH h0 bq bT z)) (by omega) (fun c h => aN_h (by omega) h), mill_seg (b := bH 3) (i := 3 + 3) (a := (aN0 b1 b2 b3 bH h0 bq bT z)) (by omega) (fun c h => aN_h (by omega) h), mill_seg (b := bH 4) (i := 3 + 4) (a := (aN0 b1 b2 b3 bH h0 bq bT z)) (by omega) (fun c h => aN_h (by omega) h), mill_seg (b := bH 5) (i := 3 + 5) (a := (aN0 b1 b2 b3 bH h0 bq bT z)) (by omega) (fun c h => aN_h (by omega) h), mill_seg (b := bH 6) (i := 3 + 6) (a := (aN0 b1 b2 b3 bH h0 bq bT z)) (by omega) (fun c h => aN_h (by omega) h), mill_seg (b := bH 7) (i := 3 + 7) (a := (aN0 b1 b2 b3 bH h0 bq bT z)) (by omega) (fun c h => aN_h (by omega) h)]
  rw [cmd_seg (b := bT 0) (i := 0) (a := (aN0 b1 b2 b3 bH h0 bq bT z)) (by omega) (aN_c (i := 0) (by omega)).1 (aN_c (i := 0) (by omega)).2, cmd_seg (b := bT 1) (i := 1) (a := (aN0 b1 b2 b3 bH h0 bq bT z)) (by omega) (aN_c (i := 1) (by omega)).1 (aN_c (i := 1) (by omega)).2, cmd_seg (b := bT 2) (i := 2) (a := (aN0 b1 b2 b3 bH h0 bq bT z)) (by omega) (aN_c (i := 2) (by omega)).1 (aN_c (i := 2) (by omega)).2, cmd_seg (b := bT 3) (i := 3) (a := (aN0 b1 b2 b3 bH h0 bq bT z)) (by omega) (aN_c (i := 3) (by omega)).1 (aN_c (i := 3) (by omega)).2, cmd_seg (b := bT 4) (i := 4) (a := (aN0 b1 b2 b3 bH h0 bq bT z)) (by omega) (aN_c (i := 4) (by omega)).1 (aN_c (i := 4) (by omega)).2, cmd_seg (b := bT 5) (i := 5) (a := (aN0 b1 b2 b3 bH h0 bq bT z)) (by omega) (aN_c (i := 5) (by omega)).1 (aN_c (i := 5) (by omega)).2, cmd_seg (b := bT 6) (i := 6) (a := (aN0 b1 b2 b3 bH h0 bq bT z)) (by omega) (aN_c (i := 6) (by omega)).1 (aN_c (i := 6) (by omega)).2, cmd_seg (b := bT 7) (i := 7) (a := (aN0 b1 b2 b3 bH h0 bq bT z)) (by omega) (aN_c (i := 7) (by omega)).1 (aN_c (i := 7) (by omega)).2, cmd_seg (b := bT 8) (i := 8) (a := (aN0 b1 b2 b3 bH h0 bq bT z)) (by omega) (aN_c (i := 8) (by omega)).1 (aN_c (i := 8) (by omega)).2, cmd_seg (b := bT 9) (i := 9) (a := (aN0 b1 b2 b3 bH h0 bq bT z)) (by omega) (aN_c (i := 9) (by omega)).1 (aN_c (i := 9) (by omega)).2, cmd_seg (b := bT 10) (i := 10) (a := (aN0 b1 b2 b3 bH h0 bq bT z)) (by omega) (aN_c (i := 10) (by omega)).1 (aN_c (i := 10) (by omega)).2, cmd_seg (b := bT 11) (i := 11) (a := (aN0 b1 b2 b3 bH h0 bq bT z)) (by omega) (aN_c (i := 11) (by omega)).1 (aN_c (i := 11) (by omega)).2]
  rw [wc_gws, show (241 : Nat) = 19 + (19 + (19 + (19 + (19 + (19 + (19 + (19 + (19 + (19 + (19 + (1 + (2 + (2 + (3 + (2 + (2 + (2 + (2 + (2 + (2 + (2 + (2 + (2 + (2 + (2 + (2)))))))))))))))))))))))))) from rfl, gws_add, gws_add, gws_add, gws_add, gws_add, gws_add, gws_add, gws_add, gws_add, gws_add, gws_add, gws_add, gws_add, gws_add, gws_add, gws_add, gws_add, gws_add, gws_add, gws_add, gws_add, gws_add, gws_add, gws_add, gws_add, gws_add]
  haveI : DecidableEq (Nat × va_E) := fun a b => Classical.propDecidable (a = b)
  refine List.perm_iff_count.mpr fun x => ?_
  simp only [List.count_append, List.count_nil, Nat.reduceAdd, Nat.reduceMul]
  omega
end N65
