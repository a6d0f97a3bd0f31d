-- ===== a script read: the words =====
def cb (B : List Nat) (i : Nat) : Nat := B.getD i 0
def dig (B : List Nat) (i : Nat) : Bool := decide (48 ≤ cb B i) && decide (cb B i ≤ 57)
theorem dig_t {B : List Nat} {i : Nat} : dig B i = true ↔ (48 ≤ cb B i ∧ cb B i ≤ 57) := by simp [dig]
theorem cb_in {B : List Nat} (hB : bOk B) {i : Nat} (h : i < B.length) : 32 ≤ cb B i ∧ cb B i ≤ 126 := hB _ (ngetD_mem h)
theorem cb_out {B : List Nat} {i : Nat} (h : B.length ≤ i) : cb B i = 0 := by
  unfold cb
  rw [List.getD_eq_getElem?_getD, List.getElem?_eq_none h]
  rfl
theorem cb_lt {B : List Nat} {i : Nat} (h : cb B i ≠ 0) : i < B.length := by
  by_cases c : i < B.length
  · exact c
  · exact absurd (cb_out (by omega)) h
theorem cb_le {B : List Nat} (hB : bOk B) {i : Nat} : cb B i ≤ 126 := by
  by_cases c : i < B.length
  · exact (cb_in hB c).2
  · rw [cb_out (by omega)]
    omega
/-- how far a word stands at p -/
def ml (B : List Nat) : Nat → List Nat → Nat
  | _, [] => 0
  | p, c :: w => if cb B p = c then 1 + ml B (p + 1) w else 0
theorem ml_c (B : List Nat) (p c : Nat) (w : List Nat) : ml B p (c :: w) = if cb B p = c then 1 + ml B (p + 1) w else 0 := rfl
theorem ml_le {B : List Nat} : ∀ {w : List Nat} {p : Nat}, ml B p w ≤ w.length := by
  intro w
  induction w with
  | nil => intro p; exact Nat.le_refl _
  | cons c w ih =>
    intro p
    rw [ml_c, List.length_cons]
    have := ih (p := p + 1)
    split <;> omega
/-- one character wanted; a reading that went wrong stays so -/
def nd1 (B : List Nat) (c : Nat) (x : Bool × Nat) : Bool × Nat := if x.1 = true ∧ cb B x.2 = c then (true, x.2 + 1) else (false, x.2)
def nds (B : List Nat) : List Nat → Bool × Nat → Bool × Nat
  | [], x => x
  | c :: w, x => nds B w (nd1 B c x)
theorem nds_f {B : List Nat} : ∀ {w : List Nat} {q : Nat}, nds B w (false, q) = (false, q) := by
  intro w
  induction w with
  | nil => intro q; rfl
  | cons c w ih =>
    intro q
    show nds B w (nd1 B c (false, q)) = _
    rw [show nd1 B c (false, q) = (false, q) from if_neg (fun h => Bool.false_ne_true h.1), ih]
theorem nds_ml {B : List Nat} : ∀ {w : List Nat} {q : Nat}, nds B w (true, q) = if ml B q w = w.length then (true, q + w.length) else (false, q + ml B q w) := by
  intro w
  induction w with
  | nil => intro q; rfl
  | cons c w ih =>
    intro q
    show nds B w (nd1 B c (true, q)) = _
    rw [ml_c, List.length_cons]
    by_cases h : cb B q = c
    · rw [show nd1 B c (true, q) = (true, q + 1) from if_pos ⟨rfl, h⟩, ih, if_pos h]
      have := ml_le (B := B) (w := w) (p := q + 1)
      by_cases h2 : ml B (q + 1) w = w.length
      · rw [if_pos h2, if_pos (by omega), show q + 1 + w.length = q + (w.length + 1) by omega]
      · rw [if_neg h2, if_neg (by omega), show q + 1 + ml B (q + 1) w = q + (1 + ml B (q + 1) w) by omega]
    · rw [show nd1 B c (true, q) = (false, q) from if_neg (fun g => h g.2), nds_f, if_neg h, if_neg (by omega)]
      rfl
def wl (k : Nat) : List Nat := [[110, 111, 105, 115, 101], [100, 114, 111, 112], [103, 101, 97, 114], [109, 101, 115, 104], [99, 108, 101, 97, 114], [114, 101, 108, 101, 97, 115, 101], [115, 104, 105, 112], [115, 116, 101, 112]].getD k []
/-- which command's word begins at p, and how its reading goes -/
def wdS (B : List Nat) (p : Nat) : Nat × (Bool × Nat) :=
  if cb B p = 110 then (0, nds B [111, 105, 115, 101] (true, p + 1)) else if cb B p = 100 then (1, nds B [114, 111, 112] (true, p + 1)) else if cb B p = 103 then (2, nds B [101, 97, 114] (true, p + 1)) else if cb B p = 109 then (3, nds B [101, 115, 104] (true, p + 1)) else if cb B p = 99 then (4, nds B [108, 101, 97, 114] (true, p + 1)) else if cb B p = 114 then (5, nds B [101, 108, 101, 97, 115, 101] (true, p + 1)) else if cb B p = 115 then (if cb B (p + 1) = 104 then (6, nds B [104, 105, 112] (true, p + 1)) else (7, nds B [116, 101, 112] (true, p + 1))) else (8, (false, p))
def dgS (B : List Nat) (n : Nat) (x : Bool × Nat) : (Bool × Nat) × Nat :=
  if x.1 = true ∧ cb B x.2 = 32 then
    if dig B (x.2 + 1) = true then
      if n = 2 ∧ dig B (x.2 + 2) = true then ((true, x.2 + 3), 10 * (cb B (x.2 + 1) - 48) + (cb B (x.2 + 2) - 48)) else ((true, x.2 + 2), cb B (x.2 + 1) - 48)
    else ((false, x.2 + 1), 0)
  else ((false, x.2), 0)
def argS (B : List Nat) (k : Nat) (x : Bool × Nat) : (Bool × Nat) × (Nat × Nat × Nat) :=
  if k = 0 then ((dgS B 2 (dgS B 1 (dgS B 1 x).1).1).1, (dgS B 1 x).2, (dgS B 1 (dgS B 1 x).1).2, (dgS B 2 (dgS B 1 (dgS B 1 x).1).1).2)
  else if k = 1 then ((dgS B 2 x).1, (dgS B 2 x).2, 0, 0)
  else if k = 2 ∨ k = 3 ∨ k = 6 then ((dgS B 1 (dgS B 1 x).1).1, (dgS B 1 x).2, (dgS B 1 (dgS B 1 x).1).2, 0)
  else if k = 4 ∨ k = 5 then ((dgS B 1 x).1, (dgS B 1 x).2, 0, 0)
  else if k = 7 then (if x.1 = true ∧ cb B x.2 = 32 then ((dgS B 2 x).1, (dgS B 2 x).2, 0, 0) else (x, 1, 0, 0))
  else (x, 0, 0, 0)
def cmdS (B : List Nat) (p : Nat) : (Bool × Nat) × (Nat × Nat × Nat) := argS B (wdS B p).1 (wdS B p).2
/-- the buffer, as the object has it -/
def SB (σ : St) (B : List Nat) : Prop := σ 214 1 = nI B.length ∧ B.length ≤ 60 ∧ ∀ j, j < B.length → σ 215 j = nI (B.getD j 0)
theorem SB.of {σ τ : St} {B : List Nat} (h : SB σ B) (h1 : τ 214 1 = σ 214 1) (h2 : τ 215 = σ 215) : SB τ B := ⟨by rw [h1]; exact h.1, h.2.1, fun j hj => by rw [h2]; exact h.2.2 j hj⟩
section SP
variable {σ : St} {m : Nat} {B : List Nat} {p : Nat}
theorem cl_skip {c : Nat} (hS : SB σ B) (hB : bOk B) (hp : σ 214 2 = nI p) (hp9 : p < 1000) (hc : 0 < c ∧ c < 200) : fX8_skip (nI c) σ = if cb B p = c then some (nI 1, u2 σ 214 2 (nI (p + 1))) else some (nI 0, σ) := by
  obtain ⟨h1, h2, h3⟩ := hS
  unfold fX8_skip
  by_cases hl : p < B.length
  · have e := h3 p hl
    have hb9 := cb_le hB (i := p)
    change σ 215 p = nI (cb B p) at e
    by_cases c2 : cb B p = c
    · rw [if_pos c2]
      simp (disch := omega) only [pu_OB, pu_LET, pu_OX0, pu_BND, pu_NZ, pu_BL, pu_m1, nI_add, pk_sub, pk_mul, pk_div, nI_clamp, pu_eq, pu_ne, pu_le_t, pu_le_f, pu_lt_t, pu_lt_f, pu_nm, pu_mm, pu_u2e, pu_u2n, ↓reduceIte, li0, li1, li2, li3, li4, li5, li6, li7, li8, li9, li10, li11, li12, li13, li14, li15, li16, li17, li18, li19, li20, li21, li22, li23, li24, li25, li26, li27, li28, li29, li30, li31, li32, li33, li34, li35, li36, li37, li38, li39, li40, li41, li42, li43, li44, li45, li46, li47, li48, li49, li50, li51, li52, li53, li54, li55, li56, li57, li58, li59, li60, li64, li72, li87, li97, li98, li99, li100, li101, li102, li103, li104, li105, li108, li109, li110, li111, li112, li114, li115, li116, li117, li119, li120, li124, li126, li132, li139, li140, li148, li156, li1000, li1092, li1248, h1, hp, e]
    · rw [if_neg c2]
      simp (disch := omega) only [pu_OB, pu_LET, pu_OX0, pu_BND, pu_NZ, pu_BL, pu_m1, nI_add, pk_sub, pk_mul, pk_div, nI_clamp, pu_eq, pu_ne, pu_le_t, pu_le_f, pu_lt_t, pu_lt_f, pu_nm, pu_mm, pu_u2e, pu_u2n, ↓reduceIte, li0, li1, li2, li3, li4, li5, li6, li7, li8, li9, li10, li11, li12, li13, li14, li15, li16, li17, li18, li19, li20, li21, li22, li23, li24, li25, li26, li27, li28, li29, li30, li31, li32, li33, li34, li35, li36, li37, li38, li39, li40, li41, li42, li43, li44, li45, li46, li47, li48, li49, li50, li51, li52, li53, li54, li55, li56, li57, li58, li59, li60, li64, li72, li87, li97, li98, li99, li100, li101, li102, li103, li104, li105, li108, li109, li110, li111, li112, li114, li115, li116, li117, li119, li120, li124, li126, li132, li139, li140, li148, li156, li1000, li1092, li1248, h1, hp, e]
  · have e := cb_out (B := B) (i := p) (by omega)
    rw [if_neg (show ¬ cb B p = c by omega)]
    simp (disch := omega) only [pu_OB, pu_LET, pu_OX0, pu_BND, pu_NZ, pu_BL, pu_m1, nI_add, pk_sub, pk_mul, pk_div, nI_clamp, pu_eq, pu_ne, pu_le_t, pu_le_f, pu_lt_t, pu_lt_f, pu_nm, pu_mm, pu_u2e, pu_u2n, ↓reduceIte, li0, li1, li2, li3, li4, li5, li6, li7, li8, li9, li10, li11, li12, li13, li14, li15, li16, li17, li18, li19, li20, li21, li22, li23, li24, li25, li26, li27, li28, li29, li30, li31, li32, li33, li34, li35, li36, li37, li38, li39, li40, li41, li42, li43, li44, li45, li46, li47, li48, li49, li50, li51, li52, li53, li54, li55, li56, li57, li58, li59, li60, li64, li72, li87, li97, li98, li99, li100, li101, li102, li103, li104, li105, li108, li109, li110, li111, li112, li114, li115, li116, li117, li119, li120, li124, li126, li132, li139, li140, li148, li156, li1000, li1092, li1248, h1, hp]
theorem cl_isDig (hS : SB σ B) (hB : bOk B) (hp : σ 214 2 = nI p) (hp9 : p < 1000) : fX8_isDigitNext σ = some (nI (if dig B p = true then 1 else 0), σ) := by
  obtain ⟨h1, h2, h3⟩ := hS
  unfold fX8_isDigitNext
  by_cases hl : p < B.length
  · have e := h3 p hl
    have hb9 := cb_le hB (i := p)
    change σ 215 p = nI (cb B p) at e
    by_cases c2 : dig B p = true
    · have := dig_t.mp c2
      rw [if_pos c2]
      simp (disch := omega) only [pu_OB, pu_LET, pu_OX0, pu_BND, pu_NZ, pu_BL, pu_m1, nI_add, pk_sub, pk_mul, pk_div, nI_clamp, pu_eq, pu_ne, pu_le_t, pu_le_f, pu_lt_t, pu_lt_f, pu_nm, pu_mm, pu_u2e, pu_u2n, ↓reduceIte, li0, li1, li2, li3, li4, li5, li6, li7, li8, li9, li10, li11, li12, li13, li14, li15, li16, li17, li18, li19, li20, li21, li22, li23, li24, li25, li26, li27, li28, li29, li30, li31, li32, li33, li34, li35, li36, li37, li38, li39, li40, li41, li42, li43, li44, li45, li46, li47, li48, li49, li50, li51, li52, li53, li54, li55, li56, li57, li58, li59, li60, li64, li72, li87, li97, li98, li99, li100, li101, li102, li103, li104, li105, li108, li109, li110, li111, li112, li114, li115, li116, li117, li119, li120, li124, li126, li132, li139, li140, li148, li156, li1000, li1092, li1248, h1, hp, e]
    · have : ¬ _ := fun h => c2 (dig_t.mpr h)
      rw [if_neg c2]
      by_cases c3 : cb B p < 48
      · simp (disch := omega) only [pu_OB, pu_LET, pu_OX0, pu_BND, pu_NZ, pu_BL, pu_m1, nI_add, pk_sub, pk_mul, pk_div, nI_clamp, pu_eq, pu_ne, pu_le_t, pu_le_f, pu_lt_t, pu_lt_f, pu_nm, pu_mm, pu_u2e, pu_u2n, ↓reduceIte, li0, li1, li2, li3, li4, li5, li6, li7, li8, li9, li10, li11, li12, li13, li14, li15, li16, li17, li18, li19, li20, li21, li22, li23, li24, li25, li26, li27, li28, li29, li30, li31, li32, li33, li34, li35, li36, li37, li38, li39, li40, li41, li42, li43, li44, li45, li46, li47, li48, li49, li50, li51, li52, li53, li54, li55, li56, li57, li58, li59, li60, li64, li72, li87, li97, li98, li99, li100, li101, li102, li103, li104, li105, li108, li109, li110, li111, li112, li114, li115, li116, li117, li119, li120, li124, li126, li132, li139, li140, li148, li156, li1000, li1092, li1248, h1, hp, e]
      · simp (disch := omega) only [pu_OB, pu_LET, pu_OX0, pu_BND, pu_NZ, pu_BL, pu_m1, nI_add, pk_sub, pk_mul, pk_div, nI_clamp, pu_eq, pu_ne, pu_le_t, pu_le_f, pu_lt_t, pu_lt_f, pu_nm, pu_mm, pu_u2e, pu_u2n, ↓reduceIte, li0, li1, li2, li3, li4, li5, li6, li7, li8, li9, li10, li11, li12, li13, li14, li15, li16, li17, li18, li19, li20, li21, li22, li23, li24, li25, li26, li27, li28, li29, li30, li31, li32, li33, li34, li35, li36, li37, li38, li39, li40, li41, li42, li43, li44, li45, li46, li47, li48, li49, li50, li51, li52, li53, li54, li55, li56, li57, li58, li59, li60, li64, li72, li87, li97, li98, li99, li100, li101, li102, li103, li104, li105, li108, li109, li110, li111, li112, li114, li115, li116, li117, li119, li120, li124, li126, li132, li139, li140, li148, li156, li1000, li1092, li1248, h1, hp, e]
  · have e := cb_out (B := B) (i := p) (by omega)
    have hd9 : ¬ dig B p = true := fun h => by
      have := dig_t.mp h
      omega
    rw [if_neg hd9]
    simp (disch := omega) only [pu_OB, pu_LET, pu_OX0, pu_BND, pu_NZ, pu_BL, pu_m1, nI_add, pk_sub, pk_mul, pk_div, nI_clamp, pu_eq, pu_ne, pu_le_t, pu_le_f, pu_lt_t, pu_lt_f, pu_nm, pu_mm, pu_u2e, pu_u2n, ↓reduceIte, li0, li1, li2, li3, li4, li5, li6, li7, li8, li9, li10, li11, li12, li13, li14, li15, li16, li17, li18, li19, li20, li21, li22, li23, li24, li25, li26, li27, li28, li29, li30, li31, li32, li33, li34, li35, li36, li37, li38, li39, li40, li41, li42, li43, li44, li45, li46, li47, li48, li49, li50, li51, li52, li53, li54, li55, li56, li57, li58, li59, li60, li64, li72, li87, li97, li98, li99, li100, li101, li102, li103, li104, li105, li108, li109, li110, li111, li112, li114, li115, li116, li117, li119, li120, li124, li126, li132, li139, li140, li148, li156, li1000, li1092, li1248, h1, hp]
theorem cl_readDigit (hS : SB σ B) (hB : bOk B) (hp : σ 214 2 = nI p) (hd : dig B p = true) : fX8_readDigit σ = some (nI (cb B p - 48), u2 σ 214 2 (nI (p + 1))) := by
  obtain ⟨h1, h2, h3⟩ := hS
  have hd9 := dig_t.mp hd
  have hl := cb_lt (B := B) (i := p) (by omega)
  have e := h3 p hl
  change σ 215 p = nI (cb B p) at e
  unfold fX8_readDigit
  simp (disch := omega) only [pu_OB, pu_LET, pu_OX0, pu_BND, pu_NZ, pu_BL, pu_m1, nI_add, pk_sub, pk_mul, pk_div, nI_clamp, pu_eq, pu_ne, pu_le_t, pu_le_f, pu_lt_t, pu_lt_f, pu_nm, pu_mm, pu_u2e, pu_u2n, ↓reduceIte, li0, li1, li2, li3, li4, li5, li6, li7, li8, li9, li10, li11, li12, li13, li14, li15, li16, li17, li18, li19, li20, li21, li22, li23, li24, li25, li26, li27, li28, li29, li30, li31, li32, li33, li34, li35, li36, li37, li38, li39, li40, li41, li42, li43, li44, li45, li46, li47, li48, li49, li50, li51, li52, li53, li54, li55, li56, li57, li58, li59, li60, li64, li72, li87, li97, li98, li99, li100, li101, li102, li103, li104, li105, li108, li109, li110, li111, li112, li114, li115, li116, li117, li119, li120, li124, li126, li132, li139, li140, li148, li156, li1000, li1092, li1248, h1, hp, e]
theorem w_len {k : Nat} (hk : k < 8) : fJ0_length_8abf5 (nI k) σ = some (nI (wl k).length, σ) := by
  rcases (show k = 0 ∨ k = 1 ∨ k = 2 ∨ k = 3 ∨ k = 4 ∨ k = 5 ∨ k = 6 ∨ k = 7 by omega) with rfl | rfl | rfl | rfl | rfl | rfl | rfl | rfl
  · rfl
  · rfl
  · rfl
  · rfl
  · rfl
  · rfl
  · rfl
  · rfl
theorem w_chr0 {i : Nat} (hi : i < 5) : fJ0_charAt_5068e (nI 0) (nI i) σ = some (nI ((wl 0).getD i 0), σ) := by
  rcases (show i = 0 ∨ i = 1 ∨ i = 2 ∨ i = 3 ∨ i = 4 by omega) with rfl | rfl | rfl | rfl | rfl
  · rfl
  · rfl
  · rfl
  · rfl
  · rfl
theorem w_chr1 {i : Nat} (hi : i < 4) : fJ0_charAt_5068e (nI 1) (nI i) σ = some (nI ((wl 1).getD i 0), σ) := by
  rcases (show i = 0 ∨ i = 1 ∨ i = 2 ∨ i = 3 by omega) with rfl | rfl | rfl | rfl
  · rfl
  · rfl
  · rfl
  · rfl
theorem w_chr2 {i : Nat} (hi : i < 4) : fJ0_charAt_5068e (nI 2) (nI i) σ = some (nI ((wl 2).getD i 0), σ) := by
  rcases (show i = 0 ∨ i = 1 ∨ i = 2 ∨ i = 3 by omega) with rfl | rfl | rfl | rfl
  · rfl
  · rfl
  · rfl
  · rfl
theorem w_chr3 {i : Nat} (hi : i < 4) : fJ0_charAt_5068e (nI 3) (nI i) σ = some (nI ((wl 3).getD i 0), σ) := by
  rcases (show i = 0 ∨ i = 1 ∨ i = 2 ∨ i = 3 by omega) with rfl | rfl | rfl | rfl
  · rfl
  · rfl
  · rfl
  · rfl
theorem w_chr4 {i : Nat} (hi : i < 5) : fJ0_charAt_5068e (nI 4) (nI i) σ = some (nI ((wl 4).getD i 0), σ) := by
  rcases (show i = 0 ∨ i = 1 ∨ i = 2 ∨ i = 3 ∨ i = 4 by omega) with rfl | rfl | rfl | rfl | rfl
  · rfl
  · rfl
  · rfl
  · rfl
  · rfl
theorem w_chr5 {i : Nat} (hi : i < 7) : fJ0_charAt_5068e (nI 5) (nI i) σ = some (nI ((wl 5).getD i 0), σ) := by
  rcases (show i = 0 ∨ i = 1 ∨ i = 2 ∨ i = 3 ∨ i = 4 ∨ i = 5 ∨ i = 6 by omega) with rfl | rfl | rfl | rfl | rfl | rfl | rfl
  · rfl
  · rfl
  · rfl
  · rfl
  · rfl
  · rfl
  · rfl
theorem w_chr6 {i : Nat} (hi : i < 4) : fJ0_charAt_5068e (nI 6) (nI i) σ = some (nI ((wl 6).getD i 0), σ) := by
  rcases (show i = 0 ∨ i = 1 ∨ i = 2 ∨ i = 3 by omega) with rfl | rfl | rfl | rfl
  · rfl
  · rfl
  · rfl
  · rfl
theorem w_chr7 {i : Nat} (hi : i < 4) : fJ0_charAt_5068e (nI 7) (nI i) σ = some (nI ((wl 7).getD i 0), σ) := by
  rcases (show i = 0 ∨ i = 1 ∨ i = 2 ∨ i = 3 by omega) with rfl | rfl | rfl | rfl
  · rfl
  · rfl
  · rfl
  · rfl
theorem w_chr {k i : Nat} (hk : k < 8) (hi : i < (wl k).length) : fJ0_charAt_5068e (nI k) (nI i) σ = some (nI ((wl k).getD i 0), σ) := by
  rcases (show k = 0 ∨ k = 1 ∨ k = 2 ∨ k = 3 ∨ k = 4 ∨ k = 5 ∨ k = 6 ∨ k = 7 by omega) with rfl | rfl | rfl | rfl | rfl | rfl | rfl | rfl
  · exact w_chr0 hi
  · exact w_chr1 hi
  · exact w_chr2 hi
  · exact w_chr3 hi
  · exact w_chr4 hi
  · exact w_chr5 hi
  · exact w_chr6 hi
  · exact w_chr7 hi
theorem wl_bd {k i : Nat} : (wl k).length ≤ 7 ∧ (wl k).getD i 0 < 200 := by
  have h : ∀ k, k < 8 → (wl k).length ≤ 7 ∧ ∀ x ∈ wl k, x < 200 := by decide +kernel
  by_cases hk : k < 8
  · refine ⟨(h k hk).1, ?_⟩
    by_cases hi : i < (wl k).length
    · exact (h k hk).2 _ (ngetD_mem hi)
    · rw [List.getD_eq_getElem?_getD, List.getElem?_eq_none (by omega)]
      decide
  · have e : wl k = [] := by
      unfold wl
      rw [List.getD_eq_getElem?_getD, List.getElem?_eq_none (by simpa using hk)]
      rfl
    rw [e]
    exact ⟨Nat.zero_le _, by simp⟩
theorem cl_ml_S (r : Nat) (x1 x2 : Int32) (σ : St) : fX8_matchLength_L2 m (r + 1) x1 x2 σ = fX8_matchLength_L2b m (fX8_matchLength_L2 m r) x1 x2 σ := rfl
theorem cl_ml {k : Nat} (hF : 2000 ≤ m) (hS : SB σ B) (hB : bOk B) (hp : σ 214 2 = nI p) (hp9 : p < 1000) (hk : k < 8) : fX8_matchLength m (nI k) σ = some (nI (ml B p (wl k)), σ) := by
  have hS0 := hS
  obtain ⟨h1, h2, h3⟩ := hS
  have hwb := fun i => wl_bd (k := k) (i := i)
  have key : ∀ (w : List Nat) (r i : Nat), i + w.length = (wl k).length → (∀ j, j < w.length → w.getD j 0 = (wl k).getD (i + j) 0) → w.length < r → fX8_matchLength_L2 m r (nI k) (nI i) σ = some (nI (i + ml B (p + i) w), σ) := by
    intro w
    induction w with
    | nil =>
      intro r i e1 e2 e3
      obtain ⟨r, rfl⟩ : ∃ q, r = q + 1 := ⟨r - 1, by omega⟩
      have e1 : i = (wl k).length := e1
      have := (hwb 0).1
      have eL := w_len (σ := σ) hk
      show _ = some (nI (i + 0), σ)
      simp (disch := omega) only [pu_OB, pu_LET, pu_OX0, pu_BND, pu_NZ, pu_BL, pu_m1, nI_add, pk_sub, pk_mul, pk_div, nI_clamp, pu_eq, pu_ne, pu_le_t, pu_le_f, pu_lt_t, pu_lt_f, pu_nm, pu_mm, pu_u2e, pu_u2n, ↓reduceIte, li0, li1, li2, li3, li4, li5, li6, li7, li8, li9, li10, li11, li12, li13, li14, li15, li16, li17, li18, li19, li20, li21, li22, li23, li24, li25, li26, li27, li28, li29, li30, li31, li32, li33, li34, li35, li36, li37, li38, li39, li40, li41, li42, li43, li44, li45, li46, li47, li48, li49, li50, li51, li52, li53, li54, li55, li56, li57, li58, li59, li60, li64, li72, li87, li97, li98, li99, li100, li101, li102, li103, li104, li105, li108, li109, li110, li111, li112, li114, li115, li116, li117, li119, li120, li124, li126, li132, li139, li140, li148, li156, li1000, li1092, li1248, cl_ml_S, fX8_matchLength_L2b, eL]
      rw [e1]
      rfl
    | cons c w ih =>
      intro r i e1 e2 e3
      obtain ⟨r, rfl⟩ : ∃ q, r = q + 1 := ⟨r - 1, by omega⟩
      rw [List.length_cons] at e1 e3
      have := (hwb 0).1
      have eL := w_len (σ := σ) hk
      have eC := w_chr (σ := σ) (i := i) hk (by omega)
      have ec : c = (wl k).getD i 0 := e2 0 (by rw [List.length_cons]; omega)
      rw [← ec] at eC
      have hc := (hwb i).2
      rw [← ec] at hc
      rw [ml_c]
      by_cases hl : p + i < B.length
      · have e := h3 (p + i) hl
        have hb9 := cb_le hB (i := p + i)
        change σ 215 (p + i) = nI (cb B (p + i)) at e
        by_cases c2 : cb B (p + i) = c
        · have hi := ih r (i + 1) (by omega) (fun j hj => by
            have := e2 (j + 1) (by rw [List.length_cons]; omega)
            rw [List.getD_cons_succ] at this
            rw [this]
            exact congrArg (fun z => (wl k).getD z 0) (by omega)) (by omega)
          rw [if_pos c2]
          simp (disch := omega) only [pu_OB, pu_LET, pu_OX0, pu_BND, pu_NZ, pu_BL, pu_m1, nI_add, pk_sub, pk_mul, pk_div, nI_clamp, pu_eq, pu_ne, pu_le_t, pu_le_f, pu_lt_t, pu_lt_f, pu_nm, pu_mm, pu_u2e, pu_u2n, ↓reduceIte, li0, li1, li2, li3, li4, li5, li6, li7, li8, li9, li10, li11, li12, li13, li14, li15, li16, li17, li18, li19, li20, li21, li22, li23, li24, li25, li26, li27, li28, li29, li30, li31, li32, li33, li34, li35, li36, li37, li38, li39, li40, li41, li42, li43, li44, li45, li46, li47, li48, li49, li50, li51, li52, li53, li54, li55, li56, li57, li58, li59, li60, li64, li72, li87, li97, li98, li99, li100, li101, li102, li103, li104, li105, li108, li109, li110, li111, li112, li114, li115, li116, li117, li119, li120, li124, li126, li132, li139, li140, li148, li156, li1000, li1092, li1248, cl_ml_S, fX8_matchLength_L2b, eL, h1, hp, eC, e, c2]
          rw [hi, show p + i + 1 = p + (i + 1) by omega, show i + 1 + ml B (p + (i + 1)) w = i + (1 + ml B (p + (i + 1)) w) by omega]
        · rw [if_neg c2]
          simp (disch := omega) only [pu_OB, pu_LET, pu_OX0, pu_BND, pu_NZ, pu_BL, pu_m1, nI_add, pk_sub, pk_mul, pk_div, nI_clamp, pu_eq, pu_ne, pu_le_t, pu_le_f, pu_lt_t, pu_lt_f, pu_nm, pu_mm, pu_u2e, pu_u2n, ↓reduceIte, li0, li1, li2, li3, li4, li5, li6, li7, li8, li9, li10, li11, li12, li13, li14, li15, li16, li17, li18, li19, li20, li21, li22, li23, li24, li25, li26, li27, li28, li29, li30, li31, li32, li33, li34, li35, li36, li37, li38, li39, li40, li41, li42, li43, li44, li45, li46, li47, li48, li49, li50, li51, li52, li53, li54, li55, li56, li57, li58, li59, li60, li64, li72, li87, li97, li98, li99, li100, li101, li102, li103, li104, li105, li108, li109, li110, li111, li112, li114, li115, li116, li117, li119, li120, li124, li126, li132, li139, li140, li148, li156, li1000, li1092, li1248, cl_ml_S, fX8_matchLength_L2b, eL, h1, hp, eC, e, Nat.add_zero]
      · have e := cb_out (B := B) (i := p + i) (by omega)
        have hcp : 0 < c := by
          have h9 : ∀ k, k < 8 → ∀ x ∈ wl k, 0 < x := by decide +kernel
          rw [ec]
          exact h9 k hk _ (ngetD_mem (by omega))
        rw [if_neg (by omega)]
        simp (disch := omega) only [pu_OB, pu_LET, pu_OX0, pu_BND, pu_NZ, pu_BL, pu_m1, nI_add, pk_sub, pk_mul, pk_div, nI_clamp, pu_eq, pu_ne, pu_le_t, pu_le_f, pu_lt_t, pu_lt_f, pu_nm, pu_mm, pu_u2e, pu_u2n, ↓reduceIte, li0, li1, li2, li3, li4, li5, li6, li7, li8, li9, li10, li11, li12, li13, li14, li15, li16, li17, li18, li19, li20, li21, li22, li23, li24, li25, li26, li27, li28, li29, li30, li31, li32, li33, li34, li35, li36, li37, li38, li39, li40, li41, li42, li43, li44, li45, li46, li47, li48, li49, li50, li51, li52, li53, li54, li55, li56, li57, li58, li59, li60, li64, li72, li87, li97, li98, li99, li100, li101, li102, li103, li104, li105, li108, li109, li110, li111, li112, li114, li115, li116, li117, li119, li120, li124, li126, li132, li139, li140, li148, li156, li1000, li1092, li1248, cl_ml_S, fX8_matchLength_L2b, eL, h1, hp, Nat.add_zero]
  have h := key (wl k) m 0 (by omega) (fun j hj => by rw [Nat.zero_add]) (by have := (hwb 0).1; omega)
  rw [Nat.zero_add, Nat.add_zero] at h
  exact h
/-- the words tried one behind the other -/
def rwL (B : List Nat) (p : Nat) : Nat → Nat → Nat → Nat × Nat
  | 0, _, far => (8, p + far)
  | d + 1, k, far => if ml B p (wl k) = (wl k).length then (k, p + ml B p (wl k)) else rwL B p d (k + 1) (if far < ml B p (wl k) then ml B p (wl k) else far)
theorem rwL_S (d k far : Nat) : rwL B p (d + 1) k far = if ml B p (wl k) = (wl k).length then (k, p + ml B p (wl k)) else rwL B p d (k + 1) (if far < ml B p (wl k) then ml B p (wl k) else far) := rfl
theorem cl_rw_S (r : Nat) (x1 x2 : Int32) (σ : St) : fX8_readWord_L4 m (r + 1) x1 x2 σ = fX8_readWord_L4b m (fX8_readWord_L4 m r) x1 x2 σ := rfl
theorem cl_rw (hF : 2000 ≤ m) (hS : SB σ B) (hB : bOk B) (hp : σ 214 2 = nI p) (hp9 : p < 1000) : fX8_readWord m σ = some (if (rwL B p 8 0 0).1 = 8 then mI else nI (rwL B p 8 0 0).1, u2 σ 214 2 (nI (rwL B p 8 0 0).2)) := by
  have key : ∀ d r k far, k + d = 8 → d < r → far ≤ 7 → fX8_readWord_L4 m r (nI far) (nI k) σ = some (if (rwL B p d k far).1 = 8 then mI else nI (rwL B p d k far).1, u2 σ 214 2 (nI (rwL B p d k far).2)) := by
    intro d
    induction d with
    | zero =>
      intro r k far h1 h2 h3
      obtain ⟨r, rfl⟩ : ∃ q, r = q + 1 := ⟨r - 1, by omega⟩
      show _ = some (if (8 : Nat) = 8 then mI else _, u2 σ 214 2 (nI (p + far)))
      rw [if_pos rfl]
      simp (disch := omega) only [pu_OB, pu_LET, pu_OX0, pu_BND, pu_NZ, pu_BL, pu_m1, nI_add, pk_sub, pk_mul, pk_div, nI_clamp, pu_eq, pu_ne, pu_le_t, pu_le_f, pu_lt_t, pu_lt_f, pu_nm, pu_mm, pu_u2e, pu_u2n, ↓reduceIte, li0, li1, li2, li3, li4, li5, li6, li7, li8, li9, li10, li11, li12, li13, li14, li15, li16, li17, li18, li19, li20, li21, li22, li23, li24, li25, li26, li27, li28, li29, li30, li31, li32, li33, li34, li35, li36, li37, li38, li39, li40, li41, li42, li43, li44, li45, li46, li47, li48, li49, li50, li51, li52, li53, li54, li55, li56, li57, li58, li59, li60, li64, li72, li87, li97, li98, li99, li100, li101, li102, li103, li104, li105, li108, li109, li110, li111, li112, li114, li115, li116, li117, li119, li120, li124, li126, li132, li139, li140, li148, li156, li1000, li1092, li1248, cl_rw_S, fX8_readWord_L4b, hp]
    | succ d ih =>
      intro r k far h1 h2 h3
      obtain ⟨r, rfl⟩ : ∃ q, r = q + 1 := ⟨r - 1, by omega⟩
      have hw := wl_bd (k := k) (i := 0)
      have hml := ml_le (B := B) (w := wl k) (p := p)
      have eM := cl_ml (m := m) hF hS hB hp hp9 (show k < 8 by omega)
      have eL := w_len (σ := σ) (show k < 8 by omega)
      rw [rwL_S]
      by_cases c : ml B p (wl k) = (wl k).length
      · rw [if_pos c, if_neg (show ¬ k = 8 by omega)]
        simp (disch := omega) only [pu_OB, pu_LET, pu_OX0, pu_BND, pu_NZ, pu_BL, pu_m1, nI_add, pk_sub, pk_mul, pk_div, nI_clamp, pu_eq, pu_ne, pu_le_t, pu_le_f, pu_lt_t, pu_lt_f, pu_nm, pu_mm, pu_u2e, pu_u2n, ↓reduceIte, li0, li1, li2, li3, li4, li5, li6, li7, li8, li9, li10, li11, li12, li13, li14, li15, li16, li17, li18, li19, li20, li21, li22, li23, li24, li25, li26, li27, li28, li29, li30, li31, li32, li33, li34, li35, li36, li37, li38, li39, li40, li41, li42, li43, li44, li45, li46, li47, li48, li49, li50, li51, li52, li53, li54, li55, li56, li57, li58, li59, li60, li64, li72, li87, li97, li98, li99, li100, li101, li102, li103, li104, li105, li108, li109, li110, li111, li112, li114, li115, li116, li117, li119, li120, li124, li126, li132, li139, li140, li148, li156, li1000, li1092, li1248, cl_rw_S, fX8_readWord_L4b, eM, eL, hp]
      · rw [if_neg c]
        have hi := ih r (k + 1) (if far < ml B p (wl k) then ml B p (wl k) else far) (by omega) (by omega) (by split <;> omega)
        simp (disch := omega) only [pu_OB, pu_LET, pu_OX0, pu_BND, pu_NZ, pu_BL, pu_m1, nI_add, pk_sub, pk_mul, pk_div, nI_clamp, pu_eq, pu_ne, pu_le_t, pu_le_f, pu_lt_t, pu_lt_f, pu_nm, pu_mm, pu_u2e, pu_u2n, ↓reduceIte, li0, li1, li2, li3, li4, li5, li6, li7, li8, li9, li10, li11, li12, li13, li14, li15, li16, li17, li18, li19, li20, li21, li22, li23, li24, li25, li26, li27, li28, li29, li30, li31, li32, li33, li34, li35, li36, li37, li38, li39, li40, li41, li42, li43, li44, li45, li46, li47, li48, li49, li50, li51, li52, li53, li54, li55, li56, li57, li58, li59, li60, li64, li72, li87, li97, li98, li99, li100, li101, li102, li103, li104, li105, li108, li109, li110, li111, li112, li114, li115, li116, li117, li119, li120, li124, li126, li132, li139, li140, li148, li156, li1000, li1092, li1248, cl_rw_S, fX8_readWord_L4b, eM, eL, cl_max]
        exact hi
  exact key 8 m 0 0 (by omega) (by omega) (by omega)
/-- what the trying of the words comes to -/
theorem rw_spec : (if (rwL B p 8 0 0).1 = 8 then (8, (false, (rwL B p 8 0 0).2)) else ((rwL B p 8 0 0).1, (true, (rwL B p 8 0 0).2))) = (if (wdS B p).2.1 = true then wdS B p else (8, (false, (wdS B p).2.2))) := by
  by_cases c0 : cb B p = 110
  · have z : ∀ (c : Nat) (w : List Nat), c ≠ 110 → ml B p (c :: w) = 0 := fun c w h => by rw [ml_c, if_neg (by omega)]
    have e : ml B p (wl 0) = 1 + ml B (p + 1) [111, 105, 115, 101] := (ml_c B p 110 _).trans (if_pos c0)
    have e1 : ml B p (wl 1) = 0 := z 100 _ (by omega)
    have e2 : ml B p (wl 2) = 0 := z 103 _ (by omega)
    have e3 : ml B p (wl 3) = 0 := z 109 _ (by omega)
    have e4 : ml B p (wl 4) = 0 := z 99 _ (by omega)
    have e5 : ml B p (wl 5) = 0 := z 114 _ (by omega)
    have e6 : ml B p (wl 6) = 0 := z 115 _ (by omega)
    have e7 : ml B p (wl 7) = 0 := z 115 _ (by omega)
    have l0 : (wl 0).length = 5 := rfl
    have l1 : (wl 1).length = 4 := rfl
    have l2 : (wl 2).length = 4 := rfl
    have l3 : (wl 3).length = 4 := rfl
    have l4 : (wl 4).length = 5 := rfl
    have l5 : (wl 5).length = 7 := rfl
    have l6 : (wl 6).length = 4 := rfl
    have l7 : (wl 7).length = 4 := rfl
    have hd : wdS B p = (0, nds B [111, 105, 115, 101] (true, p + 1)) := by unfold wdS; rw [if_pos c0]
    have hl := ml_le (B := B) (w := [111, 105, 115, 101]) (p := p + 1)
    rw [hd, nds_ml]
    generalize hM : ml B (p + 1) [111, 105, 115, 101] = M at *
    have hl : M ≤ 4 := hl
    by_cases cf : M = 4
    · subst cf
      simp (disch := omega) [rwL_S, e, e1, e2, e3, e4, e5, e6, e7, l0, l1, l2, l3, l4, l5, l6, l7]
      try (split <;> omega)
    · have cf2 : ¬ 1 + M = 5 := by omega
      simp (disch := omega) [rwL_S, rwL, e, e1, e2, e3, e4, e5, e6, e7, l0, l1, l2, l3, l4, l5, l6, l7, cf, cf2]
      try (split <;> omega)
  by_cases c1 : cb B p = 100
  · have z : ∀ (c : Nat) (w : List Nat), c ≠ 100 → ml B p (c :: w) = 0 := fun c w h => by rw [ml_c, if_neg (by omega)]
    have e : ml B p (wl 1) = 1 + ml B (p + 1) [114, 111, 112] := (ml_c B p 100 _).trans (if_pos c1)
    have e0 : ml B p (wl 0) = 0 := z 110 _ (by omega)
    have e2 : ml B p (wl 2) = 0 := z 103 _ (by omega)
    have e3 : ml B p (wl 3) = 0 := z 109 _ (by omega)
    have e4 : ml B p (wl 4) = 0 := z 99 _ (by omega)
    have e5 : ml B p (wl 5) = 0 := z 114 _ (by omega)
    have e6 : ml B p (wl 6) = 0 := z 115 _ (by omega)
    have e7 : ml B p (wl 7) = 0 := z 115 _ (by omega)
    have l0 : (wl 0).length = 5 := rfl
    have l1 : (wl 1).length = 4 := rfl
    have l2 : (wl 2).length = 4 := rfl
    have l3 : (wl 3).length = 4 := rfl
    have l4 : (wl 4).length = 5 := rfl
    have l5 : (wl 5).length = 7 := rfl
    have l6 : (wl 6).length = 4 := rfl
    have l7 : (wl 7).length = 4 := rfl
    have hd : wdS B p = (1, nds B [114, 111, 112] (true, p + 1)) := by unfold wdS; rw [if_neg c0, if_pos c1]
    have hl := ml_le (B := B) (w := [114, 111, 112]) (p := p + 1)
    rw [hd, nds_ml]
    generalize hM : ml B (p + 1) [114, 111, 112] = M at *
    have hl : M ≤ 3 := hl
    by_cases cf : M = 3
    · subst cf
      simp (disch := omega) [rwL_S, e0, e, e2, e3, e4, e5, e6, e7, l0, l1, l2, l3, l4, l5, l6, l7]
      try (split <;> omega)
    · have cf2 : ¬ 1 + M = 4 := by omega
      simp (disch := omega) [rwL_S, rwL, e0, e, e2, e3, e4, e5, e6, e7, l0, l1, l2, l3, l4, l5, l6, l7, cf, cf2]
      try (split <;> omega)
  by_cases c2 : cb B p = 103
  · have z : ∀ (c : Nat) (w : List Nat), c ≠ 103 → ml B p (c :: w) = 0 := fun c w h => by rw [ml_c, if_neg (by omega)]
    have e : ml B p (wl 2) = 1 + ml B (p + 1) [101, 97, 114] := (ml_c B p 103 _).trans (if_pos c2)
    have e0 : ml B p (wl 0) = 0 := z 110 _ (by omega)
    have e1 : ml B p (wl 1) = 0 := z 100 _ (by omega)
    have e3 : ml B p (wl 3) = 0 := z 109 _ (by omega)
    have e4 : ml B p (wl 4) = 0 := z 99 _ (by omega)
    have e5 : ml B p (wl 5) = 0 := z 114 _ (by omega)
    have e6 : ml B p (wl 6) = 0 := z 115 _ (by omega)
    have e7 : ml B p (wl 7) = 0 := z 115 _ (by omega)
    have l0 : (wl 0).length = 5 := rfl
    have l1 : (wl 1).length = 4 := rfl
    have l2 : (wl 2).length = 4 := rfl
    have l3 : (wl 3).length = 4 := rfl
    have l4 : (wl 4).length = 5 := rfl
    have l5 : (wl 5).length = 7 := rfl
    have l6 : (wl 6).length = 4 := rfl
    have l7 : (wl 7).length = 4 := rfl
    have hd : wdS B p = (2, nds B [101, 97, 114] (true, p + 1)) := by unfold wdS; rw [if_neg c0, if_neg c1, if_pos c2]
    have hl := ml_le (B := B) (w := [101, 97, 114]) (p := p + 1)
    rw [hd, nds_ml]
    generalize hM : ml B (p + 1) [101, 97, 114] = M at *
    have hl : M ≤ 3 := hl
    by_cases cf : M = 3
    · subst cf
      simp (disch := omega) [rwL_S, e0, e1, e, e3, e4, e5, e6, e7, l0, l1, l2, l3, l4, l5, l6, l7]
      try (split <;> omega)
    · have cf2 : ¬ 1 + M = 4 := by omega
      simp (disch := omega) [rwL_S, rwL, e0, e1, e, e3, e4, e5, e6, e7, l0, l1, l2, l3, l4, l5, l6, l7, cf, cf2]
      try (split <;> omega)
  by_cases c3 : cb B p = 109
  · have z : ∀ (c : Nat) (w : List Nat), c ≠ 109 → ml B p (c :: w) = 0 := fun c w h => by rw [ml_c, if_neg (by omega)]
    have e : ml B p (wl 3) = 1 + ml B (p + 1) [101, 115, 104] := (ml_c B p 109 _).trans (if_pos c3)
    have e0 : ml B p (wl 0) = 0 := z 110 _ (by omega)
    have e1 : ml B p (wl 1) = 0 := z 100 _ (by omega)
    have e2 : ml B p (wl 2) = 0 := z 103 _ (by omega)
    have e4 : ml B p (wl 4) = 0 := z 99 _ (by omega)
    have e5 : ml B p (wl 5) = 0 := z 114 _ (by omega)
    have e6 : ml B p (wl 6) = 0 := z 115 _ (by omega)
    have e7 : ml B p (wl 7) = 0 := z 115 _ (by omega)
    have l0 : (wl 0).length = 5 := rfl
    have l1 : (wl 1).length = 4 := rfl
    have l2 : (wl 2).length = 4 := rfl
    have l3 : (wl 3).length = 4 := rfl
    have l4 : (wl 4).length = 5 := rfl
    have l5 : (wl 5).length = 7 := rfl
    have l6 : (wl 6).length = 4 := rfl
    have l7 : (wl 7).length = 4 := rfl
    have hd : wdS B p = (3, nds B [101, 115, 104] (true, p + 1)) := by unfold wdS; rw [if_neg c0, if_neg c1, if_neg c2, if_pos c3]
    have hl := ml_le (B := B) (w := [101, 115, 104]) (p := p + 1)
    rw [hd, nds_ml]
    generalize hM : ml B (p + 1) [101, 115, 104] = M at *
    have hl : M ≤ 3 := hl
    by_cases cf : M = 3
    · subst cf
      simp (disch := omega) [rwL_S, e0, e1, e2, e, e4, e5, e6, e7, l0, l1, l2, l3, l4, l5, l6, l7]
      try (split <;> omega)
    · have cf2 : ¬ 1 + M = 4 := by omega
      simp (disch := omega) [rwL_S, rwL, e0, e1, e2, e, e4, e5, e6, e7, l0, l1, l2, l3, l4, l5, l6, l7, cf, cf2]
      try (split <;> omega)
  by_cases c4 : cb B p = 99
  · have z : ∀ (c : Nat) (w : List Nat), c ≠ 99 → ml B p (c :: w) = 0 := fun c w h => by rw [ml_c, if_neg (by omega)]
    have e : ml B p (wl 4) = 1 + ml B (p + 1) [108, 101, 97, 114] := (ml_c B p 99 _).trans (if_pos c4)
    have e0 : ml B p (wl 0) = 0 := z 110 _ (by omega)
    have e1 : ml B p (wl 1) = 0 := z 100 _ (by omega)
    have e2 : ml B p (wl 2) = 0 := z 103 _ (by omega)
    have e3 : ml B p (wl 3) = 0 := z 109 _ (by omega)
    have e5 : ml B p (wl 5) = 0 := z 114 _ (by omega)
    have e6 : ml B p (wl 6) = 0 := z 115 _ (by omega)
    have e7 : ml B p (wl 7) = 0 := z 115 _ (by omega)
    have l0 : (wl 0).length = 5 := rfl
    have l1 : (wl 1).length = 4 := rfl
    have l2 : (wl 2).length = 4 := rfl
    have l3 : (wl 3).length = 4 := rfl
    have l4 : (wl 4).length = 5 := rfl
    have l5 : (wl 5).length = 7 := rfl
    have l6 : (wl 6).length = 4 := rfl
    have l7 : (wl 7).length = 4 := rfl
    have hd : wdS B p = (4, nds B [108, 101, 97, 114] (true, p + 1)) := by unfold wdS; rw [if_neg c0, if_neg c1, if_neg c2, if_neg c3, if_pos c4]
    have hl := ml_le (B := B) (w := [108, 101, 97, 114]) (p := p + 1)
    rw [hd, nds_ml]
    generalize hM : ml B (p + 1) [108, 101, 97, 114] = M at *
    have hl : M ≤ 4 := hl
    by_cases cf : M = 4
    · subst cf
      simp (disch := omega) [rwL_S, e0, e1, e2, e3, e, e5, e6, e7, l0, l1, l2, l3, l4, l5, l6, l7]
      try (split <;> omega)
    · have cf2 : ¬ 1 + M = 5 := by omega
      simp (disch := omega) [rwL_S, rwL, e0, e1, e2, e3, e, e5, e6, e7, l0, l1, l2, l3, l4, l5, l6, l7, cf, cf2]
      try (split <;> omega)
  by_cases c5 : cb B p = 114
  · have z : ∀ (c : Nat) (w : List Nat), c ≠ 114 → ml B p (c :: w) = 0 := fun c w h => by rw [ml_c, if_neg (by omega)]
    have e : ml B p (wl 5) = 1 + ml B (p + 1) [101, 108, 101, 97, 115, 101] := (ml_c B p 114 _).trans (if_pos c5)
    have e0 : ml B p (wl 0) = 0 := z 110 _ (by omega)
    have e1 : ml B p (wl 1) = 0 := z 100 _ (by omega)
    have e2 : ml B p (wl 2) = 0 := z 103 _ (by omega)
    have e3 : ml B p (wl 3) = 0 := z 109 _ (by omega)
    have e4 : ml B p (wl 4) = 0 := z 99 _ (by omega)
    have e6 : ml B p (wl 6) = 0 := z 115 _ (by omega)
    have e7 : ml B p (wl 7) = 0 := z 115 _ (by omega)
    have l0 : (wl 0).length = 5 := rfl
    have l1 : (wl 1).length = 4 := rfl
    have l2 : (wl 2).length = 4 := rfl
    have l3 : (wl 3).length = 4 := rfl
    have l4 : (wl 4).length = 5 := rfl
    have l5 : (wl 5).length = 7 := rfl
    have l6 : (wl 6).length = 4 := rfl
    have l7 : (wl 7).length = 4 := rfl
    have hd : wdS B p = (5, nds B [101, 108, 101, 97, 115, 101] (true, p + 1)) := by unfold wdS; rw [if_neg c0, if_neg c1, if_neg c2, if_neg c3, if_neg c4, if_pos c5]
    have hl := ml_le (B := B) (w := [101, 108, 101, 97, 115, 101]) (p := p + 1)
    rw [hd, nds_ml]
    generalize hM : ml B (p + 1) [101, 108, 101, 97, 115, 101] = M at *
    have hl : M ≤ 6 := hl
    by_cases cf : M = 6
    · subst cf
      simp (disch := omega) [rwL_S, e0, e1, e2, e3, e4, e, e6, e7, l0, l1, l2, l3, l4, l5, l6, l7]
      try (split <;> omega)
    · have cf2 : ¬ 1 + M = 7 := by omega
      simp (disch := omega) [rwL_S, rwL, e0, e1, e2, e3, e4, e, e6, e7, l0, l1, l2, l3, l4, l5, l6, l7, cf, cf2]
      try (split <;> omega)
  by_cases cs : cb B p = 115
  · have z : ∀ (c : Nat) (w : List Nat), c ≠ 115 → ml B p (c :: w) = 0 := fun c w h => by rw [ml_c, if_neg (by omega)]
    have e0 : ml B p (wl 0) = 0 := z 110 _ (by omega)
    have e1 : ml B p (wl 1) = 0 := z 100 _ (by omega)
    have e2 : ml B p (wl 2) = 0 := z 103 _ (by omega)
    have e3 : ml B p (wl 3) = 0 := z 109 _ (by omega)
    have e4 : ml B p (wl 4) = 0 := z 99 _ (by omega)
    have e5 : ml B p (wl 5) = 0 := z 114 _ (by omega)
    have l0 : (wl 0).length = 5 := rfl
    have l1 : (wl 1).length = 4 := rfl
    have l2 : (wl 2).length = 4 := rfl
    have l3 : (wl 3).length = 4 := rfl
    have l4 : (wl 4).length = 5 := rfl
    have l5 : (wl 5).length = 7 := rfl
    have l6 : (wl 6).length = 4 := rfl
    have l7 : (wl 7).length = 4 := rfl
    have g6 : ml B p (wl 6) = 1 + ml B (p + 1) [104, 105, 112] := (ml_c B p 115 _).trans (if_pos cs)
    have g7 : ml B p (wl 7) = 1 + ml B (p + 1) [116, 101, 112] := (ml_c B p 115 _).trans (if_pos cs)
    by_cases ch : cb B (p + 1) = 104
    · have hd : wdS B p = (6, nds B [104, 105, 112] (true, p + 1)) := by unfold wdS; rw [if_neg c0, if_neg c1, if_neg c2, if_neg c3, if_neg c4, if_neg c5, if_pos cs, if_pos ch]
      have o : ml B (p + 1) [116, 101, 112] = 0 := by rw [ml_c, if_neg (by omega)]
      have hl := ml_le (B := B) (w := [104, 105, 112]) (p := p + 1)
      rw [o] at g7
      rw [hd, nds_ml]
      generalize hM : ml B (p + 1) [104, 105, 112] = M at *
      have hl : M ≤ 3 := hl
      by_cases cf : M = 3
      · subst cf
        simp (disch := omega) [rwL_S, e0, e1, e2, e3, e4, e5, g6, g7, l0, l1, l2, l3, l4, l5, l6, l7]
        try (split <;> omega)
      · have cf2 : ¬ 1 + M = 4 := by omega
        simp (disch := omega) [rwL_S, rwL, e0, e1, e2, e3, e4, e5, g6, g7, l0, l1, l2, l3, l4, l5, l6, l7, cf, cf2]
        try (split <;> omega)
    · have hd : wdS B p = (7, nds B [116, 101, 112] (true, p + 1)) := by unfold wdS; rw [if_neg c0, if_neg c1, if_neg c2, if_neg c3, if_neg c4, if_neg c5, if_pos cs, if_neg ch]
      have o : ml B (p + 1) [104, 105, 112] = 0 := by rw [ml_c, if_neg ch]
      have hl := ml_le (B := B) (w := [116, 101, 112]) (p := p + 1)
      rw [o] at g6
      rw [hd, nds_ml]
      generalize hM : ml B (p + 1) [116, 101, 112] = M at *
      have hl : M ≤ 3 := hl
      by_cases cf : M = 3
      · subst cf
        simp (disch := omega) [rwL_S, e0, e1, e2, e3, e4, e5, g6, g7, l0, l1, l2, l3, l4, l5, l6, l7]
        try (split <;> omega)
      · have cf2 : ¬ 1 + M = 4 := by omega
        simp (disch := omega) [rwL_S, rwL, e0, e1, e2, e3, e4, e5, g6, g7, l0, l1, l2, l3, l4, l5, l6, l7, cf, cf2]
        try (split <;> omega)
  have z : ∀ (k : Nat), k < 8 → ml B p (wl k) = 0 := fun k hk => by
    rcases (show k = 0 ∨ k = 1 ∨ k = 2 ∨ k = 3 ∨ k = 4 ∨ k = 5 ∨ k = 6 ∨ k = 7 by omega) with rfl | rfl | rfl | rfl | rfl | rfl | rfl | rfl
    · exact (ml_c B p 110 _).trans (if_neg (by omega))
    · exact (ml_c B p 100 _).trans (if_neg (by omega))
    · exact (ml_c B p 103 _).trans (if_neg (by omega))
    · exact (ml_c B p 109 _).trans (if_neg (by omega))
    · exact (ml_c B p 99 _).trans (if_neg (by omega))
    · exact (ml_c B p 114 _).trans (if_neg (by omega))
    · exact (ml_c B p 115 _).trans (if_neg (by omega))
    · exact (ml_c B p 115 _).trans (if_neg (by omega))
  have l0 : (wl 0).length = 5 := rfl
  have l1 : (wl 1).length = 4 := rfl
  have l2 : (wl 2).length = 4 := rfl
  have l3 : (wl 3).length = 4 := rfl
  have l4 : (wl 4).length = 5 := rfl
  have l5 : (wl 5).length = 7 := rfl
  have l6 : (wl 6).length = 4 := rfl
  have l7 : (wl 7).length = 4 := rfl
  have hd : wdS B p = (8, (false, p)) := by unfold wdS; rw [if_neg c0, if_neg c1, if_neg c2, if_neg c3, if_neg c4, if_neg c5, if_neg cs]
  rw [hd]
  simp (disch := omega) [rwL_S, rwL, z 0, z 1, z 2, z 3, z 4, z 5, z 6, z 7, l0, l1, l2, l3, l4, l5, l6, l7]
end SP

