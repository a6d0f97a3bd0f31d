-- ===== a wheel's act keeps the bounds; the reference does it =====
theorem gdSc_o {sc : Nat → Nat} {w j : Nat} {e : E4} (h : j ≠ 10 + w ∧ j ≠ 3 ∧ j ≠ 64 + e.2.1) : gdSc sc w e j = sc j := by
  unfold gdSc
  rw [upN_n h.2.2, upN_n h.2.1, upN_n h.1]
theorem saSc_o {sc : Nat → Nat} {b gr j : Nat} (h : j ≠ 4 ∧ j ≠ 5 ∧ j ≠ 28 + saG sc b ∧ j ≠ 32 + 4 * b + saG sc b) : saSc sc b gr j = sc j := by
  unfold saSc
  rw [upN_n h.2.2.2, upN_n h.2.2.1, upN_n h.2.1, upN_n h.1]
theorem fiSc_o {sc : Nat → Nat} {w n j : Nat} (hw : w < 3) (h : j ≠ 6 ∧ j ≠ 13 + w ∧ j < 132) : fiSc sc w n j = sc j := by
  unfold fiSc
  rw [upN_n h.2.1, upN_n h.1, upN_n (by omega), upN_n (by omega), upN_n (by omega)]
theorem IS.sc {sc sd : Nat → Nat} {u T N : Nat} (h : IS sc u T N) (hs : ∀ j, j < 13 ∨ 16 ≤ j ∧ j < 72 → sd j = sc j) : IS sd u T N := by
  obtain ⟨h1, h2, h3, h4, h5⟩ := h
  refine ⟨?_, fun w hw => ?_, fun b hb9 => ?_, fun g hg => ?_, ?_⟩
  · rw [hs 0 (by omega), hs 1 (by omega), hs 3 (by omega), hs 6 (by omega)]
    exact h1
  · rw [hs (7 + w) (by omega), hs (10 + w) (by omega)]
    exact h2 w hw
  · rw [hs (16 + b) (by omega), hs (64 + b) (by omega)]
    exact h3 b hb9
  · rw [hs (28 + g) (by omega), hs (24 + g) (by omega), sumF_same (g := fun b => sd (32 + 4 * b + g)) (f := fun b => sc (32 + 4 * b + g)) fun j _ hj => hs _ (by omega)]
    exact h4 g hg
  · rw [hs 3 (by omega), hs 4 (by omega), hs 5 (by omega), sumF_same (g := fun r => sd (32 + r)) (f := fun r => sc (32 + r)) fun j _ hj => hs _ (by omega)]
    exact h5
/-- the scalars when a wheel grinds -/
theorem IS_grind {sc : Nat → Nat} {u T N w : Nat} {e : E4} (h : IS sc (u + 1) T N) (hw : w < 3) (hj : sc (10 + w) < 12) (hb9 : e.2.1 < 8) : IS (saSc (gdSc sc w e) e.2.1 (grA sc w e)) u T N ∧ saSc (gdSc sc w e) e.2.1 (grA sc w e) 6 + u + 1 ≤ 3 * saSc (gdSc sc w e) e.2.1 (grA sc w e) 0 := by
  obtain ⟨h1, h2, h3, h4, h5⟩ := h
  obtain ⟨b1, b2⟩ := (h3 e.2.1 hb9)
  obtain ⟨g1, g2, g3⟩ := h2 w hw
  have hgr : grA sc w e ≤ 10 := by
    unfold grA
    split <;> omega
  have hG : saG sc e.2.1 < 4 := by unfold saG; omega
  have eG : saG (gdSc sc w e) e.2.1 = saG sc e.2.1 := by
    unfold saG
    rw [gdSc_o (by omega)]
  have bd := sa_bd (sc := gdSc sc w e) (b := e.2.1) (gr := grA sc w e) (by rw [gdSc_o (by omega)]; exact b1) (by rw [eG, gdSc_o (by omega)]; exact (h4 _ hG).1) (by omega)
  rw [eG] at bd
  have e28 : gdSc sc w e (28 + saG sc e.2.1) = sc (28 + saG sc e.2.1) := gdSc_o (by omega)
  rw [e28] at bd
  generalize hl9 : saL (gdSc sc w e) e.2.1 (grA sc w e) = lo at bd
  generalize hs9 : saS (gdSc sc w e) e.2.1 (grA sc w e) = sa at bd
  have rd : ∀ j, j ≠ 4 → j ≠ 5 → j ≠ 28 + saG sc e.2.1 → j ≠ 32 + 4 * e.2.1 + saG sc e.2.1 → j ≠ 10 + w → j ≠ 3 → j ≠ 64 + e.2.1 → saSc (gdSc sc w e) e.2.1 (grA sc w e) j = sc j := fun j q1 q2 q3 q4 q5 q6 q7 => by
    rw [saSc_o ⟨q1, q2, by rw [eG]; exact q3, by rw [eG]; exact q4⟩, gdSc_o ⟨q5, q6, q7⟩]
  have r3 : saSc (gdSc sc w e) e.2.1 (grA sc w e) 3 = sc 3 + grA sc w e := by
    rw [saSc_o (by omega)]
    unfold gdSc
    rw [upN_n (by omega), upN_e rfl]
  have r4 : saSc (gdSc sc w e) e.2.1 (grA sc w e) 4 = sc 4 + lo := by
    unfold saSc
    rw [upN_n (by omega), upN_n (by omega), upN_n (by omega), upN_e rfl, hl9, gdSc_o (by omega)]
  have r5 : saSc (gdSc sc w e) e.2.1 (grA sc w e) 5 = sc 5 + (grA sc w e - lo - sa) := by
    unfold saSc
    rw [upN_n (by omega), upN_n (by omega), upN_e rfl, hl9, hs9, gdSc_o (by omega)]
  have r28 : saSc (gdSc sc w e) e.2.1 (grA sc w e) (28 + saG sc e.2.1) = sc (28 + saG sc e.2.1) + sa := by
    unfold saSc
    rw [upN_n (by omega), eG, upN_e rfl, hs9, e28]
  have r32 : saSc (gdSc sc w e) e.2.1 (grA sc w e) (32 + 4 * e.2.1 + saG sc e.2.1) = sc (32 + 4 * e.2.1 + saG sc e.2.1) + sa := by
    unfold saSc
    rw [upN_e (by rw [eG]), eG, hs9, gdSc_o (by omega)]
  have r64 : saSc (gdSc sc w e) e.2.1 (grA sc w e) (64 + e.2.1) = 1 := by
    rw [saSc_o (by rw [eG]; omega)]
    unfold gdSc
    rw [upN_e rfl]
  have rw9 : saSc (gdSc sc w e) e.2.1 (grA sc w e) (10 + w) = sc (10 + w) + sc (7 + w) := by
    rw [saSc_o (by rw [eG]; omega)]
    unfold gdSc
    rw [upN_n (by omega), upN_n (by omega), upN_e rfl]
  have r0 := rd 0 (by omega) (by omega) (by omega) (by omega) (by omega) (by omega) (by omega)
  have r1 := rd 1 (by omega) (by omega) (by omega) (by omega) (by omega) (by omega) (by omega)
  have r6 := rd 6 (by omega) (by omega) (by omega) (by omega) (by omega) (by omega) (by omega)
  refine ⟨⟨?_, fun v hv => ?_, fun b hb8 => ?_, fun g hg => ?_, ?_⟩, ?_⟩
  · rw [r0, r1, r3, r6]
    omega
  · rw [rd (7 + v) (by omega) (by omega) (by omega) (by omega) (by omega) (by omega) (by omega)]
    by_cases c : v = w
    · subst c
      rw [rw9]
      omega
    · rw [rd (10 + v) (by omega) (by omega) (by omega) (by omega) (by omega) (by omega) (by omega)]
      exact h2 v hv
  · rw [rd (16 + b) (by omega) (by omega) (by omega) (by omega) (by omega) (by omega) (by omega)]
    by_cases c : b = e.2.1
    · subst c
      rw [r64]
      omega
    · rw [rd (64 + b) (by omega) (by omega) (by omega) (by omega) (by omega) (by omega) (by omega)]
      exact h3 b hb8
  · rw [rd (24 + g) (by omega) (by omega) (by omega) (by omega) (by omega) (by omega) (by omega)]
    by_cases c : g = saG sc e.2.1
    · subst c
      rw [r28, sumF_upd (f := fun b => sc (32 + 4 * b + saG sc e.2.1)) (k := e.2.1) (v := sa) (by omega) (by omega) (fun j _ _ hj => rd _ (by omega) (by omega) (by omega) (by omega) (by omega) (by omega) (by omega)) r32]
      have := h4 _ hg
      omega
    · rw [rd (28 + g) (by omega) (by omega) (by omega) (by omega) (by omega) (by omega) (by omega), sumF_same (g := fun b => saSc (gdSc sc w e) e.2.1 (grA sc w e) (32 + 4 * b + g)) (f := fun b => sc (32 + 4 * b + g)) fun j _ hj => rd _ (by omega) (by omega) (by omega) (by omega) (by omega) (by omega) (by omega)]
      exact h4 g hg
  · rw [r3, r4, r5, sumF_upd (f := fun r => sc (32 + r)) (k := 4 * e.2.1 + saG sc e.2.1) (v := sa) (by omega) (by omega) (fun j _ _ hj => rd _ (by omega) (by omega) (by omega) (by omega) (by omega) (by omega) (by omega)) ?_]
    · omega
    · show saSc (gdSc sc w e) e.2.1 (grA sc w e) (32 + (4 * e.2.1 + saG sc e.2.1)) = _
      rw [← Nat.add_assoc]
      exact r32
  · rw [r6, r0]
    omega
theorem spGrind_inv {A : AM} {u T N w p : Nat} (hI : IN A.1 A.2) (hS : IS A.1 (u + 1) T N) (hw : w < 3) (hj : A.1 (10 + w) < 12) (hp : p < A.2.length) (hh : A.1 (13 + w) = (A.2.getD p z4).1 + 1) : IN (spGrind A w p).1 (spGrind A w p).2 ∧ IS (spGrind A w p).1 u T N := by
  have he := hI.at hp
  obtain ⟨hs1, hs2⟩ := IS_grind (e := A.2.getD p z4) hS hw hj he.2.1
  have hG : saG (gdSc A.1 w (A.2.getD p z4)) (A.2.getD p z4).2.1 < 4 := by
    have := (hS.2.2.1 _ he.2.1).1
    unfold saG
    rw [gdSc_o (by omega)]
    omega
  have rd : ∀ j, j = 1 ∨ 13 ≤ j ∧ j < 16 → saSc (gdSc A.1 w (A.2.getD p z4)) (A.2.getD p z4).2.1 (grA A.1 w (A.2.getD p z4)) j = A.1 j := fun j q => by
    rw [saSc_o (by omega), gdSc_o (by omega)]
  have hI2 : IN (saSc (gdSc A.1 w (A.2.getD p z4)) (A.2.getD p z4).2.1 (grA A.1 w (A.2.getD p z4))) A.2 := hI.sc (by rw [rd 1 (by omega)]; exact Nat.le_refl _) fun v hv => rd _ (by omega)
  have hh2 : saSc (gdSc A.1 w (A.2.getD p z4)) (A.2.getD p z4).2.1 (grA A.1 w (A.2.getD p z4)) (13 + w) = (A.2.getD p z4).1 + 1 := by rw [rd _ (by omega), hh]
  unfold spGrind
  by_cases c : (A.2.getD p z4).2.2.2 ≤ 2 * A.1 (7 + w)
  · rw [if_pos c]
    generalize hX : saSc (gdSc A.1 w (A.2.getD p z4)) (A.2.getD p z4).2.1 (grA A.1 w (A.2.getD p z4)) = X at hs1 hs2 hI2 hh2
    have q6 : X 6 % 8 < 8 := Nat.mod_lt _ (by omega)
    refine ⟨?_, ?_⟩
    · refine (IN_done (sc := upN (upN (upN (upN X (132 + X 6 % 8) (A.2.getD p z4).1) (140 + X 6 % 8) w) (148 + X 6 % 8) (X 0)) 6 (X 6 + 1)) ?_ (er_perm hp) hw ?_).1
      · refine hI2.sc ?_ fun v hv => ?_
        · rw [upN_n (by omega), upN_n (by omega), upN_n (by omega), upN_n (by omega)]
          exact Nat.le_refl _
        · rw [upN_n (by omega), upN_n (by omega), upN_n (by omega), upN_n (by omega)]
      · rw [upN_n (by omega), upN_n (by omega), upN_n (by omega), upN_n (by omega), hh2]
    · obtain ⟨h1, h2, h3, h4, h5⟩ := hs1
      have f0 := fiSc_o (sc := X) (w := w) (n := (A.2.getD p z4).1) (j := 0) hw (by omega)
      have f6 : fiSc X w (A.2.getD p z4).1 6 = X 6 + 1 := by
        unfold fiSc
        rw [upN_n (by omega), upN_e rfl]
      refine ⟨?_, fun v hv => ?_, fun b hb8 => ?_, fun g hg => ?_, ?_⟩
      · show fiSc X w (A.2.getD p z4).1 0 ≤ T ∧ fiSc X w (A.2.getD p z4).1 1 ≤ N ∧ fiSc X w (A.2.getD p z4).1 3 + 10 * u ≤ 30 * fiSc X w (A.2.getD p z4).1 0 ∧ fiSc X w (A.2.getD p z4).1 6 + u ≤ 3 * fiSc X w (A.2.getD p z4).1 0
        rw [f0, f6, fiSc_o hw (by omega), fiSc_o hw (by omega)]
        omega
      · show 1 ≤ fiSc X w (A.2.getD p z4).1 (7 + v) ∧ fiSc X w (A.2.getD p z4).1 (7 + v) ≤ 5 ∧ fiSc X w (A.2.getD p z4).1 (10 + v) ≤ 16
        rw [fiSc_o hw (by omega), fiSc_o hw (by omega)]
        exact h2 v hv
      · show fiSc X w (A.2.getD p z4).1 (16 + b) ≤ 9 ∧ fiSc X w (A.2.getD p z4).1 (64 + b) ≤ 1
        rw [fiSc_o hw (by omega), fiSc_o hw (by omega)]
        exact h3 b hb8
      · show fiSc X w (A.2.getD p z4).1 (28 + g) ≤ 139 ∧ fiSc X w (A.2.getD p z4).1 (28 + g) + 20 * fiSc X w (A.2.getD p z4).1 (24 + g) = sumF (fun b => fiSc X w (A.2.getD p z4).1 (32 + 4 * b + g)) 0 8
        rw [fiSc_o hw (by omega), fiSc_o hw (by omega), sumF_same (f := fun b => X (32 + 4 * b + g)) fun j _ hj9 => fiSc_o hw (by omega)]
        exact h4 g hg
      · show fiSc X w (A.2.getD p z4).1 3 = sumF (fun r => fiSc X w (A.2.getD p z4).1 (32 + r)) 0 32 + fiSc X w (A.2.getD p z4).1 4 + fiSc X w (A.2.getD p z4).1 5
        rw [fiSc_o hw (by omega), fiSc_o hw (by omega), fiSc_o hw (by omega), sumF_same (f := fun r => X (32 + r)) fun j _ hj9 => fiSc_o hw (by omega)]
        exact h5
  · rw [if_neg c]
    refine ⟨(IN_set hI2 hp hw hh2 ⟨by omega, by omega⟩).1, hs1⟩
theorem IS.weak {sc : Nat → Nat} {u T N : Nat} (h : IS sc (u + 1) T N) : IS sc u T N := ⟨by have := h.1; omega, h.2⟩
theorem spAct_inv {A : AM} {u T N w : Nat} (hI : IN A.1 A.2) (hS : IS A.1 (u + 1) T N) (hw : w < 3) : IN (spAct A w).1 (spAct A w).2 ∧ IS (spAct A w).1 u T N := by
  rcases spAct_cases hI hw with ⟨-, e⟩ | ⟨-, -, -, e⟩ | ⟨c1, c2, p, hp, hwt, hr, e⟩ | ⟨c1, p, hp, hh, e⟩
  · rw [e]
    exact ⟨hI, hS.weak⟩
  · rw [e]
    exact ⟨hI, hS.weak⟩
  · rw [e]
    refine spGrind_inv (IN_hold hI (getD_mem hp) hw c2 hwt).1 (hS.sc fun j hj => upN_n (by omega)) hw ?_ hp (upN_e rfl)
    show upN A.1 (13 + w) _ (10 + w) < 12
    rw [upN_n (by omega)]
    exact c1
  · rw [e]
    exact spGrind_inv hI hS hw c1 hp hh
theorem tick_inv {A : AM} {T N : Nat} (hI : IN A.1 A.2) (hS : IS A.1 0 T N) : IN (upN A.1 0 (A.1 0 + 1)) A.2 ∧ IS (upN A.1 0 (A.1 0 + 1)) 3 (T + 1) N := by
  refine ⟨hI.sc (by rw [upN_n (by omega)]; exact Nat.le_refl _) fun w hw => upN_n (by omega), ?_⟩
  obtain ⟨h1, h2, h3, h4, h5⟩ := hS
  refine ⟨?_, fun w hw => ?_, fun b hb9 => ?_, fun g hg => ?_, ?_⟩
  · rw [upN_e rfl, upN_n (by omega), upN_n (by omega), upN_n (by omega)]
    omega
  · rw [upN_n (by omega), upN_n (by omega)]
    exact h2 w hw
  · rw [upN_n (by omega), upN_n (by omega)]
    exact h3 b hb9
  · rw [upN_n (by omega), upN_n (by omega), sumF_same (f := fun b => A.1 (32 + 4 * b + g)) fun j _ hj => upN_n (by omega)]
    exact h4 g hg
  · rw [upN_n (by omega), upN_n (by omega), upN_n (by omega), sumF_same (f := fun r => A.1 (32 + r)) fun j _ hj => upN_n (by omega)]
    exact h5
theorem spStep_inv {A : AM} {T N : Nat} (hI : IN A.1 A.2) (hS : IS A.1 0 T N) : IN (spStep A).1 (spStep A).2 ∧ IS (spStep A).1 0 (T + 1) N := by
  have t0 := tick_inv hI hS
  have t1 := spAct_inv (A := (upN A.1 0 (A.1 0 + 1), A.2)) (w := 0) t0.1 t0.2 (by omega)
  have t2 := spAct_inv (w := 1) t1.1 t1.2 (by omega)
  exact spAct_inv (w := 2) t2.1 t2.2 (by omega)
theorem spN_inv {T N : Nat} : ∀ {n : Nat} {A : AM}, IN A.1 A.2 → IS A.1 0 T N → IN (spN n A).1 (spN n A).2 ∧ IS (spN n A).1 0 (T + n) N := by
  intro n
  induction n generalizing T with
  | zero => exact fun hI hS => ⟨hI, hS⟩
  | succ n ih =>
    intro A hI hS
    have h1 := spStep_inv hI hS
    have h2 := ih h1.1 h1.2
    refine ⟨h2.1, ?_⟩
    rw [show T + (n + 1) = T + 1 + n by omega]
    exact h2.2
section RF
variable {s : St} {m : Nat}
end RF

