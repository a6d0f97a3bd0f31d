-- ===== a wheel's act keeps the bounds; the reference does it =====
theorem gdSc_o {sc : Nat → Nat} {w j : Nat} {e : E4} (h : j ≠ 10 + w ∧ j ≠ 3 ∧ j ≠ 64 + e.2.1) : gdSc sc w e j = sc j := by
  unfold gdSc
  rw [upN_n h.2.2, upN_n h.2.1, upN_n h.1]
theorem saSc_o {sc : Nat → Nat} {b gr j : Nat} (h : j ≠ 4 ∧ j ≠ 5 ∧ j ≠ 28 + saG sc b ∧ j ≠ 32 + 4 * b + saG sc b) : saSc sc b gr j = sc j := by
  unfold saSc
  rw [upN_n h.2.2.2, upN_n h.2.2.1, upN_n h.2.1, upN_n h.1]
theorem fiSc_o {sc : Nat → Nat} {w n j : Nat} (hw : w < 3) (h : j ≠ 6 ∧ j ≠ 13 + w ∧ j < 132) : fiSc sc w n j = sc j := by
  unfold fiSc
  rw [upN_n h.2.1, upN_n h.1, upN_n (by omega), upN_n (by omega), upN_n (by omega)]
theorem IS.sc {sc sd : Nat → Nat} {u T N : Nat} (h : IS sc u T N) (hs : ∀ j, j < 13 ∨ 16 ≤ j ∧ j < 72 → sd j = sc j) : IS sd u T N := by
  obtain ⟨h1, h2, h3, h4, h5⟩ := h
  refine ⟨?_, fun w hw => ?_, fun b hb9 => ?_, fun g hg => ?_, ?_⟩
  · rw [hs 0 (by omega), hs 1 (by omega), hs 3 (by omega), hs 6 (by omega)]
    exact h1
  · rw [hs (7 + w) (by omega), hs (10 + w) (by omega)]
    exact h2 w hw
  · rw [hs (16 + b) (by omega), hs (64 + b) (by omega)]
    exact h3 b hb9
  · rw [hs (28 + g) (by omega), hs (24 + g) (by omega), sumF_same (g := fun b => sd (32 + 4 * b + g)) (f := fun b => sc (32 + 4 * b + g)) fun j _ hj => hs _ (by omega)]
    exact h4 g hg
  · rw [hs 3 (by omega), hs 4 (by omega), hs 5 (by omega), sumF_same (g := fun r => sd (32 + r)) (f := fun r => sc (32 + r)) fun j _ hj => hs _ (by omega)]
    exact h5
/-- the scalars when a wheel grinds -/
theorem IS_grind {sc : Nat → Nat} {u T N w : Nat} {e : E4} (h : IS sc (u + 1) T N) (hw : w < 3) (hj : sc (10 + w) < 12) (hb9 : e.2.1 < 8) : IS (saSc (gdSc sc w e) e.2.1 (grA sc w e)) u T N ∧ saSc (gdSc sc w e) e.2.1 (grA sc w e) 6 + u + 1 ≤ 3 * saSc (gdSc sc w e) e.2.1 (grA sc w e) 0 := by
  obtain ⟨h1, h2, h3, h4, h5⟩ := h
  obtain ⟨b1, b2⟩ := (h3 e.2.1 hb9)
  obtain ⟨g1, g2, g3⟩ := h2 w hw
  have hgr : grA sc w e ≤ 10 := by
    unfold grA
    split <;> omega
  have hG : saG sc e.2.1 < 4 := by unfold saG; omega
  have eG : saG (gdSc sc w e) e.2.1 = saG sc e.2.1 := by
    unfold saG
    rw [gdSc_o (by omega)]
  have bd := sa_bd (sc := gdSc sc w e) (b := e.2.1) (gr := grA sc w e) (by rw [gdSc_o (by omega)]; exact b1) (by rw [eG, gdSc_o (by omega)]; exact (h4 _ hG).1) (by omega)
  rw [eG] at bd
  have e28 : gdSc sc w e (28 + saG sc e.2.1) = sc (28 + saG sc e.2.1) := gdSc_o (by omega)
  rw [e28] at bd
  generalize hl9 : saL (gdSc sc w e) e.2.1 (grA sc w e) = lo at bd
  generalize hs9 : saS (gdSc sc w e) e.2.1 (grA sc w e) = sa at bd
  have rd : ∀ j, j ≠ 4 → j ≠ 5 → j ≠ 28 + saG sc e.2.1 → j ≠ 32 + 4 * e.2.1 + saG sc e.2.1 → j ≠ 10 + w → j ≠ 3 → j ≠ 64 + e.2.1 → saSc (gdSc sc w e) e.2.1 (grA sc w e) j = sc j := fun j q1 q2 q3 q4 q5 q6 q7 => by
    rw [saSc_o ⟨q1, q2, by rw [eG]; exact q3, by rw [eG]; exact q4⟩, gdSc_o ⟨q5, q6, q7⟩]
  have r3 : saSc (gdSc sc w e) e.2.1 (grA sc w e) 3 = sc 3 + grA sc w e := by
    rw [saSc_o (by omega)]
    unfold gdSc
    rw [upN_n (by omega), upN_e rfl]
  have r4 : saSc (gdSc sc w e) e.2.1 (grA sc w e) 4 = sc 4 + lo := by
    unfold saSc
    rw [upN_n (by omega), upN_n (by omega), upN_n (by omega), upN_e rfl, hl9, gdSc_o (by omega)]
  have r5 : saSc (gdSc sc w e) e.2.1 (grA sc w e) 5 = sc 5 + (grA sc w e - lo - sa) := by
    unfold saSc
    rw [upN_n (by omega), upN_n (by omega), upN_e rfl, hl9, hs9, gdSc_o (by omega)]
  have r28 : saSc (gdSc sc w e) e.2.1 (grA sc w e) (28 + saG sc e.2.1) = sc (28 + saG sc e.2.1) + sa := by
    unfold saSc
    rw [upN_n (by omega), eG, upN_e rfl, hs9, e28]
  have r32 : saSc (gdSc sc w e) e.2.1 (grA sc w e) (32 + 4 * e.2.1 + saG sc e.2.1) = sc (32 + 4 * e.2.1 + saG sc e.2.1) + sa := by
    unfold saSc
    rw [upN_e (by rw [eG]), eG, hs9, gdSc_o (by omega)]
  have r64 : saSc (gdSc sc w e) e.2.1 (grA sc w e) (64 + e.2.1) = 1 := by
    rw [saSc_o (by rw [eG]; omega)]
    unfold gdSc
    rw [upN_e rfl]
  have rw9 : saSc (gdSc sc w e) e.2.1 (grA sc w e) (10 + w) = sc (10 + w) + sc (7 + w) := by
    rw [saSc_o (by rw [eG]; omega)]
    unfold gdSc
    rw [upN_n (by omega), upN_n (by omega), upN_e rfl]
  have r0 := rd 0 (by omega) (by omega) (by omega) (by omega) (by omega) (by omega) (by omega)
  have r1 := rd 1 (by omega) (by omega) (by omega) (by omega) (by omega) (by omega) (by omega)
  have r6 := rd 6 (by omega) (by omega) (by omega) (by omega) (by omega) (by omega) (by omega)
  refine ⟨⟨?_, fun v hv => ?_, fun b hb8 => ?_, fun g hg => ?_, ?_⟩, ?_⟩
  · rw [r0, r1, r3, r6]
    omega
  · rw [rd (7 + v) (by omega) (by omega) (by omega) (by omega) (by omega) (by omega) (by omega)]
    by_cases c : v = w
    · subst c
      rw [rw9]
      omega
    · rw [rd (10 + v) (by omega) (by omega) (by omega) (by omega) (by omega) (by omega) (by omega)]
      exact h2 v hv
  · rw [rd (16 + b) (by omega) (by omega) (by omega) (by omega) (by omega) (by omega) (by omega)]
    by_cases c : b = e.2.1
    · subst c
      rw [r64]
      omega
    · rw [rd (64 + b) (by omega) (by omega) (by omega) (by omega) (by omega) (by omega) (by omega)]
      exact h3 b hb8
  · rw [rd (24 + g) (by omega) (by omega) (by omega) (by omega) (by omega) (by omega) (by omega)]
    by_cases c : g = saG sc e.2.1
    · subst c
      rw [r28, sumF_upd (f := fun b => sc (32 + 4 * b + saG sc e.2.1)) (k := e.2.1) (v := sa) (by omega) (by omega) (fun j _ _ hj => rd _ (by omega) (by omega) (by omega) (by omega) (by omega) (by omega) (by omega)) r32]
      have := h4 _ hg
      omega
    · rw [rd (28 + g) (by omega) (by omega) (by omega) (by omega) (by omega) (by omega) (by omega), sumF_same (g := fun b => saSc (gdSc sc w e) e.2.1 (grA sc w e) (32 + 4 * b + g)) (f := fun b => sc (32 + 4 * b + g)) fun j _ hj => rd _ (by omega) (by omega) (by omega) (by omega) (by omega) (by omega) (by omega)]
      exact h4 g hg
  · rw [r3, r4, r5, sumF_upd (f := fun r => sc (32 + r)) (k := 4 * e.2.1 + saG sc e.2.1) (v := sa) (by omega) (by omega) (fun j _ _ hj => rd _ (by omega) (by omega) (by omega) (by omega) (by omega) (by omega) (by omega)) ?_]
    · omega
    · show saSc (gdSc sc w e) e.2.1 (grA sc w e) (32 + (4 * e.2.1 + saG sc e.2.1)) = _
      rw [← Nat.add_assoc]
      exact r32
  · rw [r6, r0]
    omega
theorem spGrind_inv {A : AM} {u T N w p : Nat} (hI : IN A.1 A.2) (hS : IS A.1 (u + 1) T N) (hw : w < 3) (hj : A.1 (10 + w) < 12) (hp : p < A.2.length) (hh : A.1 (13 + w) = (A.2.getD p z4).1 + 1) : IN (spGrind A w p).1 (spGrind A w p).2 ∧ IS (spGrind A w p).1 u T N := by
  have he := hI.at hp
  obtain ⟨hs1, hs2⟩ := IS_grind (e := A.2.getD p z4) hS hw hj he.2.1
  have hG : saG (gdSc A.1 w (A.2.getD p z4)) (A.2.getD p z4).2.1 < 4 := by
    have := (hS.2.2.1 _ he.2.1).1
    unfold saG
    rw [gdSc_o (by omega)]
    omega
  have rd : ∀ j, j = 1 ∨ 13 ≤ j ∧ j < 16 → saSc (gdSc A.1 w (A.2.getD p z4)) (A.2.getD p z4).2.1 (grA A.1 w (A.2.getD p z4)) j = A.1 j := fun j q => by
    rw [saSc_o (by omega), gdSc_o (by omega)]
  have hI2 : IN (saSc (gdSc A.1 w (A.2.getD p z4)) (A.2.getD p z4).2.1 (grA A.1 w (A.2.getD p z4))) A.2 := hI.sc (by rw [rd 1 (by omega)]; exact Nat.le_refl _) fun v hv => rd _ (by omega)
  have hh2 : saSc (gdSc A.1 w (A.2.getD p z4)) (A.2.getD p z4).2.1 (grA A.1 w (A.2.getD p z4)) (13 + w) = (A.2.getD p z4).1 + 1 := by rw [rd _ (by omega), hh]
  unfold spGrind
  by_cases c : (A.2.getD p z4).2.2.2 ≤ 2 * A.1 (7 + w)
  · rw [if_pos c]
    generalize hX : saSc (gdSc A.1 w (A.2.getD p z4)) (A.2.getD p z4).2.1 (grA A.1 w (A.2.getD p z4)) = X at hs1 hs2 hI2 hh2
    have q6 : X 6 % 8 < 8 := Nat.mod_lt _ (by omega)
    refine ⟨?_, ?_⟩
    · refine (IN_done (sc := upN (upN (upN (upN X (132 + X 6 % 8) (A.2.getD p z4).1) (140 + X 6 % 8) w) (148 + X 6 % 8) (X 0)) 6 (X 6 + 1)) ?_ (er_perm hp) hw ?_).1
      · refine hI2.sc ?_ fun v hv => ?_
        · rw [upN_n (by omega), upN_n (by omega), upN_n (by omega), upN_n (by omega)]
          exact Nat.le_refl _
        · rw [upN_n (by omega), upN_n (by omega), upN_n (by omega), upN_n (by omega)]
      · rw [upN_n (by omega), upN_n (by omega), upN_n (by omega), upN_n (by omega), hh2]
    · obtain ⟨h1, h2, h3, h4, h5⟩ := hs1
      have f0 := fiSc_o (sc := X) (w := w) (n := (A.2.getD p z4).1) (j := 0) hw (by omega)
      have f6 : fiSc X w (A.2.getD p z4).1 6 = X 6 + 1 := by
        unfold fiSc
        rw [upN_n (by omega), upN_e rfl]
      refine ⟨?_, fun v hv => ?_, fun b hb8 => ?_, fun g hg => ?_, ?_⟩
      · show fiSc X w (A.2.getD p z4).1 0 ≤ T ∧ fiSc X w (A.2.getD p z4).1 1 ≤ N ∧ fiSc X w (A.2.getD p z4).1 3 + 10 * u ≤ 30 * fiSc X w (A.2.getD p z4).1 0 ∧ fiSc X w (A.2.getD p z4).1 6 + u ≤ 3 * fiSc X w (A.2.getD p z4).1 0
        rw [f0, f6, fiSc_o hw (by omega), fiSc_o hw (by omega)]
        omega
      · show 1 ≤ fiSc X w (A.2.getD p z4).1 (7 + v) ∧ fiSc X w (A.2.getD p z4).1 (7 + v) ≤ 5 ∧ fiSc X w (A.2.getD p z4).1 (10 + v) ≤ 16
        rw [fiSc_o hw (by omega), fiSc_o hw (by omega)]
        exact h2 v hv
      · show fiSc X w (A.2.getD p z4).1 (16 + b) ≤ 9 ∧ fiSc X w (A.2.getD p z4).1 (64 + b) ≤ 1
        rw [fiSc_o hw (by omega), fiSc_o hw (by omega)]
        exact h3 b hb8
      · show fiSc X w (A.2.getD p z4).1 (28 + g) ≤ 139 ∧ fiSc X w (A.2.getD p z4).1 (28 + g) + 20 * fiSc X w (A.2.getD p z4).1 (24 + g) = sumF (fun b => fiSc X w (A.2.getD p z4).1 (32 + 4 * b + g)) 0 8
        rw [fiSc_o hw (by omega), fiSc_o hw (by omega), sumF_same (f := fun b => X (32 + 4 * b + g)) fun j _ hj9 => fiSc_o hw (by omega)]
        exact h4 g hg
      · show fiSc X w (A.2.getD p z4).1 3 = sumF (fun r => fiSc X w (A.2.getD p z4).1 (32 + r)) 0 32 + fiSc X w (A.2.getD p z4).1 4 + fiSc X w (A.2.getD p z4).1 5
        rw [fiSc_o hw (by omega), fiSc_o hw (by omega), fiSc_o hw (by omega), sumF_same (f := fun r => X (32 + r)) fun j _ hj9 => fiSc_o hw (by omega)]
        exact h5
  · rw [if_neg c]
    refine ⟨(IN_set hI2 hp hw hh2 ⟨by omega, by omega⟩).1, hs1⟩
theorem IS.weak {sc : Nat → Nat} {u T N : Nat} (h : IS sc (u + 1) T N) : IS sc u T N := ⟨by have := h.1; omega, h.2⟩
theorem spAct_inv {A : AM} {u T N w : Nat} (hI : IN A.1 A.2) (hS : IS A.1 (u + 1) T N) (hw : w < 3) : IN (spAct A w).1 (spAct A w).2 ∧ IS (spAct A w).1 u T N := by
  rcases spAct_cases hI hw with ⟨-, e⟩ | ⟨-, -, -, e⟩ | ⟨c1, c2, p, hp, hwt, hr, e⟩ | ⟨c1, p, hp, hh, e⟩
  · rw [e]
    exact ⟨hI, hS.weak⟩
  · rw [e]
    exact ⟨hI, hS.weak⟩
  · rw [e]
    refine spGrind_inv (IN_hold hI (getD_mem hp) hw c2 hwt).1 (hS.sc fun j hj => upN_n (by omega)) hw ?_ hp (upN_e rfl)
    show upN A.1 (13 + w) _ (10 + w) < 12
    rw [upN_n (by omega)]
    exact c1
  · rw [e]
    exact spGrind_inv hI hS hw c1 hp hh
theorem tick_inv {A : AM} {T N : Nat} (hI : IN A.1 A.2) (hS : IS A.1 0 T N) : IN (upN A.1 0 (A.1 0 + 1)) A.2 ∧ IS (upN A.1 0 (A.1 0 + 1)) 3 (T + 1) N := by
  refine ⟨hI.sc (by rw [upN_n (by omega)]; exact Nat.le_refl _) fun w hw => upN_n (by omega), ?_⟩
  obtain ⟨h1, h2, h3, h4, h5⟩ := hS
  refine ⟨?_, fun w hw => ?_, fun b hb9 => ?_, fun g hg => ?_, ?_⟩
  · rw [upN_e rfl, upN_n (by omega), upN_n (by omega), upN_n (by omega)]
    omega
  · rw [upN_n (by omega), upN_n (by omega)]
    exact h2 w hw
  · rw [upN_n (by omega), upN_n (by omega)]
    exact h3 b hb9
  · rw [upN_n (by omega), upN_n (by omega), sumF_same (f := fun b => A.1 (32 + 4 * b + g)) fun j _ hj => upN_n (by omega)]
    exact h4 g hg
  · rw [upN_n (by omega), upN_n (by omega), upN_n (by omega), sumF_same (f := fun r => A.1 (32 + r)) fun j _ hj => upN_n (by omega)]
    exact h5
theorem spStep_inv {A : AM} {T N : Nat} (hI : IN A.1 A.2) (hS : IS A.1 0 T N) : IN (spStep A).1 (spStep A).2 ∧ IS (spStep A).1 0 (T + 1) N := by
  have t0 := tick_inv hI hS
  have t1 := spAct_inv (A := (upN A.1 0 (A.1 0 + 1), A.2)) (w := 0) t0.1 t0.2 (by omega)
  have t2 := spAct_inv (w := 1) t1.1 t1.2 (by omega)
  exact spAct_inv (w := 2) t2.1 t2.2 (by omega)
theorem spN_inv {T N : Nat} : ∀ {n : Nat} {A : AM}, IN A.1 A.2 → IS A.1 0 T N → IN (spN n A).1 (spN n A).2 ∧ IS (spN n A).1 0 (T + n) N := by
  intro n
  induction n generalizing T with
  | zero => exact fun hI hS => ⟨hI, hS⟩
  | succ n ih =>
    intro A hI hS
    have h1 := spStep_inv hI hS
    have h2 := ih h1.1 h1.2
    refine ⟨h2.1, ?_⟩
    rw [show T + (n + 1) = T + 1 + n by omega]
    exact h2.2
section RF
variable {s : St} {m : Nat}
theorem NM.set {L : List E4} {p v : Nat} (h : NM s 1 L) (hl : L.length ≤ 15) (hp : p < L.length) {x : Int32} (hx : x = nI v) : NM (u2 s 1 (117 + p) x) 1 (L.set p ((L.getD p z4).1, (L.getD p z4).2.1, (L.getD p z4).2.2.1, v)) := by
  subst hx
  refine ⟨by rw [pu_u2n (by omega), List.length_set]; exact h.1, fun q hq => ?_⟩
  rw [List.length_set] at hq
  rw [sl_getD hp]
  have h9 := h.2 q hq
  by_cases c : q = p
  · subst c
    rw [if_pos rfl, pu_u2n (by omega), pu_u2n (by omega), pu_u2n (by omega), pu_u2e ⟨rfl, rfl⟩]
    exact ⟨h9.1, h9.2.1, h9.2.2.1, rfl⟩
  · rw [if_neg c, pu_u2n (by omega), pu_u2n (by omega), pu_u2n (by omega), pu_u2n (by omega)]
    exact h9
theorem rf_grinds {A : AM} {u T N w p : Nat} (hF : 2000 ≤ m) (hS : SM s 1 A.1) (hN : NM s 1 A.2) (hI : IN A.1 A.2) (hs : IS A.1 (u + 1) T N) (hT : T < 10 ^ 7) (hNN : N < 10 ^ 7) (hw : w < 3) (hj : A.1 (10 + w) < 12) (hp : p < A.2.length) (hh : A.1 (13 + w) = (A.2.getD p z4).1 + 1) : ∃ t, fX12_grinds m (nI w) s = some (nI 0, t) ∧ SM t 1 (spGrind A w p).1 ∧ NM t 1 (spGrind A w p).2 ∧ ∀ c, c ≠ 1 → t c = s c := by
  have hl := hI.len
  have he := hI.at hp
  have ep := hN.2 p hp
  have hb1 := hs.1
  have hg := hs.2.1 w hw
  have hm9 := (hs.2.2.1 _ he.2.1).1
  have e13 : s 1 (13 + w) = nI ((A.2.getD p z4).1 + 1) := by rw [hS _ (by omega) (by omega) (by omega), hh]
  have e7 : s 1 (7 + w) = nI (A.1 (7 + w)) := hS _ (by omega) (by omega) (by omega)
  have e10 : s 1 (10 + w) = nI (A.1 (10 + w)) := hS _ (by omega) (by omega) (by omega)
  have e3 : s 1 3 = nI (A.1 3) := hS _ (by omega) (by omega) (by omega)
  have ex : nI ((A.2.getD p z4).1 + 1) - nI 1 = nI (A.2.getD p z4).1 := nI_pred _
  have hgr : grA A.1 w (A.2.getD p z4) ≤ 10 ∧ grA A.1 w (A.2.getD p z4) ≤ (A.2.getD p z4).2.2.2 := by
    unfold grA
    split <;> omega
  have hG : saG (gdSc A.1 w (A.2.getD p z4)) (A.2.getD p z4).2.1 < 4 := by
    unfold saG
    rw [gdSc_o (by omega)]
    omega
  have hlS : (A.2.set p ((A.2.getD p z4).1, (A.2.getD p z4).2.1, (A.2.getD p z4).2.2.1, (A.2.getD p z4).2.2.2 - grA A.1 w (A.2.getD p z4))).length = A.2.length := List.length_set
  have hgS : (A.2.set p ((A.2.getD p z4).1, (A.2.getD p z4).2.1, (A.2.getD p z4).2.2.1, (A.2.getD p z4).2.2.2 - grA A.1 w (A.2.getD p z4))).getD p z4 = ((A.2.getD p z4).1, (A.2.getD p z4).2.1, (A.2.getD p z4).2.2.1, (A.2.getD p z4).2.2.2 - grA A.1 w (A.2.getD p z4)) := by rw [sl_getD hp, if_pos rfl]
  obtain ⟨t, t1, t2, t3, t4⟩ := rf_sacks (s := u2 (u2 (u2 (u2 s 1 (117 + p) (nI ((A.2.getD p z4).2.2.2 - grA A.1 w (A.2.getD p z4)))) 1 (10 + w) (nI (A.1 (10 + w) + A.1 (7 + w)))) 1 3 (nI (A.1 3 + grA A.1 w (A.2.getD p z4)))) 1 (64 + (A.2.getD p z4).2.1) (nI 1)) (sc := gdSc A.1 w (A.2.getD p z4)) (L := A.2.set p ((A.2.getD p z4).1, (A.2.getD p z4).2.1, (A.2.getD p z4).2.2.1, (A.2.getD p z4).2.2.2 - grA A.1 w (A.2.getD p z4))) (b := (A.2.getD p z4).2.1) (gr := grA A.1 w (A.2.getD p z4)) ((((hS.off (by omega)).upd rfl).upd rfl).upd rfl) ((((hN.set hl hp rfl).off (by rw [hlS]; exact hl) (by omega)).off (by rw [hlS]; exact hl) (by omega)).off (by rw [hlS]; exact hl) (by omega)) (by rw [hlS]; exact hl) he.2.1 (by rw [gdSc_o (by omega)]; exact hm9) (by rw [gdSc_o (by omega)]; exact (hs.2.2.2.1 _ hG).1) (by omega)
  have t5 := (t3.2 p (by rw [hlS]; exact hp)).2.2.2
  rw [hgS] at t5
  have hfr : ∀ c, c ≠ 1 → t c = s c := fun c hc => by rw [t4 c hc, pu_u2r hc, pu_u2r hc, pu_u2r hc, pu_u2r hc]
  have hIS := (IS_grind (e := A.2.getD p z4) hs hw hj he.2.1)
  unfold spGrind
  by_cases c : (A.2.getD p z4).2.2.2 ≤ 2 * A.1 (7 + w)
  · rw [if_pos c]
    have hz : grA A.1 w (A.2.getD p z4) = (A.2.getD p z4).2.2.2 := if_pos c
    obtain ⟨t', r1, r2, r3, r4⟩ := rf_finishes (m := m) (w := w) (p := p) hF t2 t3 (by rw [hlS]; exact hl) (by rw [hlS]; exact hp) hw (by have := hIS.1.1; omega)
    refine ⟨t', ?_, ?_, ?_, fun c hc => by rw [r4 c hc, hfr c hc]⟩
    · unfold fX12_grinds
      have t6 : t 1 (117 + p) = nI 0 := by rw [t5]; exact congrArg nI (by show (A.2.getD p z4).2.2.2 - grA A.1 w (A.2.getD p z4) = 0; omega)
      rw [hz] at t1
      simp (disch := omega) only [pu_OB, pu_LET, pu_OX0, pu_BND, pu_NZ, pu_BL, pu_m1, nI_add, pk_sub, pk_mul, pk_div, nI_clamp, pu_eq, pu_ne, pu_le_t, pu_le_f, pu_lt_t, pu_lt_f, pu_nm, pu_mm, pu_u2e, pu_u2n, ↓reduceIte, li0, li1, li2, li3, li4, li5, li6, li7, li8, li9, li10, li11, li12, li13, li14, li15, li16, li17, li18, li19, li20, li21, li22, li23, li24, li25, li26, li27, li28, li29, li30, li31, li32, li33, li34, li35, li36, li37, li38, li39, li40, li41, li42, li43, li44, li45, li46, li47, li48, li49, li50, li51, li52, li53, li54, li55, li56, li57, li58, li59, li60, li64, li72, li87, li97, li98, li99, li100, li101, li102, li103, li104, li105, li108, li109, li110, li111, li112, li114, li115, li116, li117, li119, li120, li124, li126, li132, li139, li140, li148, li156, li1000, li1092, li1248, e13, ex, rf_place_at hF hN hI (by omega) hp, e7, ep.2.2.2, ep.2.1, e10, e3, fX12_grinds_B54, t1, t6, r1]
    · rw [hgS] at r2
      exact r2
    · rw [List.eraseIdx_set_eq] at r3
      exact r3
  · rw [if_neg c]
    have hz : grA A.1 w (A.2.getD p z4) = 2 * A.1 (7 + w) := if_neg c
    refine ⟨t, ?_, t2, ?_, hfr⟩
    · unfold fX12_grinds
      rw [hz] at t1 t5
      simp (disch := omega) only [pu_OB, pu_LET, pu_OX0, pu_BND, pu_NZ, pu_BL, pu_m1, nI_add, pk_sub, pk_mul, pk_div, nI_clamp, pu_eq, pu_ne, pu_le_t, pu_le_f, pu_lt_t, pu_lt_f, pu_nm, pu_mm, pu_u2e, pu_u2n, ↓reduceIte, li0, li1, li2, li3, li4, li5, li6, li7, li8, li9, li10, li11, li12, li13, li14, li15, li16, li17, li18, li19, li20, li21, li22, li23, li24, li25, li26, li27, li28, li29, li30, li31, li32, li33, li34, li35, li36, li37, li38, li39, li40, li41, li42, li43, li44, li45, li46, li47, li48, li49, li50, li51, li52, li53, li54, li55, li56, li57, li58, li59, li60, li64, li72, li87, li97, li98, li99, li100, li101, li102, li103, li104, li105, li108, li109, li110, li111, li112, li114, li115, li116, li117, li119, li120, li124, li126, li132, li139, li140, li148, li156, li1000, li1092, li1248, e13, ex, rf_place_at hF hN hI (by omega) hp, e7, ep.2.2.2, ep.2.1, e10, e3, fX12_grinds_B54, t1, t5]
    · rw [hz] at t3
      exact t3
theorem rf_acts {A : AM} {u T N w : Nat} (hF : 2000 ≤ m) (hS : SM s 1 A.1) (hN : NM s 1 A.2) (hI : IN A.1 A.2) (hs : IS A.1 (u + 1) T N) (hT : T < 10 ^ 7) (hNN : N < 10 ^ 7) (hw : w < 3) : ∃ t, fX12_acts m (nI w) s = some (nI 0, t) ∧ SM t 1 (spAct A w).1 ∧ NM t 1 (spAct A w).2 ∧ ∀ c, c ≠ 1 → t c = s c := by
  have hl := hI.len
  have hb1 := hs.1
  have hg := hs.2.1 w hw
  have hB : A.1 1 < 2 ^ 30 := by omega
  have e13 : s 1 (13 + w) = nI (A.1 (13 + w)) := hS _ (by omega) (by omega) (by omega)
  have e10 : s 1 (10 + w) = nI (A.1 (10 + w)) := hS _ (by omega) (by omega) (by omega)
  have h13 := hI.held hw
  unfold fX12_acts
  rcases spAct_cases hI hw with ⟨c1, e⟩ | ⟨c1, c2, c3, e⟩ | ⟨c1, c2, p, hp, hwt, hr, e⟩ | ⟨c1, p, hp, hh, e⟩
  · rw [e]
    refine ⟨s, ?_, hS, hN, fun c hc => rfl⟩
    simp (disch := omega) only [pu_OB, pu_LET, pu_OX0, pu_BND, pu_NZ, pu_BL, pu_m1, nI_add, pk_sub, pk_mul, pk_div, nI_clamp, pu_eq, pu_ne, pu_le_t, pu_le_f, pu_lt_t, pu_lt_f, pu_nm, pu_mm, pu_u2e, pu_u2n, ↓reduceIte, li0, li1, li2, li3, li4, li5, li6, li7, li8, li9, li10, li11, li12, li13, li14, li15, li16, li17, li18, li19, li20, li21, li22, li23, li24, li25, li26, li27, li28, li29, li30, li31, li32, li33, li34, li35, li36, li37, li38, li39, li40, li41, li42, li43, li44, li45, li46, li47, li48, li49, li50, li51, li52, li53, li54, li55, li56, li57, li58, li59, li60, li64, li72, li87, li97, li98, li99, li100, li101, li102, li103, li104, li105, li108, li109, li110, li111, li112, li114, li115, li116, li117, li119, li120, li124, li126, li132, li139, li140, li148, li156, li1000, li1092, li1248, e10]
  · rw [e]
    refine ⟨s, ?_, hS, hN, fun c hc => rfl⟩
    have r1 : fX12_ranked m (nI 0) s = some (mI, s) := rf_ranked_none hF hS hN hI hB fun j hj hwj => absurd c3 (by
      have : 0 < A.2.countP (wt A.1) := List.countP_pos_iff.mpr ⟨_, getD_mem hj, hwj⟩
      omega)
    simp (disch := omega) only [pu_OB, pu_LET, pu_OX0, pu_BND, pu_NZ, pu_BL, pu_m1, nI_add, pk_sub, pk_mul, pk_div, nI_clamp, pu_eq, pu_ne, pu_le_t, pu_le_f, pu_lt_t, pu_lt_f, pu_nm, pu_mm, pu_u2e, pu_u2n, ↓reduceIte, li0, li1, li2, li3, li4, li5, li6, li7, li8, li9, li10, li11, li12, li13, li14, li15, li16, li17, li18, li19, li20, li21, li22, li23, li24, li25, li26, li27, li28, li29, li30, li31, li32, li33, li34, li35, li36, li37, li38, li39, li40, li41, li42, li43, li44, li45, li46, li47, li48, li49, li50, li51, li52, li53, li54, li55, li56, li57, li58, li59, li60, li64, li72, li87, li97, li98, li99, li100, li101, li102, li103, li104, li105, li108, li109, li110, li111, li112, li114, li115, li116, li117, li119, li120, li124, li126, li132, li139, li140, li148, li156, li1000, li1092, li1248, e10, r1, e13, fX12_acts_B58]
  · rw [e]
    have r1 := rf_ranked_at hF hS hN hI hB hp hwt
    rw [hr] at r1
    have ep := hN.2 p hp
    have he := hI.at hp
    obtain ⟨t, t1, t2, t3, t4⟩ := rf_grinds (m := m) (A := (upN A.1 (13 + w) ((A.2.getD p z4).1 + 1), A.2)) (s := u2 s 1 (13 + w) (nI ((A.2.getD p z4).1 + 1))) (w := w) (p := p) hF (hS.upd rfl) (hN.off hl (by omega)) (IN_hold hI (getD_mem hp) hw c2 hwt).1 (hs.sc fun j hj => upN_n (by omega)) hT hNN hw (by show upN A.1 (13 + w) _ (10 + w) < 12; rw [upN_n (by omega)]; exact c1) hp (upN_e rfl)
    refine ⟨t, ?_, t2, t3, fun c hc => by rw [t4 c hc, pu_u2r hc]⟩
    simp (disch := omega) only [pu_OB, pu_LET, pu_OX0, pu_BND, pu_NZ, pu_BL, pu_m1, nI_add, pk_sub, pk_mul, pk_div, nI_clamp, pu_eq, pu_ne, pu_le_t, pu_le_f, pu_lt_t, pu_lt_f, pu_nm, pu_mm, pu_u2e, pu_u2n, ↓reduceIte, li0, li1, li2, li3, li4, li5, li6, li7, li8, li9, li10, li11, li12, li13, li14, li15, li16, li17, li18, li19, li20, li21, li22, li23, li24, li25, li26, li27, li28, li29, li30, li31, li32, li33, li34, li35, li36, li37, li38, li39, li40, li41, li42, li43, li44, li45, li46, li47, li48, li49, li50, li51, li52, li53, li54, li55, li56, li57, li58, li59, li60, li64, li72, li87, li97, li98, li99, li100, li101, li102, li103, li104, li105, li108, li109, li110, li111, li112, li114, li115, li116, li117, li119, li120, li124, li126, li132, li139, li140, li148, li156, li1000, li1092, li1248, e10, r1, e13, ep.1, fX12_acts_B58, t1]
  · rw [e]
    obtain ⟨t, t1, t2, t3, t4⟩ := rf_grinds (m := m) hF hS hN hI hs hT hNN hw c1 hp hh
    refine ⟨t, ?_, t2, t3, t4⟩
    have he := hI.at hp
    by_cases c4 : A.2.countP (wt A.1) = 0
    · have r1 : fX12_ranked m (nI 0) s = some (mI, s) := rf_ranked_none hF hS hN hI hB fun j hj hwj => absurd c4 (by
        have : 0 < A.2.countP (wt A.1) := List.countP_pos_iff.mpr ⟨_, getD_mem hj, hwj⟩
        omega)
      simp (disch := omega) only [pu_OB, pu_LET, pu_OX0, pu_BND, pu_NZ, pu_BL, pu_m1, nI_add, pk_sub, pk_mul, pk_div, nI_clamp, pu_eq, pu_ne, pu_le_t, pu_le_f, pu_lt_t, pu_lt_f, pu_nm, pu_mm, pu_u2e, pu_u2n, ↓reduceIte, li0, li1, li2, li3, li4, li5, li6, li7, li8, li9, li10, li11, li12, li13, li14, li15, li16, li17, li18, li19, li20, li21, li22, li23, li24, li25, li26, li27, li28, li29, li30, li31, li32, li33, li34, li35, li36, li37, li38, li39, li40, li41, li42, li43, li44, li45, li46, li47, li48, li49, li50, li51, li52, li53, li54, li55, li56, li57, li58, li59, li60, li64, li72, li87, li97, li98, li99, li100, li101, li102, li103, li104, li105, li108, li109, li110, li111, li112, li114, li115, li116, li117, li119, li120, li124, li126, li132, li139, li140, li148, li156, li1000, li1092, li1248, e10, r1, e13, fX12_acts_B58, t1]
    · obtain ⟨f, hf, hwf, hrf⟩ := rk_first hI.1 c4
      obtain ⟨q, hq, rfl⟩ := mem_getD hf
      have r1 := rf_ranked_at hF hS hN hI hB hq hwf
      rw [hrf] at r1
      simp (disch := omega) only [pu_OB, pu_LET, pu_OX0, pu_BND, pu_NZ, pu_BL, pu_m1, nI_add, pk_sub, pk_mul, pk_div, nI_clamp, pu_eq, pu_ne, pu_le_t, pu_le_f, pu_lt_t, pu_lt_f, pu_nm, pu_mm, pu_u2e, pu_u2n, ↓reduceIte, li0, li1, li2, li3, li4, li5, li6, li7, li8, li9, li10, li11, li12, li13, li14, li15, li16, li17, li18, li19, li20, li21, li22, li23, li24, li25, li26, li27, li28, li29, li30, li31, li32, li33, li34, li35, li36, li37, li38, li39, li40, li41, li42, li43, li44, li45, li46, li47, li48, li49, li50, li51, li52, li53, li54, li55, li56, li57, li58, li59, li60, li64, li72, li87, li97, li98, li99, li100, li101, li102, li103, li104, li105, li108, li109, li110, li111, li112, li114, li115, li116, li117, li119, li120, li124, li126, li132, li139, li140, li148, li156, li1000, li1092, li1248, e10, r1, e13, fX12_acts_B58, t1]
theorem rf_step_S (k : Nat) (i : Int32) (s : St) : fX12_step_L12 m (k + 1) i s = fX12_step_L12b m (fX12_step_L12 m k) i s := rfl
theorem rf_step {A : AM} {T N : Nat} (hF : 2000 ≤ m) (hS : SM s 1 A.1) (hN : NM s 1 A.2) (hI : IN A.1 A.2) (hs : IS A.1 0 T N) (hT : T + 1 < 10 ^ 7) (hNN : N < 10 ^ 7) : ∃ t, fX12_step m s = some (nI 0, t) ∧ SM t 1 (spStep A).1 ∧ NM t 1 (spStep A).2 ∧ ∀ c, c ≠ 1 → t c = s c := by
  have hl := hI.len
  have e0 : s 1 0 = nI (A.1 0) := hS _ (by omega) (by omega) (by omega)
  have t0 := tick_inv hI hs
  have t1 := spAct_inv (A := (upN A.1 0 (A.1 0 + 1), A.2)) (w := 0) t0.1 t0.2 (by omega)
  have t2 := spAct_inv (w := 1) t1.1 t1.2 (by omega)
  obtain ⟨s1, a1, a2, a3, a4⟩ := rf_acts (m := m) (A := (upN A.1 0 (A.1 0 + 1), A.2)) (s := u2 s 1 0 (nI (A.1 0 + 1))) (w := 0) hF (hS.upd rfl) (hN.off hl (by omega)) t0.1 t0.2 hT hNN (by omega)
  obtain ⟨s2, b1, b2, b3, b4⟩ := rf_acts (m := m) (w := 1) hF a2 a3 t1.1 t1.2 hT hNN (by omega)
  obtain ⟨s3, c1, c2, c3, c4⟩ := rf_acts (m := m) (w := 2) hF b2 b3 t2.1 t2.2 hT hNN (by omega)
  refine ⟨s3, ?_, c2, c3, fun c hc => by rw [c4 c hc, b4 c hc, a4 c hc, pu_u2r hc]⟩
  have key : ∀ n, 4 ≤ n → fX12_step_L12 m n (nI 0) (u2 s 1 0 (nI (A.1 0 + 1))) = some (nI 0, s3) := by
    intro n hn
    obtain ⟨k, rfl⟩ : ∃ k, n = k + 4 := ⟨n - 4, by omega⟩
    simp (disch := omega) only [pu_OB, pu_LET, pu_OX0, pu_BND, pu_NZ, pu_BL, pu_m1, nI_add, pk_sub, pk_mul, pk_div, nI_clamp, pu_eq, pu_ne, pu_le_t, pu_le_f, pu_lt_t, pu_lt_f, pu_nm, pu_mm, pu_u2e, pu_u2n, ↓reduceIte, li0, li1, li2, li3, li4, li5, li6, li7, li8, li9, li10, li11, li12, li13, li14, li15, li16, li17, li18, li19, li20, li21, li22, li23, li24, li25, li26, li27, li28, li29, li30, li31, li32, li33, li34, li35, li36, li37, li38, li39, li40, li41, li42, li43, li44, li45, li46, li47, li48, li49, li50, li51, li52, li53, li54, li55, li56, li57, li58, li59, li60, li64, li72, li87, li97, li98, li99, li100, li101, li102, li103, li104, li105, li108, li109, li110, li111, li112, li114, li115, li116, li117, li119, li120, li124, li126, li132, li139, li140, li148, li156, li1000, li1092, li1248, rf_step_S, fX12_step_L12b, a1, b1, c1]
  unfold fX12_step
  simp (disch := omega) only [pu_OB, pu_LET, pu_OX0, pu_BND, pu_NZ, pu_BL, pu_m1, nI_add, pk_sub, pk_mul, pk_div, nI_clamp, pu_eq, pu_ne, pu_le_t, pu_le_f, pu_lt_t, pu_lt_f, pu_nm, pu_mm, pu_u2e, pu_u2n, ↓reduceIte, li0, li1, li2, li3, li4, li5, li6, li7, li8, li9, li10, li11, li12, li13, li14, li15, li16, li17, li18, li19, li20, li21, li22, li23, li24, li25, li26, li27, li28, li29, li30, li31, li32, li33, li34, li35, li36, li37, li38, li39, li40, li41, li42, li43, li44, li45, li46, li47, li48, li49, li50, li51, li52, li53, li54, li55, li56, li57, li58, li59, li60, li64, li72, li87, li97, li98, li99, li100, li101, li102, li103, li104, li105, li108, li109, li110, li111, li112, li114, li115, li116, li117, li119, li120, li124, li126, li132, li139, li140, li148, li156, li1000, li1092, li1248, e0, key m (by omega)]
end RF
