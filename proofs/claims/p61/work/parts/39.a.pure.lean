-- ===== predictions: what a wheel will do =====
/-- wheel w holds the noise n with a grains left, has gear g and wear v -/
def HW (A : AM) (w n a v g : Nat) : Prop := A.1 (13 + w) = n + 1 ∧ A.1 (10 + w) = v ∧ A.1 (7 + w) = g ∧ ∃ e ∈ A.2, e.1 = n ∧ e.2.2.2 = a
theorem spGrind_sc {A : AM} {u p j : Nat} (hu : u < 3) (he : (A.2.getD p z4).2.1 < 8) (hm : A.1 (16 + (A.2.getD p z4).2.1) ≤ 9) (hj : 7 ≤ j ∧ j < 16 ∧ j ≠ 10 + u ∧ j ≠ 13 + u) : (spGrind A u p).1 j = A.1 j := by
  have hG : saG (gdSc A.1 u (A.2.getD p z4)) (A.2.getD p z4).2.1 < 4 := by
    unfold saG
    rw [gdSc_o (by omega)]
    omega
  have h3 : saSc (gdSc A.1 u (A.2.getD p z4)) (A.2.getD p z4).2.1 (grA A.1 u (A.2.getD p z4)) j = A.1 j := by
    rw [saSc_o (by omega), gdSc_o (by omega)]
  unfold spGrind
  by_cases c : (A.2.getD p z4).2.2.2 ≤ 2 * A.1 (7 + u)
  · rw [if_pos c]
    show fiSc _ _ _ j = _
    rw [fiSc_o hu (by omega), h3]
  · rw [if_neg c]
    exact h3
theorem spGrind_own {A : AM} {w p : Nat} (hw : w < 3) (he : (A.2.getD p z4).2.1 < 8) (hm : A.1 (16 + (A.2.getD p z4).2.1) ≤ 9) : (spGrind A w p).1 (10 + w) = A.1 (10 + w) + A.1 (7 + w) ∧ ((A.2.getD p z4).2.2.2 ≤ 2 * A.1 (7 + w) → (spGrind A w p).1 (13 + w) = 0) ∧ (¬ (A.2.getD p z4).2.2.2 ≤ 2 * A.1 (7 + w) → (spGrind A w p).1 (13 + w) = A.1 (13 + w)) := by
  have hG : saG (gdSc A.1 w (A.2.getD p z4)) (A.2.getD p z4).2.1 < 4 := by
    unfold saG
    rw [gdSc_o (by omega)]
    omega
  have h3 : saSc (gdSc A.1 w (A.2.getD p z4)) (A.2.getD p z4).2.1 (grA A.1 w (A.2.getD p z4)) (10 + w) = A.1 (10 + w) + A.1 (7 + w) := by
    rw [saSc_o (by omega)]
    unfold gdSc
    rw [upN_n (by omega), upN_n (by omega), upN_e rfl]
  have h4 : saSc (gdSc A.1 w (A.2.getD p z4)) (A.2.getD p z4).2.1 (grA A.1 w (A.2.getD p z4)) (13 + w) = A.1 (13 + w) := by rw [saSc_o (by omega), gdSc_o (by omega)]
  unfold spGrind
  by_cases c : (A.2.getD p z4).2.2.2 ≤ 2 * A.1 (7 + w)
  · rw [if_pos c]
    refine ⟨?_, fun _ => ?_, fun h => absurd c h⟩
    · show fiSc _ _ _ (10 + w) = _
      rw [fiSc_o hw (by omega), h3]
    · show fiSc _ _ _ (13 + w) = _
      unfold fiSc
      exact upN_e rfl
  · rw [if_neg c]
    exact ⟨h3, fun h => absurd h c, fun _ => h4⟩
/-- another noise stays when one grinds -/
theorem spGrind_mem {A : AM} {u p : Nat} (hp : p < A.2.length) {e : E4} (he : e ∈ A.2) (hne : e.1 ≠ (A.2.getD p z4).1) : e ∈ (spGrind A u p).2 := by
  obtain ⟨i, hi, rfl⟩ := mem_getD he
  have hip : i ≠ p := fun q => hne (by rw [q])
  unfold spGrind
  by_cases c : (A.2.getD p z4).2.2.2 ≤ 2 * A.1 (7 + u)
  · rw [if_pos c]
    rcases List.mem_cons.mp ((er_perm hp).subset he) with q | q
    · exact absurd (congrArg (·.1) q) hne
    · exact q
  · rw [if_neg c]
    show A.2.getD i z4 ∈ A.2.set p _
    have := getD_mem (L := A.2.set p ((A.2.getD p z4).1, (A.2.getD p z4).2.1, (A.2.getD p z4).2.2.1, (A.2.getD p z4).2.2.2 - 2 * A.1 (7 + u))) (p := i) (by rw [List.length_set]; exact hi)
    rw [sl_getD hp, if_neg hip] at this
    exact this
theorem hw_other {A : AM} {u w n a v g T N k : Nat} (hI : IN A.1 A.2) (hs : IS A.1 (k + 1) T N) (hw : w < 3) (hu : u < 3) (hne : u ≠ w) (h : HW A w n a v g) : HW (spAct A u) w n a v g := by
  obtain ⟨h1, h2, h3, e, he, h4, h5⟩ := h
  rcases spAct_cases hI hu with ⟨-, e9⟩ | ⟨-, -, -, e9⟩ | ⟨c1, c2, p, hp, hwt, hr, e9⟩ | ⟨c1, p, hp, hh, e9⟩
  · rw [e9]
    exact ⟨h1, h2, h3, e, he, h4, h5⟩
  · rw [e9]
    exact ⟨h1, h2, h3, e, he, h4, h5⟩
  · rw [e9]
    have hep := hI.at hp
    have hm := (hs.2.2.1 _ hep.2.1).1
    have hs1 : IS (upN A.1 (13 + u) ((A.2.getD p z4).1 + 1)) (k + 1) T N := hs.sc fun j hj => upN_n (by omega)
    have rd : ∀ j, 7 ≤ j ∧ j < 16 ∧ j ≠ 10 + u ∧ j ≠ 13 + u → (spGrind (upN A.1 (13 + u) ((A.2.getD p z4).1 + 1), A.2) u p).1 j = A.1 j := fun j hj => by
      rw [spGrind_sc (A := (upN A.1 (13 + u) ((A.2.getD p z4).1 + 1), A.2)) hu hep.2.1 (hs1.2.2.1 _ hep.2.1).1 hj]
      exact upN_n (by omega)
    refine ⟨by rw [rd _ (by omega)]; exact h1, by rw [rd _ (by omega)]; exact h2, by rw [rd _ (by omega)]; exact h3, e, ?_, h4, h5⟩
    refine spGrind_mem (A := (upN A.1 (13 + u) ((A.2.getD p z4).1 + 1), A.2)) hp he fun q => ?_
    have q : e.1 = (A.2.getD p z4).1 := q
    exact wt_not hw hwt (by omega)
  · rw [e9]
    have hep := hI.at hp
    have hm := (hs.2.2.1 _ hep.2.1).1
    have rd : ∀ j, 7 ≤ j ∧ j < 16 ∧ j ≠ 10 + u ∧ j ≠ 13 + u → (spGrind A u p).1 j = A.1 j := fun j hj => spGrind_sc hu hep.2.1 hm hj
    refine ⟨by rw [rd _ (by omega)]; exact h1, by rw [rd _ (by omega)]; exact h2, by rw [rd _ (by omega)]; exact h3, e, ?_, h4, h5⟩
    refine spGrind_mem hp he fun q => ?_
    have := hI.2.2.2.2.1 u w hu hw hne
    omega
/-- a wheel that is free stays so while others act -/
theorem hw_free {A : AM} {u w T N k : Nat} (hI : IN A.1 A.2) (hs : IS A.1 (k + 1) T N) (hw : w < 3) (hu : u < 3) (hne : u ≠ w) (h : A.1 (13 + w) = 0) : (spAct A u).1 (13 + w) = 0 := by
  rcases spAct_cases hI hu with ⟨-, e9⟩ | ⟨-, -, -, e9⟩ | ⟨c1, c2, p, hp, hwt, hr, e9⟩ | ⟨c1, p, hp, hh, e9⟩
  · rw [e9]
    exact h
  · rw [e9]
    exact h
  · rw [e9]
    have hep := hI.at hp
    have hs1 : IS (upN A.1 (13 + u) ((A.2.getD p z4).1 + 1)) (k + 1) T N := hs.sc fun j hj => upN_n (by omega)
    rw [spGrind_sc (A := (upN A.1 (13 + u) ((A.2.getD p z4).1 + 1), A.2)) hu hep.2.1 (hs1.2.2.1 _ hep.2.1).1 (by omega)]
    show upN A.1 (13 + u) _ (13 + w) = 0
    rw [upN_n (by omega)]
    exact h
  · rw [e9]
    have hep := hI.at hp
    rw [spGrind_sc hu hep.2.1 (hs.2.2.1 _ hep.2.1).1 (by omega)]
    exact h
/-- a wheel's own act -/
theorem hw_own {A : AM} {w n a v g T N k : Nat} (hI : IN A.1 A.2) (hs : IS A.1 (k + 1) T N) (hw : w < 3) (h : HW A w n a v g) (hv : v < 12) : (a ≤ 2 * g → (spAct A w).1 (13 + w) = 0) ∧ (2 * g < a → HW (spAct A w) w n (a - 2 * g) (v + g) g) := by
  obtain ⟨h1, h2, h3, e, he, h4, h5⟩ := h
  rcases spAct_cases hI hw with ⟨c1, e9⟩ | ⟨-, c2, -, e9⟩ | ⟨c1, c2, p, hp, hwt, hr, e9⟩ | ⟨c1, p, hp, hh, e9⟩
  · omega
  · omega
  · omega
  · rw [e9]
    have hep := hI.at hp
    have hm := (hs.2.2.1 _ hep.2.1).1
    have heq : A.2.getD p z4 = e := nd_inj hI.1 (getD_mem hp) he (by omega)
    have ho := spGrind_own hw hep.2.1 hm
    rw [heq] at ho
    refine ⟨fun ha => ho.2.1 (by omega), fun ha => ⟨by rw [ho.2.2 (by omega)]; exact h1, by rw [ho.1]; omega, by rw [spGrind_sc hw hep.2.1 hm (by omega)]; exact h3, (e.1, e.2.1, e.2.2.1, e.2.2.2 - 2 * A.1 (7 + w)), ?_, h4, by show e.2.2.2 - 2 * A.1 (7 + w) = a - 2 * g; omega⟩⟩
    unfold spGrind
    rw [heq, if_neg (by omega)]
    have := getD_mem (L := A.2.set p (e.1, e.2.1, e.2.2.1, e.2.2.2 - 2 * A.1 (7 + w))) (p := p) (by rw [List.length_set]; exact hp)
    rw [sl_getD hp, if_pos rfl] at this
    exact this
theorem hw_tick {A : AM} {w n a v g x : Nat} (hw : w < 3) (h : HW A w n a v g) : HW (upN A.1 0 x, A.2) w n a v g := by
  obtain ⟨h1, h2, h3, h4⟩ := h
  exact ⟨by show upN A.1 0 x _ = _; rw [upN_n (by omega)]; exact h1, by show upN A.1 0 x _ = _; rw [upN_n (by omega)]; exact h2, by show upN A.1 0 x _ = _; rw [upN_n (by omega)]; exact h3, h4⟩
/-- one step of a wheel that holds a noise and isn't jammed -/
theorem hw_step {A : AM} {w n a v g T N : Nat} (hI : IN A.1 A.2) (hs : IS A.1 0 T N) (hw : w < 3) (h : HW A w n a v g) (hv : v < 12) : (a ≤ 2 * g → (spStep A).1 (13 + w) = 0) ∧ (2 * g < a → HW (spStep A) w n (a - 2 * g) (v + g) g) := by
  have t0 := tick_inv hI hs
  have h0 : HW (upN A.1 0 (A.1 0 + 1), A.2) w n a v g := hw_tick hw h
  have t1 := spAct_inv (A := (upN A.1 0 (A.1 0 + 1), A.2)) (w := 0) t0.1 t0.2 (by omega)
  have t2 := spAct_inv (w := 1) t1.1 t1.2 (by omega)
  unfold spStep
  rcases (show w = 0 ∨ w = 1 ∨ w = 2 by omega) with rfl | rfl | rfl
  · have o := hw_own (A := (upN A.1 0 (A.1 0 + 1), A.2)) t0.1 t0.2 hw h0 hv
    exact ⟨fun ha => hw_free t2.1 t2.2 hw (by omega) (by omega) (hw_free t1.1 t1.2 hw (by omega) (by omega) (o.1 ha)), fun ha => hw_other t2.1 t2.2 hw (by omega) (by omega) (hw_other t1.1 t1.2 hw (by omega) (by omega) (o.2 ha))⟩
  · have h1 := hw_other (A := (upN A.1 0 (A.1 0 + 1), A.2)) (u := 0) t0.1 t0.2 hw (by omega) (by omega) h0
    have o := hw_own t1.1 t1.2 hw h1 hv
    exact ⟨fun ha => hw_free t2.1 t2.2 hw (by omega) (by omega) (o.1 ha), fun ha => hw_other t2.1 t2.2 hw (by omega) (by omega) (o.2 ha)⟩
  · have h1 := hw_other (A := (upN A.1 0 (A.1 0 + 1), A.2)) (u := 0) t0.1 t0.2 hw (by omega) (by omega) h0
    have h2 := hw_other (u := 1) t1.1 t1.2 hw (by omega) (by omega) h1
    exact hw_own t2.1 t2.2 hw h2 hv
/-- the steps until a noise is done, by amount, gear and wear -/
def rtN (a g : Nat) : Nat := (a + 2 * g - 1) / (2 * g)
def rtI (a v g : Nat) : Int32 := if v + (rtN a g - 1) * g < 12 then nI (rtN a g) else mI
theorem rtN_1 {a g : Nat} (h1 : 1 ≤ a) (h2 : a ≤ 2 * g) : rtN a g = 1 := by
  unfold rtN
  rw [show a + 2 * g - 1 = (a - 1) + 2 * g by omega, Nat.add_div_right _ (by omega), Nat.div_eq_of_lt (by omega)]
theorem rtN_S {a g : Nat} (h2 : 2 * g < a) (hg : 1 ≤ g) : rtN a g = rtN (a - 2 * g) g + 1 := by
  unfold rtN
  rw [show a + 2 * g - 1 = (a - 2 * g + 2 * g - 1) + 2 * g by omega, Nat.add_div_right _ (by omega)]
theorem rtN_pos {a g : Nat} (h1 : 1 ≤ a) (hg : 1 ≤ g) : 1 ≤ rtN a g := by
  unfold rtN
  exact (Nat.le_div_iff_mul_le (by omega)).mpr (by omega)
theorem rtN_le {a g : Nat} (h1 : 1 ≤ a ∧ a ≤ 60) (hg : 1 ≤ g ∧ g ≤ 5) : rtN a g ≤ 30 := by
  unfold rtN
  refine Nat.le_of_lt_succ ((Nat.div_lt_iff_lt_mul (by omega)).mpr ?_)
  omega
section PR
variable {σ s : St} {m C : Nat} {T : List Nat}
theorem cl_sd_S (r : Nat) (x1 x2 : Int32) (σ : St) : fX11_simulateDone_L29 m (r + 1) x1 x2 σ = fX11_simulateDone_L29b m (fX11_simulateDone_L29 m r) x1 x2 σ := rfl
theorem cl_sim {N w n g : Nat} (hF : 2000 ≤ m) (hNN : N < 10 ^ 7) (hw : w < 3) (hg : 1 ≤ g ∧ g ≤ 5) : ∀ (d r i a v T' : Nat) (A : AM) (σ : St), CR σ 19 A → IN A.1 A.2 → IS A.1 0 T' N → HW A w n a v g → a ≤ 60 → 1 ≤ a → v + d = 16 → d < r → 1 ≤ i → i ≤ 1 + v → T' + d < 10 ^ 7 → ∃ τ, fX11_simulateDone_L29 m r (nI w) (nI i) σ = some (if v + (rtN a g - 1) * g < 12 then nI (i - 1 + rtN a g) else mI, τ) ∧ ∀ c, c < 19 ∨ 19 + 19 ≤ c → τ c = σ c := by
  intro d
  induction d using Nat.strongRecOn with
  | ind d ih =>
    intro r i a v T' A σ hC hI hs hh ha ha1 hd hr hi1 hi2 hT2
    obtain ⟨r, rfl⟩ : ∃ q, r = q + 1 := ⟨r - 1, by omega⟩
    have est := cl_isStuck hC.1 hw (by rw [hh.2.1]; omega)
    rw [hh.2.1] at est
    by_cases c : v < 12
    · rw [if_pos c] at est
      obtain ⟨τ, gg, p1, p2, -, p4⟩ := cl_pass (m := m) (n := 1) hF hC hI hs (by omega) hNN (by omega)
      have hst := hw_step hI hs hw hh c
      have hv2 := spStep_inv hI hs
      have hC2 : CR τ 19 (spStep A) := p2
      obtain ⟨hS2, W2, hn2⟩ := hC2
      have ehd := cl_isHeld hn2 hw
      by_cases c2 : a ≤ 2 * g
      · have e0 : hflag 0 = 0 := rfl
        rw [hst.1 c2, e0] at ehd
        refine ⟨τ, ?_, p4⟩
        rw [rtN_1 ha1 c2, if_pos (by omega), show i - 1 + 1 = i by omega]
        simp (disch := omega) only [pu_OB, pu_LET, pu_OX0, pu_BND, pu_NZ, pu_BL, pu_m1, nI_add, pk_sub, pk_mul, pk_div, nI_clamp, pu_eq, pu_ne, pu_le_t, pu_le_f, pu_lt_t, pu_lt_f, pu_nm, pu_mm, pu_u2e, pu_u2n, ↓reduceIte, li0, li1, li2, li3, li4, li5, li6, li7, li8, li9, li10, li11, li12, li13, li14, li15, li16, li17, li18, li19, li20, li21, li22, li23, li24, li25, li26, li27, li28, li29, li30, li31, li32, li33, li34, li35, li36, li37, li38, li39, li40, li41, li42, li43, li44, li45, li46, li47, li48, li49, li50, li51, li52, li53, li54, li55, li56, li57, li58, li59, li60, li64, li72, li87, li97, li98, li99, li100, li101, li102, li103, li104, li105, li108, li109, li110, li111, li112, li114, li115, li116, li117, li119, li120, li124, li126, li132, li139, li140, li148, li156, li1000, li1092, li1248, cl_sd_S, fX11_simulateDone_L29b, est, p1, ehd]
      · have hh2 := hst.2 (by omega)
        have e0 : hflag (n + 1) = 1 := if_neg (by omega)
        rw [hh2.1, e0] at ehd
        obtain ⟨τ2, q1, q2⟩ := ih (d - g) (by omega) r (i + 1) (a - 2 * g) (v + g) (T' + 1) (spStep A) τ ⟨hS2, W2, hn2⟩ hv2.1 hv2.2 hh2 (by omega) (by omega) (by omega) (by omega) (by omega) (by omega) (by omega)
        refine ⟨τ2, ?_, fun c hc => by rw [q2 c hc, p4 c hc]⟩
        have hrt := rtN_S (a := a) (g := g) (by omega) hg.1
        have hpos := rtN_pos (a := a - 2 * g) (g := g) (by omega) hg.1
        have hmul : (rtN (a - 2 * g) g + 1 - 1) * g = (rtN (a - 2 * g) g - 1) * g + g := by
          rw [show rtN (a - 2 * g) g + 1 - 1 = (rtN (a - 2 * g) g - 1) + 1 by omega, Nat.succ_mul]
        have hcond : (v + g + (rtN (a - 2 * g) g - 1) * g < 12) = (v + (rtN a g - 1) * g < 12) := by
          rw [hrt, hmul]
          exact congrArg (· < 12) (by omega)
        rw [show i + 1 - 1 + rtN (a - 2 * g) g = i - 1 + rtN a g by omega] at q1
        simp only [hcond] at q1
        simp (disch := omega) only [pu_OB, pu_LET, pu_OX0, pu_BND, pu_NZ, pu_BL, pu_m1, nI_add, pk_sub, pk_mul, pk_div, nI_clamp, pu_eq, pu_ne, pu_le_t, pu_le_f, pu_lt_t, pu_lt_f, pu_nm, pu_mm, pu_u2e, pu_u2n, ↓reduceIte, li0, li1, li2, li3, li4, li5, li6, li7, li8, li9, li10, li11, li12, li13, li14, li15, li16, li17, li18, li19, li20, li21, li22, li23, li24, li25, li26, li27, li28, li29, li30, li31, li32, li33, li34, li35, li36, li37, li38, li39, li40, li41, li42, li43, li44, li45, li46, li47, li48, li49, li50, li51, li52, li53, li54, li55, li56, li57, li58, li59, li60, li64, li72, li87, li97, li98, li99, li100, li101, li102, li103, li104, li105, li108, li109, li110, li111, li112, li114, li115, li116, li117, li119, li120, li124, li126, li132, li139, li140, li148, li156, li1000, li1092, li1248, cl_sd_S, fX11_simulateDone_L29b, est, p1, ehd]
        exact q1
    · rw [if_neg c] at est
      refine ⟨σ, ?_, fun c hc => rfl⟩
      rw [if_neg (by omega)]
      simp (disch := omega) only [pu_OB, pu_LET, pu_OX0, pu_BND, pu_NZ, pu_BL, pu_m1, nI_add, pk_sub, pk_mul, pk_div, nI_clamp, pu_eq, pu_ne, pu_le_t, pu_le_f, pu_lt_t, pu_lt_f, pu_nm, pu_mm, pu_u2e, pu_u2n, ↓reduceIte, li0, li1, li2, li3, li4, li5, li6, li7, li8, li9, li10, li11, li12, li13, li14, li15, li16, li17, li18, li19, li20, li21, li22, li23, li24, li25, li26, li27, li28, li29, li30, li31, li32, li33, li34, li35, li36, li37, li38, li39, li40, li41, li42, li43, li44, li45, li46, li47, li48, li49, li50, li51, li52, li53, li54, li55, li56, li57, li58, li59, li60, li64, li72, li87, li97, li98, li99, li100, li101, li102, li103, li104, li105, li108, li109, li110, li111, li112, li114, li115, li116, li117, li119, li120, li124, li126, li132, li139, li140, li148, li156, li1000, li1092, li1248, cl_sd_S, fX11_simulateDone_L29b, est]
theorem pd_pred {A : AM} {w : Nat} (hI : IN A.1 A.2) (hw : w < 3) : A.1 (13 + w) = 0 ∨ ∃ p, p < A.2.length ∧ A.1 (13 + w) = (A.2.getD p z4).1 + 1 := by
  rcases hI.2.2.2.1 w hw with h | ⟨e, he, h⟩
  · exact Or.inl h
  · obtain ⟨p, hp, rfl⟩ := mem_getD he
    exact Or.inr ⟨p, hp, h⟩
/-- the prediction of the mill: by simulation -/
def pdI (A : AM) (w : Nat) (x : Int32) : Prop := (A.1 (13 + w) = 0 ∧ x = mI) ∨ ∃ p, p < A.2.length ∧ A.1 (13 + w) = (A.2.getD p z4).1 + 1 ∧ x = rtI (A.2.getD p z4).2.2.2 (A.1 (10 + w)) (A.1 (7 + w))
theorem pdI_u {A : AM} {w : Nat} {x y : Int32} (hI : IN A.1 A.2) (hx : pdI A w x) (hy : pdI A w y) : x = y := by
  rcases hx with ⟨h1, rfl⟩ | ⟨p, hp, h1, rfl⟩
  · rcases hy with ⟨-, rfl⟩ | ⟨q, hq, h2, rfl⟩
    · rfl
    · omega
  · rcases hy with ⟨h2, rfl⟩ | ⟨q, hq, h2, rfl⟩
    · omega
    · rw [nd_ix hI.1 hp hq (by omega)]
theorem cl_simDone {A : AM} {T' N w : Nat} (hF : 2000 ≤ m) (hC : CR σ 0 A) (hI : IN A.1 A.2) (hs : IS A.1 0 T' N) (hT : T' + 60 < 10 ^ 7) (hNN : N < 10 ^ 7) (hw : w < 3) : ∃ x τ, fX11_simulateDone m (nI w) σ = some (x, τ) ∧ pdI A w x ∧ ∀ c, c < 19 ∨ 19 + 19 ≤ c → τ c = σ c := by
  have hC0 := hC
  obtain ⟨hS0, W, hn⟩ := hC0
  have ehd := cl_isHeld hn hw
  rcases pd_pred hI hw with h0 | ⟨p, hp, hh⟩
  · rw [h0] at ehd
    have e0 : hflag 0 = 0 := rfl
    refine ⟨mI, σ, ?_, Or.inl ⟨h0, rfl⟩, fun c hc => rfl⟩
    unfold fX11_simulateDone
    simp (disch := omega) only [pu_OB, pu_LET, pu_OX0, pu_BND, pu_NZ, pu_BL, pu_m1, nI_add, pk_sub, pk_mul, pk_div, nI_clamp, pu_eq, pu_ne, pu_le_t, pu_le_f, pu_lt_t, pu_lt_f, pu_nm, pu_mm, pu_u2e, pu_u2n, ↓reduceIte, li0, li1, li2, li3, li4, li5, li6, li7, li8, li9, li10, li11, li12, li13, li14, li15, li16, li17, li18, li19, li20, li21, li22, li23, li24, li25, li26, li27, li28, li29, li30, li31, li32, li33, li34, li35, li36, li37, li38, li39, li40, li41, li42, li43, li44, li45, li46, li47, li48, li49, li50, li51, li52, li53, li54, li55, li56, li57, li58, li59, li60, li64, li72, li87, li97, li98, li99, li100, li101, li102, li103, li104, li105, li108, li109, li110, li111, li112, li114, li115, li116, li117, li119, li120, li124, li126, li132, li139, li140, li148, li156, li1000, li1092, li1248, ehd, e0]
  · have hg := hs.2.1 w hw
    have he := hI.at hp
    have e0 : hflag (A.1 (13 + w)) = 1 := if_neg (by omega)
    rw [e0] at ehd
    obtain ⟨t, t1, t2, t3⟩ := cl_copy (k := 19) hF hC hI hs (by omega)
    obtain ⟨τ, q1, q2⟩ := cl_sim (m := m) (w := w) (n := (A.2.getD p z4).1) (g := A.1 (7 + w)) hF hNN hw ⟨hg.1, hg.2.1⟩ (16 - A.1 (10 + w)) m 1 (A.2.getD p z4).2.2.2 (A.1 (10 + w)) T' A t t2 hI hs ⟨hh, rfl, rfl, _, getD_mem hp, rfl, rfl⟩ (by omega) (by omega) (by omega) (by omega) (by omega) (by omega) (by omega)
    refine ⟨_, τ, ?_, Or.inr ⟨p, hp, hh, rfl⟩, fun c hc => by rw [q2 c hc, t3 c hc]⟩
    rw [show 1 - 1 + rtN (A.2.getD p z4).2.2.2 (A.1 (7 + w)) = rtN (A.2.getD p z4).2.2.2 (A.1 (7 + w)) by omega] at q1
    unfold fX11_simulateDone
    simp (disch := omega) only [pu_OB, pu_LET, pu_OX0, pu_BND, pu_NZ, pu_BL, pu_m1, nI_add, pk_sub, pk_mul, pk_div, nI_clamp, pu_eq, pu_ne, pu_le_t, pu_le_f, pu_lt_t, pu_lt_f, pu_nm, pu_mm, pu_u2e, pu_u2n, ↓reduceIte, li0, li1, li2, li3, li4, li5, li6, li7, li8, li9, li10, li11, li12, li13, li14, li15, li16, li17, li18, li19, li20, li21, li22, li23, li24, li25, li26, li27, li28, li29, li30, li31, li32, li33, li34, li35, li36, li37, li38, li39, li40, li41, li42, li43, li44, li45, li46, li47, li48, li49, li50, li51, li52, li53, li54, li55, li56, li57, li58, li59, li60, li64, li72, li87, li97, li98, li99, li100, li101, li102, li103, li104, li105, li108, li109, li110, li111, li112, li114, li115, li116, li117, li119, li120, li124, li126, li132, li139, li140, li148, li156, li1000, li1092, li1248, ehd, t1]
    exact q1
theorem rt_bd {A : AM} {T' N w p : Nat} (hI : IN A.1 A.2) (hs : IS A.1 0 T' N) (hw : w < 3) (hp : p < A.2.length) : 1 ≤ rtN (A.2.getD p z4).2.2.2 (A.1 (7 + w)) ∧ rtN (A.2.getD p z4).2.2.2 (A.1 (7 + w)) ≤ 30 ∧ (rtN (A.2.getD p z4).2.2.2 (A.1 (7 + w)) - 1) * A.1 (7 + w) ≤ 150 := by
  have hg := hs.2.1 w hw
  have he := hI.at hp
  have h1 := rtN_pos (a := (A.2.getD p z4).2.2.2) (g := A.1 (7 + w)) (by omega) (by omega)
  have h2 := rtN_le (a := (A.2.getD p z4).2.2.2) (g := A.1 (7 + w)) (by omega) (by omega)
  refine ⟨h1, h2, ?_⟩
  have := Nat.mul_le_mul (show rtN (A.2.getD p z4).2.2.2 (A.1 (7 + w)) - 1 ≤ 30 by omega) (show A.1 (7 + w) ≤ 5 by omega)
  omega
theorem cl_byRate {A : AM} {T' N w : Nat} (hC : CR σ 0 A) (hI : IN A.1 A.2) (hs : IS A.1 0 T' N) (hw : w < 3) : ∃ x, fX6_stepsByRate 0 (nI w) σ = some (x, σ) ∧ pdI A w x := by
  have hC0 := hC
  obtain ⟨hS0, W, hn⟩ := hC0
  have ehd := cl_isHeld hn hw
  have hg := hs.2.1 w hw
  have e7 := hS0.gear hw
  have e10 := hS0.wear hw
  rcases pd_pred hI hw with h0 | ⟨p, hp, hh⟩
  · rw [h0] at ehd
    have e0 : hflag 0 = 0 := rfl
    refine ⟨mI, ?_, Or.inl ⟨h0, rfl⟩⟩
    unfold fX6_stepsByRate
    simp (disch := omega) only [pu_OB, pu_LET, pu_OX0, pu_BND, pu_NZ, pu_BL, pu_m1, nI_add, pk_sub, pk_mul, pk_div, nI_clamp, pu_eq, pu_ne, pu_le_t, pu_le_f, pu_lt_t, pu_lt_f, pu_nm, pu_mm, pu_u2e, pu_u2n, ↓reduceIte, li0, li1, li2, li3, li4, li5, li6, li7, li8, li9, li10, li11, li12, li13, li14, li15, li16, li17, li18, li19, li20, li21, li22, li23, li24, li25, li26, li27, li28, li29, li30, li31, li32, li33, li34, li35, li36, li37, li38, li39, li40, li41, li42, li43, li44, li45, li46, li47, li48, li49, li50, li51, li52, li53, li54, li55, li56, li57, li58, li59, li60, li64, li72, li87, li97, li98, li99, li100, li101, li102, li103, li104, li105, li108, li109, li110, li111, li112, li114, li115, li116, li117, li119, li120, li124, li126, li132, li139, li140, li148, li156, li1000, li1092, li1248, e7, ehd, e0]
  · have he := hI.at hp
    have e0 : hflag (A.1 (13 + w)) = 1 := if_neg (by omega)
    rw [e0] at ehd
    have e4 := ((hn.2.2.2 w hw).2 _ (getD_mem hp) hh).2.2.2
    have hb := rt_bd (w := w) hI hs hw hp
    have e5 : nI ((A.2.getD p z4).2.2.2 + 2 * A.1 (7 + w) - 1) / nI (2 * A.1 (7 + w)) = nI (rtN (A.2.getD p z4).2.2.2 (A.1 (7 + w))) := pk_div (by omega) (by omega) (by omega)
    refine ⟨_, ?_, Or.inr ⟨p, hp, hh, rfl⟩⟩
    unfold fX6_stepsByRate rtI
    by_cases c : A.1 (10 + w) + (rtN (A.2.getD p z4).2.2.2 (A.1 (7 + w)) - 1) * A.1 (7 + w) < 12
    · rw [if_pos c]
      simp (disch := omega) only [pu_OB, pu_LET, pu_OX0, pu_BND, pu_NZ, pu_BL, pu_m1, nI_add, pk_sub, pk_mul, pk_div, nI_clamp, pu_eq, pu_ne, pu_le_t, pu_le_f, pu_lt_t, pu_lt_f, pu_nm, pu_mm, pu_u2e, pu_u2n, ↓reduceIte, li0, li1, li2, li3, li4, li5, li6, li7, li8, li9, li10, li11, li12, li13, li14, li15, li16, li17, li18, li19, li20, li21, li22, li23, li24, li25, li26, li27, li28, li29, li30, li31, li32, li33, li34, li35, li36, li37, li38, li39, li40, li41, li42, li43, li44, li45, li46, li47, li48, li49, li50, li51, li52, li53, li54, li55, li56, li57, li58, li59, li60, li64, li72, li87, li97, li98, li99, li100, li101, li102, li103, li104, li105, li108, li109, li110, li111, li112, li114, li115, li116, li117, li119, li120, li124, li126, li132, li139, li140, li148, li156, li1000, li1092, li1248, e7, ehd, cl_slotOn, e4, e5, e10]
    · rw [if_neg c]
      simp (disch := omega) only [pu_OB, pu_LET, pu_OX0, pu_BND, pu_NZ, pu_BL, pu_m1, nI_add, pk_sub, pk_mul, pk_div, nI_clamp, pu_eq, pu_ne, pu_le_t, pu_le_f, pu_lt_t, pu_lt_f, pu_nm, pu_mm, pu_u2e, pu_u2n, ↓reduceIte, li0, li1, li2, li3, li4, li5, li6, li7, li8, li9, li10, li11, li12, li13, li14, li15, li16, li17, li18, li19, li20, li21, li22, li23, li24, li25, li26, li27, li28, li29, li30, li31, li32, li33, li34, li35, li36, li37, li38, li39, li40, li41, li42, li43, li44, li45, li46, li47, li48, li49, li50, li51, li52, li53, li54, li55, li56, li57, li58, li59, li60, li64, li72, li87, li97, li98, li99, li100, li101, li102, li103, li104, li105, li108, li109, li110, li111, li112, li114, li115, li116, li117, li119, li120, li124, li126, li132, li139, li140, li148, li156, li1000, li1092, li1248, e7, ehd, cl_slotOn, e4, e5, e10]
end PR

