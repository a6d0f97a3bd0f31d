-- ===== p61: what the law's walk stands on =====
theorem KO.ok {fc : Option ((Nat × Int32) × St)} {σ : St} {A : AM} {H : List AM} {S : Option AM} {B : List Nat} {er fl : Option Nat} {C : Nat} {o : OU} (h0 : o.1 = 0) (hk : KO fc σ A H S B er fl C o) : ∃ τ, fc = some ((0, o.2.1), τ) ∧ KG τ o.2.2 (pushH H A) S B er fl (C + 1) := by
  rcases hk with ⟨-, τ, h1, h2⟩ | ⟨h1, -⟩
  · exact ⟨τ, h1, h2⟩
  · omega
theorem KO.no {fc : Option ((Nat × Int32) × St)} {σ : St} {A : AM} {H : List AM} {S : Option AM} {B : List Nat} {er fl : Option Nat} {C : Nat} {o : OU} (h0 : o.1 ≠ 0) (hk : KO fc σ A H S B er fl C o) : fc = some ((rcode o.1, 0), σ) := by
  rcases hk with ⟨h1, -⟩ | ⟨-, -, h1, -⟩
  · exact absurd h1 h0
  · exact h1
theorem ph_1 (H : List AM) (A : AM) : ∃ Q, pushH H A = Q ++ [A] := by
  unfold pushH
  split
  · exact ⟨_, rfl⟩
  · exact ⟨_, rfl⟩
theorem ph_S (Q l : List AM) (X : AM) (h : l.length < 8) : ∃ Q', pushH (Q ++ l) X = Q' ++ (l ++ [X]) := by
  unfold pushH
  by_cases c : (Q ++ l).length = 8
  · rw [if_pos c]
    cases Q with
    | nil => rw [List.nil_append] at c; omega
    | cons q Q => exact ⟨Q, by rw [List.cons_append, List.tail_cons, List.append_assoc]⟩
  · rw [if_neg c]
    exact ⟨Q, List.append_assoc _ _ _⟩
theorem u_l {σ : St} {X Y : AM} {Q l : List AM} {S : Option AM} {B : List Nat} {er fl : Option Nat} {C : Nat} (h : KG σ X (Q ++ (l ++ [Y])) S B er fl C) : ∃ (τ : St) (n : Nat), fX11_undo 2000 σ = some ((0, nI n), τ) ∧ n < 2 ^ 31 ∧ KG τ Y (Q ++ l) S B er fl C := by
  have e : (Q ++ (l ++ [Y])).length = (Q ++ l).length + 1 := by rw [← List.append_assoc, List.length_append]; rfl
  have h8 : (Q ++ (l ++ [Y])).length ≤ 8 := by
    obtain ⟨nx, -, -, -, h4, -⟩ := h.2.1.2.1
    exact h4
  obtain ⟨τ, t1, t2⟩ := q_undo (m := 2000) (Nat.le_refl _) h (by omega)
  refine ⟨τ, _, t1, by omega, ?_⟩
  have e1 : (Q ++ (l ++ [Y])).getD ((Q ++ (l ++ [Y])).length - 1) A0 = Y := by
    rw [e, Nat.add_sub_cancel, ← List.append_assoc, List.getD_eq_getElem?_getD, List.getElem?_append_right (Nat.le_refl _), Nat.sub_self]
    rfl
  have e2 : (Q ++ (l ++ [Y])).dropLast = Q ++ l := by
    rw [← List.append_assoc]
    exact List.dropLast_concat
  rw [e1, e2] at t2
  exact t2
theorem sw2 {N : Nat} {sh : Nat → Sh} {cA : Nat → ClassId} {ad a1 a2 : Nat → Nat} {f1 f2 R : va_W} {s1 s2 : St} : List.Perm (gwd N sh cA ad a1 (f1 ++ (gwd N sh cA ad a2 f2 s2 ++ R)) s1) (gwd N sh cA ad a2 (f2 ++ (gwd N sh cA ad a1 f1 s1 ++ R)) s2) := by
  rw [gwd_app, gwd_app, ← List.append_assoc, ← List.append_assoc]
  exact List.perm_append_comm.append_right R
def A4a (A : AM) : AM := (upN A.1 8 4, A.2)
def A4b (A : AM) : AM := (upN (A4a A).1 23 9, A.2)
def A4c (A : AM) : AM := (upN (A4b A).1 12 0, A.2)
def A4 (A : AM) : AM := spN 3 (A4c A)
theorem sc_0 : (prS (vT.getD 0 []) 12 0).1 = true ∧ (prS (vT.getD 0 []) 12 0).2.2 = [(2, 1, 4, 0), (3, 7, 9, 0), (4, 2, 0, 0), (7, 3, 0, 0)] := by decide +kernel
theorem sc_1 : (prS (vT.getD 1 []) 12 0).1 = true ∧ (prS (vT.getD 1 []) 12 0).2.2 = [(7, 1, 0, 0), (2, 0, 6, 0)] := by decide +kernel
theorem sc_2 : (prS (vT.getD 2 []) 12 0).1 = true ∧ (prS (vT.getD 2 []) 12 0).2.2 = [(7, 41, 0, 0)] := by decide +kernel
theorem oa_1 (A : AM) : oGear A 1 4 = (0, nI (A.1 8), A4a A) := by
  unfold oGear
  rw [if_pos (by decide), if_pos (by decide)]
  rfl
theorem oa_2 (A : AM) : oMesh (A4a A) 7 9 = (0, nI ((A4a A).1 23), A4b A) := by
  unfold oMesh
  rw [if_pos (by decide)]
  rfl
theorem oa_3 (A : AM) : oClear (A4b A) 2 = (0, nI ((A4b A).1 12), A4c A) := by
  unfold oClear
  rw [if_pos (by decide)]
  rfl
theorem oa_4 (A : AM) : oAdv (A4c A) 3 = (0, nI ((A4 A).1 3 - (A4c A).1 3), A4 A) := by
  unfold oAdv A4
  rw [if_pos (by decide)]
theorem oc_2 (v : Nat × Nat × Nat) (X : AM) : oCmd 2 v X = oGear X (aN v 0) (aN v 1) := by
  unfold oCmd
  rw [if_neg (by decide), if_neg (by decide), if_pos rfl]
theorem oc_3 (v : Nat × Nat × Nat) (X : AM) : oCmd 3 v X = oMesh X (aN v 0) (aN v 1) := by
  unfold oCmd
  rw [if_neg (by decide), if_neg (by decide), if_neg (by decide), if_pos rfl]
theorem oc_4 (v : Nat × Nat × Nat) (X : AM) : oCmd 4 v X = oClear X (aN v 0) := by
  unfold oCmd
  rw [if_neg (by decide), if_neg (by decide), if_neg (by decide), if_neg (by decide), if_pos rfl]
theorem oc_7 (v : Nat × Nat × Nat) (X : AM) : oCmd 7 v X = oAdv X (aN v 0) := by
  unfold oCmd
  rw [if_neg (by decide), if_neg (by decide), if_neg (by decide), if_neg (by decide), if_neg (by decide), if_neg (by decide), if_neg (by decide)]
theorem tcS_n (i : Nat) (X : AM) : tcS [] i X = (none, X) := rfl
theorem tc_0 (A : AM) : tcS [(2, 1, 4, 0), (3, 7, 9, 0), (4, 2, 0, 0), (7, 3, 0, 0)] 0 A = (none, A4 A) := by
  have e1 : oCmd 2 (1, 4, 0) A = (0, nI (A.1 8), A4a A) := (oc_2 _ _).trans (oa_1 A)
  have e2 : oCmd 3 (7, 9, 0) (A4a A) = (0, nI ((A4a A).1 23), A4b A) := (oc_3 _ _).trans (oa_2 A)
  have e3 : oCmd 4 (2, 0, 0) (A4b A) = (0, nI ((A4b A).1 12), A4c A) := (oc_4 _ _).trans (oa_3 A)
  have e4 : oCmd 7 (3, 0, 0) (A4c A) = (0, nI ((A4 A).1 3 - (A4c A).1 3), A4 A) := (oc_7 _ _).trans (oa_4 A)
  rw [tcS_c]
  show (if (oCmd 2 (1, 4, 0) A).1 = 0 then tcS [(3, 7, 9, 0), (4, 2, 0, 0), (7, 3, 0, 0)] 1 (oCmd 2 (1, 4, 0) A).2.2 else (some 0, A)) = _
  rw [e1, if_pos rfl, tcS_c]
  show (if (oCmd 3 (7, 9, 0) (A4a A)).1 = 0 then tcS [(4, 2, 0, 0), (7, 3, 0, 0)] 2 (oCmd 3 (7, 9, 0) (A4a A)).2.2 else (some 1, A4a A)) = _
  rw [e2, if_pos rfl, tcS_c]
  show (if (oCmd 4 (2, 0, 0) (A4b A)).1 = 0 then tcS [(7, 3, 0, 0)] 3 (oCmd 4 (2, 0, 0) (A4b A)).2.2 else (some 2, A4b A)) = _
  rw [e3, if_pos rfl, tcS_c]
  show (if (oCmd 7 (3, 0, 0) (A4c A)).1 = 0 then tcS [] 4 (oCmd 7 (3, 0, 0) (A4c A)).2.2 else (some 3, A4c A)) = _
  rw [e4, if_pos rfl]
  dsimp only
  exact tcS_n 4 (A4 A)
theorem tc_1 (A : AM) : (tcS [(7, 1, 0, 0), (2, 0, 6, 0)] 0 A).1 = some 1 := by
  have e1 : oCmd 7 (1, 0, 0) A = (0, nI ((spN 1 A).1 3 - A.1 3), spN 1 A) := (oc_7 _ _).trans (by unfold oAdv; exact if_pos (by decide))
  have e2 : oCmd 2 (0, 6, 0) (spN 1 A) = (2, 0, spN 1 A) := (oc_2 _ _).trans (by unfold oGear; rw [if_pos (by decide)]; exact if_neg (by decide))
  rw [tcS_c]
  show (if (oCmd 7 (1, 0, 0) A).1 = 0 then tcS [(2, 0, 6, 0)] 1 (oCmd 7 (1, 0, 0) A).2.2 else (some 0, A)).1 = _
  rw [e1, if_pos rfl, tcS_c]
  show (if (oCmd 2 (0, 6, 0) (spN 1 A)).1 = 0 then tcS [] 2 (oCmd 2 (0, 6, 0) (spN 1 A)).2.2 else (some 1, spN 1 A)).1 = _
  rw [e2]
  show (if (2 : Nat) = 0 then _ else (some 1, spN 1 A)).1 = some 1
  rw [if_neg (by decide)]
theorem tc_2 (A : AM) : (tcS [(7, 41, 0, 0)] 0 A).1 = some 0 := by
  have e1 : oCmd 7 (41, 0, 0) A = (2, 0, A) := (oc_7 _ _).trans (by unfold oAdv; exact if_neg (by decide))
  rw [tcS_c]
  show (if (oCmd 7 (41, 0, 0) A).1 = 0 then tcS [] 1 (oCmd 7 (41, 0, 0) A).2.2 else (some 0, A)).1 = _
  rw [e1]
  show (if (2 : Nat) = 0 then _ else (some 0, A)).1 = some 0
  rw [if_neg (by decide)]
theorem sm_4 : ∀ l : List CW, l.all (fun q => decide (q.2.1 < 2 ^ 31) && (decide (q.2.2.1 < 2 ^ 31) && decide (q.2.2.2 < 2 ^ 31))) = true → ∀ q ∈ l, ∀ a, a < 3 → aN q.2 a < 2 ^ 31 := by
  intro l h q hq a ha
  have h9 := List.all_eq_true.mp h q hq
  rw [Bool.and_eq_true, Bool.and_eq_true, decide_eq_true_eq, decide_eq_true_eq, decide_eq_true_eq] at h9
  rcases (show a = 0 ∨ a = 1 ∨ a = 2 by omega) with rfl | rfl | rfl
  · exact h9.1
  · exact h9.2.1
  · exact h9.2.2
/-- the script of text 0 -/
theorem run_0 {σ : St} {A : AM} {H : List AM} {S : Option AM} {er fl : Option Nat} {C : Nat} (hC : C < 512) (h : KG σ A H S (vT.getD 0 []) er fl C) : ∃ τ, fX11_runScript 2000 σ = some ((0, nI 4), τ) ∧ KG τ (A4 A) (pushH H A) S [] er fl (C + 1) := by
  have h9 := k_run (m := 2000) (Nat.le_refl _) hC h (by rw [sc_0.2]; exact sm_4 _ (by decide))
  obtain ⟨τ, e, k⟩ := h9.2.1 sc_0.1 (by rw [sc_0.2, tc_0])
  rw [sc_0.2] at e k
  rw [tc_0] at k
  dsimp only at k
  exact ⟨τ, e, k⟩
theorem run_1 {σ : St} {A : AM} {H : List AM} {S : Option AM} {er fl : Option Nat} {C : Nat} (hC : C < 512) (h : KG σ A H S (vT.getD 1 []) er fl C) : ∃ τ, fX11_runScript 2000 σ = some ((4, 0), τ) ∧ KG τ A H S [] er (some 1) C := by
  have h9 := k_run (m := 2000) (Nat.le_refl _) hC h (by rw [sc_1.2]; exact sm_4 _ (by decide))
  exact h9.2.2 sc_1.1 1 (by rw [sc_1.2]; exact tc_1 A)
theorem run_2 {σ : St} {A : AM} {H : List AM} {S : Option AM} {er fl : Option Nat} {C : Nat} (hC : C < 512) (h : KG σ A H S (vT.getD 2 []) er fl C) : ∃ τ, fX11_runScript 2000 σ = some ((4, 0), τ) ∧ KG τ A H S [] er (some 0) C := by
  have h9 := k_run (m := 2000) (Nat.le_refl _) hC h (by rw [sc_2.2]; exact sm_4 _ (by decide))
  exact h9.2.2 sc_2.1 0 (by rw [sc_2.2]; exact tc_2 A)
theorem bd_gear {σ : St} {A : AM} {H : List AM} {S : Option AM} {B : List Nat} {er fl : Option Nat} {C : Nat} (h : KG σ A H S B er fl C) : (∀ w, w < 3 → A.1 (7 + w) < 2 ^ 31 ∧ A.1 (10 + w) < 2 ^ 31) ∧ (∀ b, b < 8 → A.1 (16 + b) < 2 ^ 31) ∧ A.1 3 ≤ 30 * (480 * C) := by
  have hs := h.2.2.1.2
  refine ⟨fun w hw => ?_, fun b hb9 => ?_, ?_⟩
  · have := hs.2.1 w hw
    omega
  · have := hs.2.2.1 b hb9
    omega
  · have := hs.1
    omega
theorem v_k (k : Nat) (hk : k < 16) : (vT.getD k []).length ≤ 60 := by
  have h : (List.range 16).all (fun k => decide ((vT.getD k []).length ≤ 60)) = true := by decide
  exact of_decide_eq_true (List.all_eq_true.mp h k (List.mem_range.mpr hk))
theorem z_all2 {m0 a0 : Nat} (hm : m0 < 8) (h1 : 20 ≤ a0) (h2 : a0 < 52) : zB2 m0 a0 = true := by
  have h := List.all_eq_true.mp (List.all_eq_true.mp z_2 m0 (List.mem_range.mpr hm)) (a0 - 20) (List.mem_range.mpr (by omega))
  rwa [show 20 + (a0 - 20) = a0 by omega] at h
theorem z_all3 {m0 a0 : Nat} (hm : m0 < 8) (h1 : 20 ≤ a0) (h2 : a0 < 52) : zB3 m0 a0 = true := by
  have h := List.all_eq_true.mp (List.all_eq_true.mp z_3 m0 (List.mem_range.mpr hm)) (a0 - 20) (List.mem_range.mpr (by omega))
  rwa [show 20 + (a0 - 20) = a0 by omega] at h
theorem z_all4 {m0 a0 : Nat} (hm : m0 < 8) (h1 : 20 ≤ a0) (h2 : a0 < 52) : zB4 m0 a0 = true := by
  have h := List.all_eq_true.mp (List.all_eq_true.mp z_4 m0 (List.mem_range.mpr hm)) (a0 - 20) (List.mem_range.mpr (by omega))
  rwa [show 20 + (a0 - 20) = a0 by omega] at h
theorem z_allA {a0 : Nat} (h1 : 20 ≤ a0) (h2 : a0 < 52) : zA a0 = true := by
  have h := List.all_eq_true.mp z_A (a0 - 20) (List.mem_range.mpr (by omega))
  rwa [show 20 + (a0 - 20) = a0 by omega] at h
theorem r_mesh {A : AM} {b g : Nat} (h : b < 8 ∧ g < 10) : (oMesh A b g).2.1 = nI (A.1 (16 + b)) := by
  unfold oMesh
  rw [if_pos h]
theorem r_gear {A : AM} {w g : Nat} (h : w < 3) (h2 : 1 ≤ g ∧ g ≤ 5) : (oGear A w g).2.1 = nI (A.1 (7 + w)) := by
  unfold oGear
  rw [if_pos h, if_pos h2]
theorem r_clear {A : AM} {w : Nat} (h : w < 3) : (oClear A w).2.1 = nI (A.1 (10 + w)) := by
  unfold oClear
  rw [if_pos h]
theorem r_adv {A : AM} {n : Nat} (h : 1 ≤ n ∧ n ≤ 40) : (oAdv A n).2.1 = nI ((spN n A).1 3 - A.1 3) := by
  unfold oAdv
  rw [if_pos h]
theorem r_rel {A : AM} {w : Nat} (h : (oRel A w).1 = 0) : (oRel A w).2.1 = nI (A.1 (13 + w) - 1) := by
  unfold oRel at h ⊢
  by_cases c1 : w < 3
  · rw [if_pos c1] at h ⊢
    by_cases c2 : A.1 (13 + w) = 0
    · rw [if_pos c2] at h
      exact absurd (show (3 : Nat) = 0 from h) (by decide)
    · rw [if_neg c2] at h ⊢
      by_cases c3 : A.2.countP (wt A.1) < 12
      · rw [if_pos c3]
      · rw [if_neg c3] at h
        exact absurd (show (4 : Nat) = 0 from h) (by decide)
  · rw [if_neg c1] at h
    exact absurd (show (1 : Nat) = 0 from h) (by decide)
theorem mn9 {n : Nat} {r : Int32} (h : r = if n < 10 then nI n else nI 10) : r = nI (min 10 n) := by
  rw [h]
  by_cases c : n < 10
  · rw [if_pos c, Nat.min_eq_right (by omega)]
  · rw [if_neg c, Nat.min_eq_left (by omega)]
section QS
variable {σ : St} {A : AM} {H : List AM} {S : Option AM} {B : List Nat} {er fl : Option Nat} {C : Nat} {e : E4}
theorem qs_wait (hC : C < 512) (h : KG σ A H S B er fl C) (hL : A.2 = [e]) : fX11_isWaiting 2000 (nI e.1) σ = some ((0, nI (if wt A.1 e = true then 1 else 0)), σ) := by
  have h9 := q_isWaiting (m := 2000) (Nat.le_refl _) hC h (i := 0) (by rw [hL]; exact Nat.zero_lt_one)
  rw [hL] at h9
  exact h9
theorem qs_amount (hC : C < 512) (h : KG σ A H S B er fl C) (hL : A.2 = [e]) : fX11_amount 2000 (nI e.1) σ = some ((0, nI e.2.2.2), σ) := by
  have h9 := q_amount (m := 2000) (Nat.le_refl _) hC h (i := 0) (by rw [hL]; exact Nat.zero_lt_one)
  rw [hL] at h9
  exact h9
theorem qs_wheel (hC : C < 512) (h : KG σ A H S B er fl C) (hL : A.2 = [e]) {w : Nat} (hw : w < 3) (hh : A.1 (13 + w) = e.1 + 1) : fX11_wheelOf 2000 (nI e.1) σ = some ((0, nI w), σ) := by
  have h9 := q_wheelOf (m := 2000) (Nat.le_refl _) hC h (i := 0) (by rw [hL]; exact Nat.zero_lt_one) hw (by rw [hL]; exact hh)
  rw [hL] at h9
  exact h9
theorem qs_exf (hC : C < 512) (h : KG σ A H S B er fl C) (hL : A.2 = [e]) {x : Int32} (hx : nI e.1 ≠ x) : fX11_exists 2000 x σ = some (nI 0, σ) := by
  refine q_exists_f (m := 2000) (Nat.le_refl _) hC h fun j hj => ?_
  rw [hL] at hj ⊢
  have hj : j < 1 := hj
  obtain rfl : j = 0 := by omega
  exact hx
theorem qs_on (h : KG σ A H S B er fl C) (hC : C < 512) {w n : Nat} (hw : w < 3) (hh : A.1 (13 + w) = n + 1) : fX11_noiseOn (nI w) σ = some ((0, nI n), σ) := by
  have h9 := q_noiseOn h hC hw
  rw [if_neg (by omega), hh, Nat.add_sub_cancel] at h9
  exact h9
theorem qs_jam0 (hC : C < 512) (h : KG σ A H S B er fl C) (h12 : 12 ≤ A.1 (10 + 0)) : ∃ τ, KG τ A H S B er fl C ∧ fX11_stepsUntilJam 2000 (nI 0) σ = some ((0, nI 0), τ) := by
  obtain ⟨τ, k, e9⟩ := q_untilJam (m := 2000) (Nat.le_refl _) hC h (w := 0) (by decide)
  have hj : jamO 0 61 0 A = some 0 := by
    rw [jamO_S, if_pos h12]
  rw [hj] at e9
  exact ⟨τ, k, e9⟩
theorem qs_jamN (hC : C < 512) (h : KG σ A H S B er fl C) (hj : jamO 0 61 0 A = none) : ∃ τ, KG τ A H S B er fl C ∧ fX11_stepsUntilJam 2000 0 σ = some ((3, 0), τ) := by
  obtain ⟨τ, k, e9⟩ := q_untilJam (m := 2000) (Nat.le_refl _) hC h (w := 0) (by decide)
  rw [hj] at e9
  exact ⟨τ, k, e9⟩
theorem qs_done {a0 : Nat} (hC : C < 512) (h : KG σ A H S B er fl C) (hL : A.2 = [(0, 2, 5, a0 - 2)]) (h14 : A.1 14 = 1) (h11 : A.1 11 = 1) (h8 : A.1 8 = 1) : ∃ (c1 : Nat) (r : Int32) (τ : St), fX11_stepsUntilDone 2000 1 σ = some ((c1, r), τ) ∧ (c1 = 0 ∨ c1 = 3) ∧ (if c1 = 0 then r else -1) = rtI (a0 - 2) 1 1 ∧ KG τ A H S B er fl C := by
  obtain ⟨x, τ, hp, k, e9⟩ := q_untilDone (m := 2000) (Nat.le_refl _) hC h (w := 1) (by decide)
  have hx : x = rtI (a0 - 2) 1 1 := by
    rcases hp with ⟨h0, -⟩ | ⟨p, hp1, -, hp2⟩
    · rw [show A.1 (13 + 1) = 1 from h14] at h0
      omega
    · rw [hL] at hp1 hp2
      have hp1 : p < 1 := hp1
      obtain rfl : p = 0 := by omega
      rw [show A.1 (10 + 1) = 1 from h11, show A.1 (7 + 1) = 1 from h8] at hp2
      exact hp2
  by_cases c : x = mI
  · rw [if_pos c] at e9
    exact ⟨3, 0, τ, e9, Or.inr rfl, by rw [← hx, c]; rfl, k⟩
  · rw [if_neg c] at e9
    exact ⟨0, x, τ, e9, Or.inl rfl, by rw [if_pos rfl, hx], k⟩
theorem rt_st {n : Nat} (h1 : 1 ≤ n) : rtI n 1 1 = if (n + 1) / 2 < 12 then nI ((n + 1) / 2) else -1 := by
  have e : rtN n 1 = (n + 1) / 2 := by
    show (n + 2 * 1 - 1) / (2 * 1) = (n + 1) / 2
    rw [show n + 2 * 1 - 1 = n + 1 by omega]
  unfold rtI
  rw [e]
  by_cases c : (n + 1) / 2 < 12
  · rw [if_pos c, if_pos (by omega)]
  · rw [if_neg c, if_neg (by omega)]
    rfl
end QS
