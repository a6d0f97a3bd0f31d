theorem lt2_p {q : Nat → Prop} (h0 : q 0) (h1 : q 1) : ∀ v, v < 2 → q v := fun v hv => by
  rcases (show v = 0 ∨ v = 1 by omega) with rfl | rfl
  · exact h0
  · exact h1
theorem run_z {σ : St} {H : List AM} {S : Option AM} {er fl : Option Nat} {C a0 : Nat} (hC : C < 512) (ha1 : 20 ≤ a0) (ha2 : a0 < 52) (h : KG σ A00 H S (zT a0) er fl C) : ∃ τ, fX11_runScript 2000 σ = some ((0, nI 5), τ) ∧ KG τ (Z1 a0) (pushH H A00) S [] er fl (C + 1) := by
  have hz9 := z_allA ha1 ha2
  unfold zA at hz9
  simp only [Bool.and_eq_true, decide_eq_true_eq] at hz9
  obtain ⟨h1, h2, h3, -, -⟩ := hz9
  have hq : ∀ q ∈ (prS (zT a0) 12 0).2.2, ∀ a, a < 3 → aN q.2 a < 2 ^ 31 := by
    rw [h2]
    refine sm_4 _ ?_
    simp only [List.all_cons, List.all_nil, Bool.and_true, Bool.and_eq_true, decide_eq_true_eq]
    omega
  obtain ⟨τ, e, k⟩ := (k_run (m := 2000) (Nat.le_refl _) hC h hq).2.1 h1 (Option.isNone_iff_eq_none.mp h3)
  refine ⟨τ, ?_, k⟩
  rw [e, h2]
  rfl
theorem z_ok {a0 : Nat} (ha1 : 20 ≤ a0) (ha2 : a0 < 52) : ∀ j, j < 55 → 32 ≤ (zT a0).getD j 0 ∧ (zT a0).getD j 0 ≤ 126 := by
  have hz9 := z_allA ha1 ha2
  unfold zA at hz9
  simp only [Bool.and_eq_true, decide_eq_true_eq] at hz9
  obtain ⟨-, -, -, -, h5⟩ := hz9
  intro j hj
  have hj9 : j < (zT a0).length := hj
  have h9 := List.all_eq_true.mp h5 ((zT a0).getD j 0) (ngetD_mem hj9)
  rw [Bool.and_eq_true, decide_eq_true_eq, decide_eq_true_eq] at h9
  exact h9
theorem dv_193 : FP.ddiv (FP.i2d (nI 19)) (FP.i2d (nI 3)) = 4618816717837391189 := by decide +kernel
theorem dc_193 : Op.cmpValue (FP.dcmp 4618816717837391189 4618816717837391189) .l = 0 := by decide +kernel
theorem sw_new {N : Nat} {sh : Nat → Sh} {cA : Nat → ClassId} {ad a1 a2 : Nat → Nat} {f1 f2 R : va_W} {s1 s2 : St} : List.Perm (gwd N sh cA ad a1 (f1 ++ R) s1 ++ gwd N sh cA ad a2 f2 s2) (gwd N sh cA ad a2 (f2 ++ (gwd N sh cA ad a1 f1 s1 ++ R)) s2) := by
  rw [gwd_app, gwd_app]
  exact List.perm_append_comm
theorem f_at (k pos : Nat) (h : (k, pos) ∈ ([(3, 1), (4, 2), (5, 9), (6, 5), (7, 6), (8, 7), (9, 0), (10, 9), (11, 1), (12, 7), (13, 0)] : List (Nat × Nat))) : (prS (vT.getD k []) 12 0).1 = false ∧ (prS (vT.getD k []) 12 0).2.1 = pos := by
  have h9 := List.all_eq_true.mp f_ok (k, pos) h
  rw [Bool.and_eq_true, Bool.not_eq_true', decide_eq_true_eq] at h9
  exact h9
theorem v_byt (k j : Nat) (hk : k < 16) (hj : j < (vT.getD k []).length) : (vT.getD k []).getD j 0 < 256 ∧ (vByt.getD k []).getD j 0 = sb_b ((vT.getD k []).getD j 0) := by
  have h : (List.range 16).all (fun k => (List.range (vT.getD k []).length).all fun j => decide ((vT.getD k []).getD j 0 < 256) && decide ((vByt.getD k []).getD j 0 = sb_b ((vT.getD k []).getD j 0))) = true := by decide +kernel
  have h9 := List.all_eq_true.mp (List.all_eq_true.mp h k (List.mem_range.mpr hk)) j (List.mem_range.mpr hj)
  rw [Bool.and_eq_true, decide_eq_true_eq, decide_eq_true_eq] at h9
  exact h9
theorem zT_lo {a0 j : Nat} (h : j < 10) : (zT a0).getD j 0 = (vT.getD 14 []).getD j 0 := by
  rcases (show j = 0 ∨ j = 1 ∨ j = 2 ∨ j = 3 ∨ j = 4 ∨ j = 5 ∨ j = 6 ∨ j = 7 ∨ j = 8 ∨ j = 9 by omega) with rfl | rfl | rfl | rfl | rfl | rfl | rfl | rfl | rfl | rfl <;> rfl
theorem zT_hi {a0 j : Nat} : (zT a0).getD (12 + j) 0 = (vT.getD 15 []).getD j 0 := by
  unfold zT
  rw [List.getD_eq_getElem?_getD, List.getElem?_append_right (by show 12 ≤ 12 + j; omega), show 12 + j - ([110, 111, 105, 115, 101, 32, 50, 32, 53, 32] ++ [48 + a0 / 10, 48 + a0 % 10] : List Nat).length = j by show 12 + j - 12 = j; omega, ← List.getD_eq_getElem?_getD]
  rfl
theorem z_lat {a0 : Nat} {g9 : Nat → Int32} (ha1 : 20 ≤ a0) (ha2 : a0 < 52) (hdg9 : sb_dg a0 = 2) (hg1 : ∀ j, j < 0 + vLen.getD 14 0 ∨ 0 + vLen.getD 14 0 + sb_dg a0 ≤ j → g9 j = va_cpy (fun j => (vByt.getD 14 []).getD j 0) (fun _ => 0) 0 0 (vLen.getD 14 0) j) (hg2 : ∀ i, i < sb_dg a0 → g9 (0 + vLen.getD 14 0 + sb_dg a0 - 1 - i) = sb_b (48 + a0 / 10 ^ i % 10)) : sb_Lat (fun j => (zT a0).getD j 0) 55 (va_cpy (fun j => (vByt.getD 15 []).getD j 0) (va_cpy g9 (fun _ => 0) 0 0 16) 0 (0 + vLen.getD 14 0 + sb_dg a0) (vLen.getD 15 0)) := by
  have e14 : vLen.getD 14 0 = 10 := rfl
  have e15 : vLen.getD 15 0 = 43 := rfl
  rw [hdg9, e14] at hg1 hg2
  rw [hdg9, e14, e15]
  intro j hj
  by_cases h1 : j < 10
  · have h2 := v_byt 14 j (by decide) h1
    refine ⟨by show (zT a0).getD j 0 < 256; rw [zT_lo h1]; exact h2.1, ?_⟩
    have e1 : va_cpy (fun j => (vByt.getD 15 []).getD j 0) (va_cpy g9 (fun _ => 0) 0 0 16) 0 (0 + 10 + 2) 43 j = va_cpy g9 (fun _ => 0) 0 0 16 j := by
      unfold va_cpy
      rw [if_neg (by omega)]
    rw [e1, sb_cpy0 (by omega), hg1 j (Or.inl (by omega)), sb_cpy0 h1]
    show _ = sb_b ((zT a0).getD j 0)
    rw [zT_lo h1]
    exact h2.2
  · by_cases h2 : j < 12
    · have e1 : va_cpy (fun j => (vByt.getD 15 []).getD j 0) (va_cpy g9 (fun _ => 0) 0 0 16) 0 (0 + 10 + 2) 43 j = va_cpy g9 (fun _ => 0) 0 0 16 j := by
        unfold va_cpy
        rw [if_neg (by omega)]
      rw [e1, sb_cpy0 (by omega)]
      rcases (show j = 10 ∨ j = 11 by omega) with rfl | rfl
      · have h3 := hg2 1 (by omega)
        refine ⟨show 48 + a0 / 10 < 256 by omega, ?_⟩
        show g9 10 = sb_b (48 + a0 / 10)
        rw [show 0 + 10 + 2 - 1 - 1 = 10 from rfl] at h3
        rw [h3, Nat.pow_one, Nat.mod_eq_of_lt (show a0 / 10 < 10 by omega)]
      · have h3 := hg2 0 (by omega)
        refine ⟨show 48 + a0 % 10 < 256 by omega, ?_⟩
        show g9 11 = sb_b (48 + a0 % 10)
        rw [show 0 + 10 + 2 - 1 - 0 = 11 from rfl] at h3
        rw [h3, Nat.pow_zero, Nat.div_one]
    · obtain ⟨i, rfl⟩ : ∃ i, j = 12 + i := ⟨j - 12, by omega⟩
      have h3 := v_byt 15 i (by decide) (show i < 43 by omega)
      refine ⟨by show (zT a0).getD (12 + i) 0 < 256; rw [zT_hi]; exact h3.1, ?_⟩
      have e1 : va_cpy (fun j => (vByt.getD 15 []).getD j 0) (va_cpy g9 (fun _ => 0) 0 0 16) 0 (0 + 10 + 2) 43 (12 + i) = (vByt.getD 15 []).getD i 0 := by
        unfold va_cpy
        rw [if_pos (by omega)]
        exact congrArg (fun k => (vByt.getD 15 []).getD k 0) (by omega)
      rw [e1]
      show _ = sb_b ((zT a0).getD (12 + i) 0)
      rw [zT_hi]
      exact h3.2
