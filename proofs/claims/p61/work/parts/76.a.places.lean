-- ===== what the tables say of the places of the start =====
theorem i_Jx00060 : ∀ w ∈ u_ws RJx00060 TJx00060 6, w ∈ BIG := show ∀ w ∈ ([u_lay RJx00060 TJx00060 0, u_lay RJx00060 TJx00060 1, u_lay RJx00060 TJx00060 2, u_lay RJx00060 TJx00060 3, u_lay RJx00060 TJx00060 4, u_lay RJx00060 TJx00060 5] : List Cond), w ∈ BIG from List.forall_mem_cons.mpr ⟨q5_152, List.forall_mem_cons.mpr ⟨q5_153, List.forall_mem_cons.mpr ⟨q5_154, List.forall_mem_cons.mpr ⟨q5_155, List.forall_mem_cons.mpr ⟨q5_156, List.forall_mem_cons.mpr ⟨q5_157, List.forall_mem_nil _⟩⟩⟩⟩⟩⟩
theorem kn_in : ∀ q ∈ vwCl, (∀ w ∈ u_ws q.1 q.2.1 q.2.2, w ∈ lw_tbl) ∧ ∃ n, Cond.instantiable q.1 n ∈ lw_tbl := List.forall_mem_cons.mpr ⟨⟨fun w h => big_sub w (i_J0 w h), _, big_sub _ q5_163⟩, List.forall_mem_cons.mpr ⟨⟨fun w h => big_sub w (i_J4 w h), _, big_sub _ q2_19⟩, List.forall_mem_cons.mpr ⟨⟨fun w h => big_sub w (i_Jx00060 w h), _, big_sub _ q5_148⟩, List.forall_mem_cons.mpr ⟨⟨fun w h => big_sub w (i_Jx35411 w h), _, big_sub _ q6_70⟩, List.forall_mem_cons.mpr ⟨⟨fun w h => big_sub w (i_Jx4a65c w h), _, big_sub _ q5_200⟩, List.forall_mem_cons.mpr ⟨⟨fun w h => big_sub w (i_X1 w h), _, big_sub _ q1_220⟩, List.forall_mem_cons.mpr ⟨⟨fun w h => big_sub w (i_X3 w h), _, big_sub _ q1_180⟩, List.forall_mem_cons.mpr ⟨⟨fun w h => big_sub w (i_X5 w h), _, big_sub _ q1_128⟩, List.forall_mem_cons.mpr ⟨⟨fun w h => big_sub w (i_X6 w h), _, big_sub _ q1_49⟩, List.forall_mem_cons.mpr ⟨⟨fun w h => big_sub w (i_X7 w h), _, big_sub _ q1_55⟩, List.forall_mem_cons.mpr ⟨⟨fun w h => big_sub w (i_X8 w h), _, big_sub _ q1_213⟩, List.forall_mem_cons.mpr ⟨⟨fun w h => big_sub w (i_X9 w h), _, big_sub _ q1_94⟩, List.forall_mem_cons.mpr ⟨⟨fun w h => big_sub w (i_X10 w h), _, big_sub _ q1_200⟩, List.forall_mem_cons.mpr ⟨⟨fun w h => big_sub w (i_X11 w h), _, big_sub _ q1_41⟩, List.forall_mem_nil _⟩⟩⟩⟩⟩⟩⟩⟩⟩⟩⟩⟩⟩⟩
set_option maxRecDepth 100000 in
theorem NF_tbl : NESTF.all (fun q => decide (Cond.fieldLinkNest q.1 q.2.1 q.2.2.1 q.2.2.2.1 q.2.2.2.2.1 q.2.2.2.2.2 ∈ lw_tbl)) = true := by decide +kernel
set_option maxRecDepth 100000 in
theorem NM_tbl : NESTM.all (fun q => decide (Cond.methodLinkNest q.1 q.2.1 q.2.2.1 q.2.2.2 ∈ lw_tbl)) = true := by decide +kernel
section S76
variable {s : State} {args : Array Value}
theorem nw_all (hts : ∀ w ∈ lw_tbl, w.before args s = true) : NW s := ⟨fun q hq => va_Nw.of rfl (hts _ (of_decide_eq_true (List.all_eq_true.mp NF_tbl q hq))), fun q hq => va_Nw.of rfl (hts _ (of_decide_eq_true (List.all_eq_true.mp NM_tbl q hq)))⟩
theorem kn_all (hts : ∀ w ∈ lw_tbl, w.before args s = true) : ∃ D : va_G, ∀ (k : Nat) (q : vw_C), vwCl[k]? = some q → u_Kn s q.1 q.2.1 q.2.2 (D.1 k) (D.2 k) := by
  have all : ∀ k : Nat, ∃ x : ClassId × (Nat → Nat), ∀ q : vw_C, vwCl[k]? = some q → u_Kn s q.1 q.2.1 q.2.2 x.1 x.2 := by
    intro k
    cases h : vwCl[k]? with
    | none => exact ⟨(0, fun _ => 0), fun q e => by cases e⟩
    | some q =>
      obtain ⟨h1, n, h2⟩ := kn_in q (List.mem_of_getElem? h)
      obtain ⟨cC, iS, h3⟩ := u_known (C := q.1) (T := q.2.1) (N := q.2.2) hts h1 (hts _ h2)
      exact ⟨(cC, iS), fun q' e => by cases e; exact h3⟩
  exact ⟨(fun k => (Classical.choose (all k)).1, fun k => (Classical.choose (all k)).2), fun k q h => Classical.choose_spec (all k) q h⟩
theorem ty_prim {ty : FieldType} (hn : ∀ C, ty ≠ .object C) (h : (Cond.arrayClass ty).before args s = true) : ∃ cA : ClassId, ArrOfT s cA ty ∧ va_RA s cA ty := by
  obtain ⟨cA, kA, comp, h1, h2, h3⟩ := Cond.arrayClass_spec h
  refine ⟨cA, fun n z => ⟨fun k h => (by cases h), kA, h2, comp, h3⟩, ?_⟩
  cases ty with
  | object C => exact absurd rfl (hn C)
  | _ => exact h1
theorem ty_obj {C : String} (h : va_AO C s) : ∃ cA : ClassId, ArrOfT s cA (.object C) ∧ va_RA s cA (.object C) := by
  obtain ⟨comp, c, k, h1, h2, h3, h4, h5⟩ := Cond.arrayOver_spec h
  exact ⟨c, fun N z => ⟨fun k h => (by cases h), k, h3, comp, h4⟩, k, comp, h3, h4, h1, h5⟩
theorem ty_all (hts : ∀ w ∈ lw_tbl, w.before args s = true) (hO : bO s) (hQ : va_AO "java/lang/Object" s) : ∃ cA : Nat → ClassId, ∀ (k : Nat) (q : ClassId × FieldType), (TYS cA)[k]? = some q → ArrOfT s q.1 q.2 ∧ va_RA s q.1 q.2 := by
  obtain ⟨c0, h0⟩ := ty_prim (fun C h => by cases h) (hts _ (big_sub _ q1_91))
  obtain ⟨c1, h1⟩ := ty_prim (fun C h => by cases h) (hts _ (big_sub _ q1_238))
  obtain ⟨c2, h2⟩ := ty_prim (fun C h => by cases h) (hts _ (big_sub _ q1_92))
  obtain ⟨c3, h3⟩ := ty_obj hO.2
  obtain ⟨c4, h4⟩ := ty_obj hO.1
  obtain ⟨c5, h5⟩ := ty_prim (fun C h => by cases h) (hts _ (big_sub _ q2_49))
  obtain ⟨c6, h6⟩ := ty_obj hQ
  refine ⟨fun k => match k with | 0 => c0 | 1 => c1 | 2 => c2 | 3 => c3 | 4 => c4 | 5 => c5 | _ => c6, fun k q h => ?_⟩
  match k, h with
  | 0, h => cases h; exact h0
  | 1, h => cases h; exact h1
  | 2, h => cases h; exact h2
  | 3, h => cases h; exact h3
  | 4, h => cases h; exact h4
  | 5, h => cases h; exact h5
  | 6, h => cases h; exact h6
  | k + 7, h => simp [TYS] at h
end S76
