section S69
variable {s : State} {args : Array Value}
theorem gF {n : Nat} {P : List (List Bool)} {c : Nat → Cond} (hg : Gc.before args s = true) (h : (List.range n).all (fun i => decide (nav Gc (P.getD i []) = c i)) = true) {i : Nat} (hi : i < n) : (c i).before args s = true := by
  have h9 := of_decide_eq_true (List.all_eq_true.mp h i (List.mem_range.mpr hi))
  rw [← h9]
  exact nav_before _ _ hg
theorem tF {n : Nat} {P : List Nat} {c : Nat → Cond} (hts : ∀ w ∈ lw_tbl, w.before args s = true) (h : (List.range n).all (fun i => decide (tables_1[P.getD i 0]? = some (c i))) = true) {i : Nat} (hi : i < n) : (c i).before args s = true := by
  have h9 := of_decide_eq_true (List.all_eq_true.mp h i (List.mem_range.mpr hi))
  exact hts _ (List.mem_append_right _ (List.mem_of_getElem? h9))
theorem gD {n : Nat} {P : List (List Bool)} {tm : Nat → Term} (hg : Gc.before args s = true) (h : (List.range n).all (fun i => (List.range n).all (fun j => decide (i = j) || (decide (nav Gc (P.getD (n * i + j) []) = .not (.eq (tm i) (tm j))) || decide (nav Gc (P.getD (n * j + i) []) = .not (.eq (tm j) (tm i)))))) = true) {i j : Nat} (hi : i < n) (hj : j < n) (hij : i ≠ j) : (Cond.not (.eq (tm i) (tm j))).before args s = true ∨ (Cond.not (.eq (tm j) (tm i))).before args s = true := by
  have h9 := List.all_eq_true.mp (List.all_eq_true.mp h i (List.mem_range.mpr hi)) j (List.mem_range.mpr hj)
  rw [Bool.or_eq_true, Bool.or_eq_true, decide_eq_true_eq, decide_eq_true_eq, decide_eq_true_eq] at h9
  rcases h9 with h9 | h9 | h9
  · exact absurd h9 hij
  · exact Or.inl (by rw [← h9]; exact nav_before _ _ hg)
  · exact Or.inr (by rw [← h9]; exact nav_before _ _ hg)
theorem we_at (hg : Gc.before args s = true) {i j : Nat} (hi : i < 8) (hj : j < wLen.getD i 0) : (Cond.eq (.elem (.field (wtm i) "java/lang/String" "value" "[B") (.int (Int32.ofNat j))) (.int ((wByt.getD i []).getD j 0))).before args s = true := by
  have h9 := of_decide_eq_true (List.all_eq_true.mp (List.all_eq_true.mp st_we i (List.mem_range.mpr hi)) j (List.mem_range.mpr hj))
  rw [← h9]
  exact nav_before _ _ hg
theorem w_ne (hg : Gc.before args s = true) {i j : Nat} (hi : i < 8) (hj : j < 8) (hij : i ≠ j) : (Cond.not (.eq (wtm i) (wtm j))).before args s = true := by
  obtain ⟨x, -, -, -, hx, -⟩ := Cond.exactly_spec (gF hg st_wx hi)
  obtain ⟨y, -, -, -, hy, -⟩ := Cond.exactly_spec (gF hg st_wx hj)
  have hl : ∀ k, k < 2 → ∀ i, i < 8 → k < wLen.getD i 0 := by
    intro k hk i hi
    rcases (show i = 0 ∨ i = 1 ∨ i = 2 ∨ i = 3 ∨ i = 4 ∨ i = 5 ∨ i = 6 ∨ i = 7 by omega) with rfl | rfl | rfl | rfl | rfl | rfl | rfl | rfl <;> exact Nat.lt_of_lt_of_le hk (by decide)
  by_cases h : x = y
  · subst h
    have key : ∀ k, k < 2 → (wByt.getD i []).getD k 0 = (wByt.getD j []).getD k 0 := fun k hk => by
      have e1 := va_eqv (we_at hg hi (hl k hk i hi)) rfl
      have e2 := va_eqv (we_at hg hj (hl k hk j hj)) rfl
      have e3 : (Term.elem (.field (wtm i) "java/lang/String" "value" "[B") (.int (Int32.ofNat k))).eval args s none [] s = (Term.elem (.field (wtm j) "java/lang/String" "value" "[B") (.int (Int32.ofNat k))).eval args s none [] s := by
        simp only [Term.eval, hx, hy]
      rw [e1, e2] at e3
      injection e3 with e4
      injection e4
    have k0 := key 0 (by omega)
    have k1 := key 1 (by omega)
    have all : (List.range 8).all (fun i => (List.range 8).all (fun j => decide (i = j) || (!decide ((wByt.getD i []).getD 0 0 = (wByt.getD j []).getD 0 0) || !decide ((wByt.getD i []).getD 1 0 = (wByt.getD j []).getD 1 0)))) = true := by decide +kernel
    have h9 := List.all_eq_true.mp (List.all_eq_true.mp all i (List.mem_range.mpr hi)) j (List.mem_range.mpr hj)
    rw [k0, k1] at h9
    simp [hij] at h9
  · simp [Cond.before, Cond.holds, Cond.value, hx, hy, h]
theorem ve_at (hg : Gc.before args s = true) {i j : Nat} (hi : i < 16) (hj : j < vLen.getD i 0) : (Cond.eq (.elem (.field (vtm i) "java/lang/String" "value" "[B") (.int (Int32.ofNat j))) (.int ((vByt.getD i []).getD j 0))).before args s = true := by
  have h9 := of_decide_eq_true (List.all_eq_true.mp (List.all_eq_true.mp st_ve i (List.mem_range.mpr hi)) j (List.mem_range.mpr hj))
  rw [← h9]
  exact nav_before _ _ hg
theorem v_ne (hg : Gc.before args s = true) {i j : Nat} (hi : i < 16) (hj : j < 16) (hij : i ≠ j) : (Cond.not (.eq (vtm i) (vtm j))).before args s = true := by
  obtain ⟨x, -, -, -, hx, -⟩ := Cond.exactly_spec (gF hg st_vx hi)
  obtain ⟨y, -, -, -, hy, -⟩ := Cond.exactly_spec (gF hg st_vx hj)
  by_cases h : x = y
  · subst h
    have kl : Int32.ofNat (vLen.getD i 0) = Int32.ofNat (vLen.getD j 0) := by
      have e1 := va_eqv (gF hg st_vl hi) rfl
      have e2 := va_eqv (gF hg st_vl hj) rfl
      have e3 : (Term.length (.field (vtm i) "java/lang/String" "value" "[B")).eval args s none [] s = (Term.length (.field (vtm j) "java/lang/String" "value" "[B")).eval args s none [] s := by
        simp only [Term.eval, hx, hy]
      rw [e1, e2] at e3
      injection e3 with e4
      injection e4
    have key : ∀ k, k < vLen.getD i 0 → k < vLen.getD j 0 → (vByt.getD i []).getD k 0 = (vByt.getD j []).getD k 0 := fun k hk hk2 => by
      have e1 := va_eqv (ve_at hg hi hk) rfl
      have e2 := va_eqv (ve_at hg hj hk2) rfl
      have e3 : (Term.elem (.field (vtm i) "java/lang/String" "value" "[B") (.int (Int32.ofNat k))).eval args s none [] s = (Term.elem (.field (vtm j) "java/lang/String" "value" "[B") (.int (Int32.ofNat k))).eval args s none [] s := by
        simp only [Term.eval, hx, hy]
      rw [e1, e2] at e3
      injection e3 with e4
      injection e4
    have all : (List.range 16).all (fun i => (List.range 16).all (fun j => decide (i = j) || (decide (Int32.ofNat (vLen.getD i 0) ≠ Int32.ofNat (vLen.getD j 0)) || (List.range (vLen.getD i 0)).any (fun k => decide (k < vLen.getD j 0) && !decide ((vByt.getD i []).getD k 0 = (vByt.getD j []).getD k 0))))) = true := by decide +kernel
    have h9 := List.all_eq_true.mp (List.all_eq_true.mp all i (List.mem_range.mpr hi)) j (List.mem_range.mpr hj)
    rw [Bool.or_eq_true, Bool.or_eq_true, decide_eq_true_eq, decide_eq_true_eq, List.any_eq_true] at h9
    rcases h9 with h9 | h9 | ⟨k, hk, h9⟩
    · exact absurd h9 hij
    · exact absurd kl h9
    · rw [Bool.and_eq_true, decide_eq_true_eq, Bool.not_eq_true', decide_eq_false_iff_not] at h9
      exact absurd (key k (List.mem_range.mp hk) h9.1) h9.2
  · simp [Cond.before, Cond.holds, Cond.value, hx, hy, h]
theorem start_facts (hts : ∀ w ∈ lw_tbl, w.before args s = true) (hg : Gc.before args s = true) {b L : Nat} {xs : Nat → Int32} (hX : va_X b L xs s s.heap) (hbl : b < s.heap.size) : ∃ P : PR, P.b = b ∧ P.L = L ∧ P.xs = xs ∧ STG P (fun q => s.heap.size ≤ q) s := by
  have hA : ∀ a : Nat, a < s.heap.size → ¬ s.heap.size ≤ a := fun a h1 h2 => absurd h1 (Nat.not_lt.mpr h2)
  have hb : ∀ {w}, w ∈ BIG → w.before args s = true := fun h => hts _ (List.mem_filter.mp h).1
  obtain ⟨adF, hF⟩ := va_Enof (A := fun q => s.heap.size ≤ q) (E := "NoiseMill$Fault") (d := "LNoiseMill$Fault;") (nm := faultN) (F := faultF) (fun i hi => tF hts tb_f hi) (hb q1_21) (fun i hi => gF hg st_fx hi) (fun q hq i hi => by
    rcases List.mem_singleton.mp hq with rfl
    exact gF hg st_ff hi) (fun i j hi hj hij => gD hg st_fd hi hj hij) hA
  obtain ⟨ad, hK, hev⟩ := va_Enof2 (A := fun q => s.heap.size ≤ q) (E := "NoiseMill$Kind") (d := "LNoiseMill$Kind;") (nm := kindN) (F := kindF) (fun i hi => tF hts tb_k hi) (hb q1_11) (fun i hi => gF hg st_kx hi) (fun q hq i hi => by
    simp only [kindF, List.mem_cons, List.not_mem_nil, or_false] at hq
    rcases hq with rfl | rfl | rfl | rfl
    · exact gF hg st_ko hi
    · exact gF hg st_kg hi
    · exact gF hg st_kt hi
    · exact gF hg st_kn hi) (fun i j hi hj hij => gD hg st_kd hi hj hij) hA
  obtain ⟨adW, adV, hW, hwe⟩ := vk_Sof (A := fun q => s.heap.size ≤ q) (N := 8) (tm := wtm) (len := wLen) (byt := wByt) (fun i hi => by
    rcases (show i = 0 ∨ i = 1 ∨ i = 2 ∨ i = 3 ∨ i = 4 ∨ i = 5 ∨ i = 6 ∨ i = 7 by omega) with rfl | rfl | rfl | rfl | rfl | rfl | rfl | rfl <;> decide) (fun i hi => gF hg st_wx hi) (fun i hi => gF hg st_wc hi) (fun i hi => gF hg st_wa hi) (fun i hi => gF hg st_wl hi) (fun i hi j hj => we_at hg hi hj) (fun i j hi hj hij => Or.inl (w_ne hg hi hj hij)) hA
  have hE := va_Efof (A := fun q => s.heap.size ≤ q) (N := 8) (E := "NoiseMill$Kind") (d0 := "LNoiseMill$Kind;") (o := "NoiseMill$Kind") (n := "word") (d := "Ljava/lang/String;") (nm := kindN) (v := fun i => .ref (adW i)) (tm := wtm) (ad := ad) (fun i hi => hev i hi) (fun i hi => gF hg st_kw hi) (fun i hi => hwe i hi) hA
  obtain ⟨t0, e0, hT0⟩ := va_Tof (A := fun q => s.heap.size ≤ q) (tm := ttK) (ty := .object "NoiseMill$Kind") (N := 8) (f := fun j => .ref (ad j)) (by decide) (gF hg st_Ka (i := 0) (by omega)) (va_eqv (gF hg st_Kl (i := 0) (by omega)) rfl) (fun j hj => va_eqv (gF hg st_Ke hj) (hev j hj)) hA
  obtain ⟨t1, e1, hT1⟩ := va_Tof (A := fun q => s.heap.size ≤ q) (tm := ttF) (ty := .int) (N := 6) (f := fun j => .int (swF.getD j 0)) (by decide) (gF hg st_Fa (i := 0) (by omega)) (va_eqv (gF hg st_Fl (i := 0) (by omega)) rfl) (fun j hj => va_eqv (gF hg st_Fe hj) rfl) hA
  obtain ⟨t2, e2, hT2⟩ := va_Tof (A := fun q => s.heap.size ≤ q) (tm := ttS) (ty := .int) (N := 8) (f := fun j => .int (swK.getD j 0)) (by decide) (gF hg st_Sa (i := 0) (by omega)) (va_eqv (gF hg st_Sl (i := 0) (by omega)) rfl) (fun j hj => va_eqv (gF hg st_Se hj) rfl) hA
  obtain ⟨t3, e3, hT3⟩ := va_Tof (A := fun q => s.heap.size ≤ q) (tm := ttO) (ty := .byte) (N := 100) (f := fun j => .int (sb_ones j)) (by decide) (gF hg st_Oa (i := 0) (by omega)) (va_eqv (gF hg st_Ol (i := 0) (by omega)) rfl) (fun j hj => va_eqv (gF hg st_Oe hj) rfl) hA
  obtain ⟨t4, e4, hT4⟩ := va_Tof (A := fun q => s.heap.size ≤ q) (tm := ttT) (ty := .byte) (N := 100) (f := fun j => .int (sb_tens j)) (by decide) (gF hg st_Ta (i := 0) (by omega)) (va_eqv (gF hg st_Tl (i := 0) (by omega)) rfl) (fun j hj => va_eqv (gF hg st_Te hj) rfl) hA
  have z0 := va_Zref (A := fun q => s.heap.size ≤ q) (tF hts tb_o (i := 0) (by omega)) (tF hts tb_i (i := 0) (by omega)) e0 hA
  have z1 := va_Zref (A := fun q => s.heap.size ≤ q) (tF hts tb_o (i := 1) (by omega)) (tF hts tb_i (i := 1) (by omega)) e1 hA
  have z2 := va_Zref (A := fun q => s.heap.size ≤ q) (tF hts tb_o (i := 2) (by omega)) (tF hts tb_i (i := 2) (by omega)) e2 hA
  have z3 := va_Zref (A := fun q => s.heap.size ≤ q) (tF hts tb_o (i := 3) (by omega)) (tF hts tb_i (i := 3) (by omega)) e3 hA
  have z4 := va_Zref (A := fun q => s.heap.size ≤ q) (tF hts tb_o (i := 4) (by omega)) (tF hts tb_i (i := 4) (by omega)) e4 hA
  have z5 := va_Zof (A := fun q => s.heap.size ≤ q) (tF hts tb_o (i := 5) (by omega)) (tF hts tb_i (i := 5) (by omega)) (va_eqv (gF hg st_cs (i := 0) (by omega)) (v := .int 1) rfl) hA
  have z6 := va_Zqof (A := fun q => s.heap.size ≤ q) (tF hts tb_o (i := 6) (by omega)) (tF hts tb_i (i := 6) (by omega)) (gF hg st_z0 (i := 0) (by omega)) hA
  have z7 := vx_Zqof (A := fun q => s.heap.size ≤ q) (tF hts tb_o (i := 7) (by omega)) (tF hts tb_i (i := 7) (by omega)) (gF hg st_z1 (i := 0) (by omega)) hA
  have z8 := vx_Zqof (A := fun q => s.heap.size ≤ q) (tF hts tb_o (i := 8) (by omega)) (tF hts tb_i (i := 8) (by omega)) (gF hg st_z2 (i := 0) (by omega)) hA
  obtain ⟨adVv, tvv, hVS, hve⟩ := vk_Sof (A := fun q => s.heap.size ≤ q) (N := 16) (tm := vtm) (len := vLen) (byt := vByt) (fun i hi => by
    have h9 : (List.range 16).all (fun i => decide (vLen.getD i 0 < 2 ^ 31)) = true := by decide +kernel
    exact of_decide_eq_true (List.all_eq_true.mp h9 i (List.mem_range.mpr hi))) (fun i hi => gF hg st_vx hi) (fun i hi => gF hg st_vc hi) (fun i hi => gF hg st_va hi) (fun i hi => gF hg st_vl hi) (fun i hi j hj => ve_at hg hi hj) (fun i j hi hj hij => Or.inl (v_ne hg hi hj hij)) hA
  obtain ⟨te, ee, hTe⟩ := va_Tof (A := fun q => s.heap.size ≤ q) (tm := ttE) (ty := .object "java/lang/Object") (N := 0) (f := fun _ => .null) (by decide) (gF hg st_Ea (i := 0) (by omega)) (va_eqv (gF hg st_El (i := 0) (by omega)) rfl) (fun j hj => absurd hj (Nat.not_lt_zero j)) hA
  have zE := va_Zref (A := fun q => s.heap.size ≤ q) (tF hts tb_E (i := 0) (by omega)) (tF hts tb_Ei (i := 0) (by omega)) ee hA
  obtain ⟨mi, hmi⟩ := va_Mi.of (gF hg st_mi (i := 0) (by omega))
  have tw : ∀ {k : Nat} {w : Cond}, tables_1[k]? = some w → w.before args s = true := fun h => hts _ (List.mem_append_right _ (List.mem_of_getElem? h))
  refine ⟨⟨ad, adF, adW, fun k => if k = 0 then t0 else if k = 1 then t1 else if k = 2 then t2 else if k < 11 then adV (k - 3) else if k = 11 then t3 else t4, adVv, tvv, b, L, xs, te, mi⟩, rfl, rfl, rfl, ⟨⟨hF, hK, hE, ⟨z0, hT0⟩, ⟨z1, hT1⟩, ⟨z2, hT2⟩⟩, ⟨z5, ⟨fun i hi => ?_, hW.2⟩, z6⟩, fun args2 y hy => ?_, ⟨⟨z3, hT3⟩, z4, hT4⟩, ⟨fun w hw => ?_, z7, z8, fun q hq => ?_⟩, fun q hq => ?_, ?_, ?_⟩, hVS, fun i hi => vk_R.of (tF hts tb_v hi) (hve i hi), ⟨hX, hbl, hA _ hbl⟩, ⟨zE, hTe, va_AO.of (tF hts tb_Eo (i := 0) (by omega)), va_Nw.of rfl (tF hts tb_Ec (i := 0) (by omega)), hmi, va_Dc.of (tw tb_Dc)⟩, ⟨?_, ?_⟩, va_Nw.of rfl (tF hts tb_Eb (i := 0) (by omega))⟩
  · have h := hW.1 i hi
    have e : (if 3 + i = 0 then t0 else if 3 + i = 1 then t1 else if 3 + i = 2 then t2 else if 3 + i < 11 then adV (3 + i - 3) else if 3 + i = 11 then t3 else t4) = adV i := by
      rw [if_neg (by omega), if_neg (by omega), if_neg (by omega), if_pos (by omega), show 3 + i - 3 = i by omega]
    rw [← e] at h
    exact h
  · simp only [List.mem_cons, List.not_mem_nil, or_false] at hy
    rcases hy with rfl | rfl | rfl | rfl
    · exact sel_same (a := args) rfl (sel_priv (z := ⟨RJ5, "isLatin1", "()Z"⟩) rfl (by decide +kernel) (hb q6_183) (tw tb_p.1) (hb q6_166))
    · exact sel_same (a := args) rfl (sel_priv (z := ⟨RJ5, "isLatin1", "()Z"⟩) rfl (by decide +kernel) (hb q6_183) (tw tb_p.2.1) (hb q6_162))
    · exact sel_same (a := args) rfl (sel_priv (z := ⟨RJ5, "isLatin1", "()Z"⟩) rfl (by decide +kernel) (hb q6_183) (tw tb_p.2.2.1) (hb q6_203))
    · exact sel_same (a := args) rfl (sel_priv (z := ⟨RJ5, "isLatin1", "()Z"⟩) rfl (by decide +kernel) (hb q6_183) (tw tb_p.2.2.2) (hb q6_207))
  · exact nw_of (args := args) (List.all_eq_true.mp XL_kd w hw) (hts w (of_decide_eq_true (List.all_eq_true.mp XL_tbl w hw)))
  · obtain ⟨i, hi⟩ := List.getElem?_of_mem hq
    have hi9 : i < STRS.length := (List.getElem?_eq_some_iff.mp hi).1
    have e : STRS.getD i (0, "") = q := by rw [List.getD_eq_getElem?_getD, hi]; rfl
    have h1 := tF hts tb_s (i := i) hi9
    obtain ⟨x, -, -, -, hx, -⟩ := Cond.exactly_spec (gF hg st_sx (i := i) hi9)
    rw [e] at h1 hx
    exact ⟨x, vk_R.of h1 hx⟩
  · obtain ⟨i, hi⟩ := List.getElem?_of_mem hq
    have hi9 : i < 11 := (List.getElem?_eq_some_iff.mp hi).1
    have e : NCL.getD i ("", "") = q := by rw [List.getD_eq_getElem?_getD, hi]; rfl
    have h1 := gF hg st_nc (i := i) hi9
    rw [e] at h1
    exact va_Nc.of h1
  · exact va_AO.of (tF hts tb_a (i := 0) (by omega))
  · exact va_AO.of (tF hts tb_a (i := 1) (by omega))
  · exact va_Fw.of (tw tb_FhasNext.1) (tw tb_FhasNext.2.1) (tw tb_FhasNext.2.2.1) (tw tb_FhasNext.2.2.2.1) (tw tb_FhasNext.2.2.2.2)
  · exact va_Fw.of (tw tb_Fnext.1) (tw tb_Fnext.2.1) (tw tb_Fnext.2.2.1) (tw tb_Fnext.2.2.2.1) (tw tb_Fnext.2.2.2.2)
end S69

