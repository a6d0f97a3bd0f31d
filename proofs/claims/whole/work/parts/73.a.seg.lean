-- ===== the law's loop: pieces of a round =====
theorem dA_3090 : decode cL_law 3090 = .ok (.iinc 5 4, 3) := by decide +kernel
theorem dA_3093 : decode cL_law 3093 = .ok (.goto (-3065), 3) := by decide +kernel
abbrev LL (bb x m ao ao2 : Nat) (i : Int32) : List (Nat × Value) := [(5, .int i), (0, .ref bb), (1, .ref x), (2, .ref m), (3, .ref ao), (4, .ref ao2)]
def LC (p : Program) (l : Launch) (s : State) (m : MethodId) (args : Array Value) (meth : Method) (c : Code) (D : va_G) (A : Nat → Prop) (cA : Nat → ClassId) (ad adF adW tt : Nat → Nat) (bb L : Nat) (xs : Nat → Int32) : Prop := GC p s m args meth c cL_law 9 RL ret A D (TYS cA) (STG ad adF adW tt) ∧ l.stackTraces = false ∧ va_X bb L xs s s.heap ∧ bb < s.heap.size ∧ ¬ A bb ∧ L ≤ 2048
/-- the loop's head, after C rounds -/
def LGo (p : Program) (l : Launch) (e : Env) (s : State) (m : MethodId) (args : Array Value) (below : List Frame) (meth : Method) (c : Code) (Q : State → Prop) (D : va_G) (A : Nat → Prop) (cA : Nat → ClassId) (ad a : Nat → Nat) (ao ao2 : Nat) (ad2 a2 : Nat → Nat) (bb C : Nat) : Prop :=
  ∀ (T : List Nat) (b : SBb) (g : Nat → Int64) (gd : Nat → UInt64) (σ s' : St), GG σ s' C T → SBT T b → ∀ (H : Heap) (locs : List Loc) (cells slots : Nat), va_P D vwCl (LW cA ad a ao g T.length b ao2 gd ad2 a2 σ s') H → va_D A (LW cA ad a ao g T.length b ao2 gd ad2 a2 σ s') → va_S A s.heap H locs → cells ≤ 254 + 70 * C → slots ≤ 4842 + 680 * C → ∀ ls : Array Slot, lv_has ls 9 (LL bb (a 209) (a2 0) ao ao2 (nI (4 * C))) → W p l e room_1 s m args below meth c H locs cells slots Q (F0 m 28 ls [])
section S73
variable {p : Program} {l : Launch} {e : Env} {s : State} {m : MethodId} {args : Array Value} {below : List Frame} {meth : Method} {c : Code} {H : Heap} {locs : List Loc} {cells slots : Nat} {Q : State → Prop}
variable {pc : Nat} {ls : Array Slot} {rest : List Value} {D : va_G} {A : Nat → Prop} {cA : Nat → ClassId} {ad adF adW tt a : Nat → Nat} {ao ao2 : Nat} {ad2 a2 : Nat → Nat} {bb L : Nat} {xs : Nat → Int32}
variable {C N : Nat} {b : SBb} {g : Nat → Int64} {gd : Nat → UInt64} {σ s' : St} {T : List Nat}
/-- script[i + j] goes on the stack -/
theorem la_ld {j : Nat} {n : Int} (K : LC p l s m args meth c D A cA ad adF adW tt bb L xs) (hS : va_S A s.heap H locs) (h0 : ls[0]? = some (.val (.ref bb))) (h5 : ls[5]? = some (.val (.int (nI (4 * C))))) (hi : 4 * C + 4 ≤ L) (hj : j < 4) (hn : Int32.ofInt n = nI j) (d0 : decode cL_law pc = .ok (.aload_n 0, 1)) (d1 : decode cL_law (pc + 1) = .ok (.iload 5, 2)) (d3 : decode cL_law (pc + 3) = .ok (.iconst n, 1)) (d4 : decode cL_law (pc + 4) = .ok (.iadd, 1)) (d5 : decode cL_law (pc + 5) = .ok (.iaload, 1))
    (kk : W p l e room_1 s m args below meth c H locs cells slots Q (F0 m (pc + 6) ls (.int (xs (4 * C + j)) :: rest))) : W p l e room_1 s m args below meth c H locs cells slots Q (F0 m pc ls rest) := by
  obtain ⟨G, -, hX, hbl, hbA, hL⟩ := K
  have hx := G.1
  have hb := G.2.1
  refine lv_aload_n hx hb d0 rfl h0 ?_
  refine lv_iload hx hb d1 h5 ?_
  refine lv_iconst hx hb d3 hn ?_
  refine lv_iadd hx hb d4 ?_
  rw [nI_add]
  refine va_sld hx hb hX hbl hbA hS (vp_in_nI (by omega) (by omega)) d5 ?_
  rw [nI_clamp (by omega)]
  exact kk
/-- a call through a wrapper, and where its code is kept -/
theorem la_wr (K : LC p l s m args meth c D A cA ad adF adW tt bb L xs) (hC : C < 512) {y : MethodName} {bytes : ByteArray} {n d1 nA index : Nat} {hh : List (Nat × Nat × Nat × Nat)} {As st0 : List Value} {k : Int32} {σ' : St} {g' : Nat → Int64} (hM : gMetL l y bytes n (some .int) hh d1 D (TYS cA) (STG ad adF adW tt) (wc cA ad a (ocL cA ao g :: (sbC cA (a 241) N b ++ (ocD cA ao2 gd :: wm cA ad2 a2 [] s'))) σ) As (fun A => gQl D (TYS cA) A (fun u => wc cA ad a (ocL cA ao u.2 :: (sbC cA (a 241) N b ++ (ocD cA ao2 gd :: wm cA ad2 a2 [] s'))) u.1) k (σ', g')))
    (hP : va_P D vwCl (LW cA ad a ao g N b ao2 gd ad2 a2 σ s') H) (hD : va_D A (LW cA ad a ao g N b ao2 gd ad2 a2 σ s')) (hS : va_S A s.heap H locs) (q1 : Cond.methodLink RL index y ∈ BIG) (q2 : Cond.static y ∈ BIG) (q3 : Cond.initialized y.cls ∈ BIG) (q4 : Cond.codeWith y bytes n (some .int) hh ∈ BIG) (hd : y.cls ≠ "java/lang/invoke/MethodHandle" ∧ y.cls ≠ "java/lang/invoke/VarHandle" ∧ (parseMethodDescriptor y.desc).map (fun d => d.parameters.length) = some nA) (hr : d1 ≤ 100 ∧ n ≤ 50) (hc1 : cells ≤ 254 + 70 * C) (hc2 : slots ≤ 4842 + 680 * C) (hn : As.length = nA) (hst : st0 = As.reverse) (hl : lv_has ls 9 (LL bb (a 209) (a2 0) ao ao2 (nI (4 * C)))) (dg : decode cL_law pc = .ok (.invokestatic index, 3)) (ds : decode cL_law (pc + 3) = .ok (.istore 6, 2))
    (kk : ∀ (H1 : Heap) (locs1 : List Loc) (ls1 : Array Slot), va_P D vwCl (LW cA ad a ao g' N b ao2 gd ad2 a2 σ' s') H1 → va_D A (LW cA ad a ao g' N b ao2 gd ad2 a2 σ' s') → va_S A s.heap H1 locs1 → lv_has ls1 9 ((6, .int k) :: LL bb (a 209) (a2 0) ao ao2 (nI (4 * C))) → W p l e room_1 s m args below meth c H1 locs1 (cells + 2) (slots + 12) Q (F0 m (pc + 5) ls1 [])) : W p l e room_1 s m args below meth c H locs cells slots Q (F0 m pc ls st0) := by
  obtain ⟨G, -⟩ := K
  refine c_callLi (nA := nA) [] (wc cA ad a (ocL cA ao g :: (sbC cA (a 241) N b ++ (ocD cA ao2 gd :: wm cA ad2 a2 [] s'))) σ) (gl_L hM) G hP hD hS (List.Perm.of_eq rfl) (g_goodL q1 q2 q3 q4) hd ⟨by show d1 + 1 ≤ 2048; omega, by show 19 + n + 40 * d1 ≤ 94400; omega, by show cells + 2 ≤ 603072; omega, by show slots + 12 ≤ 7198826; omega⟩ hn hl.1 [] (by rw [hst, List.append_nil]) (Nat.le_of_ble_eq_true rfl) dg (fun r u H1 locs1 hok hP hD hS => ?_)
  obtain ⟨rfl, rfl⟩ := hok
  refine lv_istore (lv' := (6, .int r) :: LL bb (a 209) (a2 0) ao ao2 (nI (4 * C))) G.1 G.2.1 ds hl (by decide) rfl (fun ls1 hl1 => ?_)
  exact kk H1 locs1 ls1 hP hD hS hl1
theorem la_wrD (K : LC p l s m args meth c D A cA ad adF adW tt bb L xs) (hC : C < 512) {y : MethodName} {bytes : ByteArray} {n d1 nA index : Nat} {hh : List (Nat × Nat × Nat × Nat)} {As st0 : List Value} {k : Int32} {σ' : St} {g' : Nat → UInt64} (hM : gMetL l y bytes n (some .int) hh d1 D (TYS cA) (STG ad adF adW tt) (wc cA ad a (ocD cA ao2 gd :: (ocL cA ao g :: (sbC cA (a 241) N b ++ wm cA ad2 a2 [] s'))) σ) As (fun A => gQl D (TYS cA) A (fun u => wc cA ad a (ocD cA ao2 u.2 :: (ocL cA ao g :: (sbC cA (a 241) N b ++ wm cA ad2 a2 [] s'))) u.1) k (σ', g')))
    (hP : va_P D vwCl (LW cA ad a ao g N b ao2 gd ad2 a2 σ s') H) (hD : va_D A (LW cA ad a ao g N b ao2 gd ad2 a2 σ s')) (hS : va_S A s.heap H locs) (q1 : Cond.methodLink RL index y ∈ BIG) (q2 : Cond.static y ∈ BIG) (q3 : Cond.initialized y.cls ∈ BIG) (q4 : Cond.codeWith y bytes n (some .int) hh ∈ BIG) (hd : y.cls ≠ "java/lang/invoke/MethodHandle" ∧ y.cls ≠ "java/lang/invoke/VarHandle" ∧ (parseMethodDescriptor y.desc).map (fun d => d.parameters.length) = some nA) (hr : d1 ≤ 100 ∧ n ≤ 50) (hc1 : cells ≤ 254 + 70 * C) (hc2 : slots ≤ 4842 + 680 * C) (hn : As.length = nA) (hst : st0 = As.reverse) (hl : lv_has ls 9 (LL bb (a 209) (a2 0) ao ao2 (nI (4 * C)))) (dg : decode cL_law pc = .ok (.invokestatic index, 3)) (ds : decode cL_law (pc + 3) = .ok (.istore 6, 2))
    (kk : ∀ (H1 : Heap) (locs1 : List Loc) (ls1 : Array Slot), va_P D vwCl (LW cA ad a ao g N b ao2 g' ad2 a2 σ' s') H1 → va_D A (LW cA ad a ao g N b ao2 g' ad2 a2 σ' s') → va_S A s.heap H1 locs1 → lv_has ls1 9 ((6, .int k) :: LL bb (a 209) (a2 0) ao ao2 (nI (4 * C))) → W p l e room_1 s m args below meth c H1 locs1 (cells + 2) (slots + 12) Q (F0 m (pc + 5) ls1 [])) : W p l e room_1 s m args below meth c H locs cells slots Q (F0 m pc ls st0) := by
  obtain ⟨G, -⟩ := K
  refine c_callLi (nA := nA) [] (wc cA ad a (ocD cA ao2 gd :: (ocL cA ao g :: (sbC cA (a 241) N b ++ wm cA ad2 a2 [] s'))) σ) (gl_L hM) G hP hD hS LW_perm (g_goodL q1 q2 q3 q4) hd ⟨by show d1 + 1 ≤ 2048; omega, by show 19 + n + 40 * d1 ≤ 94400; omega, by show cells + 2 ≤ 603072; omega, by show slots + 12 ≤ 7198826; omega⟩ hn hl.1 [] (by rw [hst, List.append_nil]) (Nat.le_of_ble_eq_true rfl) dg (fun r u H1 locs1 hok hP hD hS => ?_)
  obtain ⟨rfl, rfl⟩ := hok
  have hp9 : (LWd cA ad a ao g N b ao2 g' ad2 a2 σ' s').Perm (LW cA ad a ao g N b ao2 g' ad2 a2 σ' s') := LW_perm.symm
  have hP : va_P D vwCl (LWd cA ad a ao g N b ao2 g' ad2 a2 σ' s') H1 := hP
  have hD : va_D A (LWd cA ad a ao g N b ao2 g' ad2 a2 σ' s') := hD
  refine lv_istore (lv' := (6, .int r) :: LL bb (a 209) (a2 0) ao ao2 (nI (4 * C))) G.1 G.2.1 ds hl (by decide) rfl (fun ls1 hl1 => ?_)
  exact kk H1 locs1 ls1 (hP.perm hp9) (hD.perm hp9) hS hl1
/-- a call of the reference -/
theorem la_mi (K : LC p l s m args meth c D A cA ad adF adW tt bb L xs) {y : MethodName} {bytes : ByteArray} {n d1 nA index : Nat} {ret' : Option FieldType} {As st0 : List Value} {r : Int32} {s2 : St} (hM : gMet l y bytes n ret' d1 D (TYS cA) ST0 (wm cA ad2 a2 [] s') (.ref (a2 0) :: As) (fun A => gQi D (TYS cA) A (wm cA ad2 a2 []) r s2))
    (hP : va_P D vwCl (LW cA ad a ao g N b ao2 gd ad2 a2 σ s') H) (hD : va_D A (LW cA ad a ao g N b ao2 gd ad2 a2 σ s')) (hS : va_S A s.heap H locs) (q1 : Cond.methodLink RL index y ∈ BIG) (q2 : Cond.instanceMethod y ∈ BIG) (q3 : Cond.selects RX12 y y ∈ BIG) (q4 : Cond.initialized RX12 ∈ BIG) (q5 : Cond.code y bytes n ret' ∈ BIG) (hd : y.cls = RX12 ∧ y.cls ≠ "java/lang/invoke/MethodHandle" ∧ y.cls ≠ "java/lang/invoke/VarHandle" ∧ (parseMethodDescriptor y.desc).map (fun d => d.parameters.length) = some nA) (hr : d1 ≤ 100 ∧ n ≤ 50) (hc1 : cells ≤ 60000) (hc2 : slots ≤ 600000) (hn : As.length = nA) (hls : ls.size = 9) (rest : List Value) (hst : st0 = As.reverse ++ .ref (a2 0) :: rest) (hcat : (rest.map fun v => v.category).sum ≤ 8) (dg : decode cL_law pc = .ok (.invokevirtual index, 3))
    (kk : ∀ (H1 : Heap) (locs1 : List Loc), va_P D vwCl (LW cA ad a ao g N b ao2 gd ad2 a2 σ s2) H1 → va_D A (LW cA ad a ao g N b ao2 gd ad2 a2 σ s2) → va_S A s.heap H1 locs1 → W p l e room_1 s m args below meth c H1 locs1 cells slots Q (F0 m (pc + 3) ls (.int r :: rest))) : W p l e room_1 s m args below meth c H locs cells slots Q (F0 m pc ls st0) := by
  obtain ⟨G, -⟩ := K
  obtain ⟨fs, hfs⟩ := LW_m (cA := cA) (ad := ad) (a := a) (ao := ao) (g := g) (n := N) (b := b) (ao2 := ao2) (gd := gd) (ad2 := ad2) (a2 := a2) (σ := σ) (s := s')
  refine c_callVi (nA := nA) (C := RX12) (T := TX12) (M := 17) (ci := 13) (LWh cA ad a ao g N b ao2 gd σ) (wm cA ad2 a2 [] s') 245 rfl hfs (gm_i hM) G hP hD hS (List.Perm.of_eq LW_split) (g_good q1 q2 q3 q4 q5) hd ⟨by show d1 + 1 ≤ 2048; omega, by show 19 + n + 40 * d1 ≤ 94400; omega, by show cells + 0 ≤ 603072; omega, by show slots + 0 ≤ 7198826; omega⟩ hn hls rest hst hcat dg (fun r1 u H1 locs1 hok hP hD hS => ?_)
  obtain ⟨rfl, rfl⟩ := hok
  rw [← LW_split] at hP hD
  exact kk H1 locs1 hP hD hS
theorem la_md (K : LC p l s m args meth c D A cA ad adF adW tt bb L xs) {y : MethodName} {bytes : ByteArray} {n d1 nA index : Nat} {ret' : Option FieldType} {As st0 : List Value} {r : UInt64} {s2 : St} (hM : gMet l y bytes n ret' d1 D (TYS cA) ST0 (wm cA ad2 a2 [] s') (.ref (a2 0) :: As) (fun A => gQd D (TYS cA) A (wm cA ad2 a2 []) r s2))
    (hP : va_P D vwCl (LW cA ad a ao g N b ao2 gd ad2 a2 σ s') H) (hD : va_D A (LW cA ad a ao g N b ao2 gd ad2 a2 σ s')) (hS : va_S A s.heap H locs) (q1 : Cond.methodLink RL index y ∈ BIG) (q2 : Cond.instanceMethod y ∈ BIG) (q3 : Cond.selects RX12 y y ∈ BIG) (q4 : Cond.initialized RX12 ∈ BIG) (q5 : Cond.code y bytes n ret' ∈ BIG) (hd : y.cls = RX12 ∧ y.cls ≠ "java/lang/invoke/MethodHandle" ∧ y.cls ≠ "java/lang/invoke/VarHandle" ∧ (parseMethodDescriptor y.desc).map (fun d => d.parameters.length) = some nA) (hr : d1 ≤ 100 ∧ n ≤ 50) (hc1 : cells ≤ 60000) (hc2 : slots ≤ 600000) (hn : As.length = nA) (hls : ls.size = 9) (rest : List Value) (hst : st0 = As.reverse ++ .ref (a2 0) :: rest) (hcat : (rest.map fun v => v.category).sum ≤ 8) (dg : decode cL_law pc = .ok (.invokevirtual index, 3))
    (kk : ∀ (H1 : Heap) (locs1 : List Loc), va_P D vwCl (LW cA ad a ao g N b ao2 gd ad2 a2 σ s2) H1 → va_D A (LW cA ad a ao g N b ao2 gd ad2 a2 σ s2) → va_S A s.heap H1 locs1 → W p l e room_1 s m args below meth c H1 locs1 cells slots Q (F0 m (pc + 3) ls (.double r :: rest))) : W p l e room_1 s m args below meth c H locs cells slots Q (F0 m pc ls st0) := by
  obtain ⟨G, -⟩ := K
  obtain ⟨fs, hfs⟩ := LW_m (cA := cA) (ad := ad) (a := a) (ao := ao) (g := g) (n := N) (b := b) (ao2 := ao2) (gd := gd) (ad2 := ad2) (a2 := a2) (σ := σ) (s := s')
  refine c_callVd (nA := nA) (C := RX12) (T := TX12) (M := 17) (ci := 13) (LWh cA ad a ao g N b ao2 gd σ) (wm cA ad2 a2 [] s') 245 rfl hfs (gm_d hM) G hP hD hS (List.Perm.of_eq LW_split) (g_good q1 q2 q3 q4 q5) hd ⟨by show d1 + 1 ≤ 2048; omega, by show 19 + n + 40 * d1 ≤ 94400; omega, by show cells + 0 ≤ 603072; omega, by show slots + 0 ≤ 7198826; omega⟩ hn hls rest hst hcat dg (fun r1 u H1 locs1 hok hP hD hS => ?_)
  obtain ⟨rfl, rfl⟩ := hok
  rw [← LW_split] at hP hD
  exact kk H1 locs1 hP hD hS
theorem la_mf (K : LC p l s m args meth c D A cA ad adF adW tt bb L xs) {y : MethodName} {bytes : ByteArray} {n d1 nA index : Nat} {ret' : Option FieldType} {As st0 : List Value} {r : UInt32} {s2 : St} (hM : gMet l y bytes n ret' d1 D (TYS cA) ST0 (wm cA ad2 a2 [] s') (.ref (a2 0) :: As) (fun A => gQf D (TYS cA) A (wm cA ad2 a2 []) r s2))
    (hP : va_P D vwCl (LW cA ad a ao g N b ao2 gd ad2 a2 σ s') H) (hD : va_D A (LW cA ad a ao g N b ao2 gd ad2 a2 σ s')) (hS : va_S A s.heap H locs) (q1 : Cond.methodLink RL index y ∈ BIG) (q2 : Cond.instanceMethod y ∈ BIG) (q3 : Cond.selects RX12 y y ∈ BIG) (q4 : Cond.initialized RX12 ∈ BIG) (q5 : Cond.code y bytes n ret' ∈ BIG) (hd : y.cls = RX12 ∧ y.cls ≠ "java/lang/invoke/MethodHandle" ∧ y.cls ≠ "java/lang/invoke/VarHandle" ∧ (parseMethodDescriptor y.desc).map (fun d => d.parameters.length) = some nA) (hr : d1 ≤ 100 ∧ n ≤ 50) (hc1 : cells ≤ 60000) (hc2 : slots ≤ 600000) (hn : As.length = nA) (hls : ls.size = 9) (rest : List Value) (hst : st0 = As.reverse ++ .ref (a2 0) :: rest) (hcat : (rest.map fun v => v.category).sum ≤ 8) (dg : decode cL_law pc = .ok (.invokevirtual index, 3))
    (kk : ∀ (H1 : Heap) (locs1 : List Loc), va_P D vwCl (LW cA ad a ao g N b ao2 gd ad2 a2 σ s2) H1 → va_D A (LW cA ad a ao g N b ao2 gd ad2 a2 σ s2) → va_S A s.heap H1 locs1 → W p l e room_1 s m args below meth c H1 locs1 cells slots Q (F0 m (pc + 3) ls (.float r :: rest))) : W p l e room_1 s m args below meth c H locs cells slots Q (F0 m pc ls st0) := by
  obtain ⟨G, -⟩ := K
  obtain ⟨fs, hfs⟩ := LW_m (cA := cA) (ad := ad) (a := a) (ao := ao) (g := g) (n := N) (b := b) (ao2 := ao2) (gd := gd) (ad2 := ad2) (a2 := a2) (σ := σ) (s := s')
  refine c_callVf (nA := nA) (C := RX12) (T := TX12) (M := 17) (ci := 13) (LWh cA ad a ao g N b ao2 gd σ) (wm cA ad2 a2 [] s') 245 rfl hfs (gm_f hM) G hP hD hS (List.Perm.of_eq LW_split) (g_good q1 q2 q3 q4 q5) hd ⟨by show d1 + 1 ≤ 2048; omega, by show 19 + n + 40 * d1 ≤ 94400; omega, by show cells + 0 ≤ 603072; omega, by show slots + 0 ≤ 7198826; omega⟩ hn hls rest hst hcat dg (fun r1 u H1 locs1 hok hP hD hS => ?_)
  obtain ⟨rfl, rfl⟩ := hok
  rw [← LW_split] at hP hD
  exact kk H1 locs1 hP hD hS
/-- a call of the object itself -/
theorem la_x (K : LC p l s m args meth c D A cA ad adF adW tt bb L xs) {y : MethodName} {bytes : ByteArray} {n d1 nA index : Nat} {ret' : Option FieldType} {As st0 : List Value} {r : Int32} {σ' : St} (hM : gMet l y bytes n ret' d1 D (TYS cA) (STG ad adF adW tt) (wc cA ad a (ocL cA ao g :: (sbC cA (a 241) N b ++ (ocD cA ao2 gd :: wm cA ad2 a2 [] s'))) σ) (.ref (a 209) :: As) (fun A => gQi D (TYS cA) A (wc cA ad a (ocL cA ao g :: (sbC cA (a 241) N b ++ (ocD cA ao2 gd :: wm cA ad2 a2 [] s')))) r σ'))
    (hP : va_P D vwCl (LW cA ad a ao g N b ao2 gd ad2 a2 σ s') H) (hD : va_D A (LW cA ad a ao g N b ao2 gd ad2 a2 σ s')) (hS : va_S A s.heap H locs) (q1 : Cond.methodLink RL index y ∈ BIG) (q2 : Cond.instanceMethod y ∈ BIG) (q3 : Cond.selects RX11 y y ∈ BIG) (q4 : Cond.initialized RX11 ∈ BIG) (q5 : Cond.code y bytes n ret' ∈ BIG) (hd : y.cls = RX11 ∧ y.cls ≠ "java/lang/invoke/MethodHandle" ∧ y.cls ≠ "java/lang/invoke/VarHandle" ∧ (parseMethodDescriptor y.desc).map (fun d => d.parameters.length) = some nA) (hr : d1 ≤ 100 ∧ n ≤ 50) (hc1 : cells ≤ 60000) (hc2 : slots ≤ 600000) (hn : As.length = nA) (hls : ls.size = 9) (rest : List Value) (hst : st0 = As.reverse ++ .ref (a 209) :: rest) (hcat : (rest.map fun v => v.category).sum ≤ 8) (dg : decode cL_law pc = .ok (.invokevirtual index, 3))
    (kk : ∀ (H1 : Heap) (locs1 : List Loc), va_P D vwCl (LW cA ad a ao g N b ao2 gd ad2 a2 σ' s') H1 → va_D A (LW cA ad a ao g N b ao2 gd ad2 a2 σ' s') → va_S A s.heap H1 locs1 → W p l e room_1 s m args below meth c H1 locs1 cells slots Q (F0 m (pc + 3) ls (.int r :: rest))) : W p l e room_1 s m args below meth c H locs cells slots Q (F0 m pc ls st0) := by
  obtain ⟨G, -⟩ := K
  obtain ⟨fs, hfs⟩ := LW_x (cA := cA) (ad := ad) (a := a) (ao := ao) (g := g) (n := N) (b := b) (ao2 := ao2) (gd := gd) (ad2 := ad2) (a2 := a2) (σ := σ) (s := s')
  refine c_callVi (nA := nA) (C := RX11) (T := TX11) (M := 10) (ci := 12) [] (wc cA ad a (ocL cA ao g :: (sbC cA (a 241) N b ++ (ocD cA ao2 gd :: wm cA ad2 a2 [] s'))) σ) 209 rfl hfs (gx_i hM) G hP hD hS (List.Perm.of_eq rfl) (g_good q1 q2 q3 q4 q5) hd ⟨by show d1 + 1 ≤ 2048; omega, by show 19 + n + 40 * d1 ≤ 94400; omega, by show cells + 0 ≤ 603072; omega, by show slots + 0 ≤ 7198826; omega⟩ hn hls rest hst hcat dg (fun r1 u H1 locs1 hok hP hD hS => ?_)
  obtain ⟨rfl, rfl⟩ := hok
  exact kk H1 locs1 hP hD hS
/-- the round's end -/
theorem la_end (K : LC p l s m args meth c D A cA ad adF adW tt bb L xs) (Nx : LGo p l e s m args below meth c Q D A cA ad a ao ao2 ad2 a2 bb (C + 1)) (hG : GG σ s' (C + 1) T) (hB : SBT T b) (hP : va_P D vwCl (LW cA ad a ao g T.length b ao2 gd ad2 a2 σ s') H) (hD : va_D A (LW cA ad a ao g T.length b ao2 gd ad2 a2 σ s')) (hS : va_S A s.heap H locs) (hc1 : cells ≤ 254 + 70 * (C + 1)) (hc2 : slots ≤ 4842 + 680 * (C + 1)) (hl : lv_has ls 9 (LL bb (a 209) (a2 0) ao ao2 (nI (4 * C)))) : W p l e room_1 s m args below meth c H locs cells slots Q (F0 m 3090 ls []) := by
  obtain ⟨G, -⟩ := K
  refine lv_iinc (v := nI (4 * (C + 1))) (lv' := LL bb (a 209) (a2 0) ao ao2 (nI (4 * (C + 1)))) G.1 G.2.1 dA_3090 hl (k := 0) rfl (by show nI (4 * C) + nI 4 = _; rw [nI_add]; rfl) (by decide) rfl (fun ls1 hl1 => ?_)
  refine lv_goto (tgt := 28) G.1 G.2.1 dA_3093 (by decide) ?_
  exact Nx T b g gd σ s' hG hB H locs cells slots hP hD hS hc1 hc2 ls1 hl1
theorem hix_ne {codes : List Nat} {c1 : Nat} (hlen : codes.length < 100) (hc : c1 = 0 ∨ c1 ∈ codes) (h : hix codes c1 = 0) : c1 = 0 := by
  rcases hc with h0 | hm
  · exact h0
  · by_cases h0 : c1 = 0
    · exact h0
    · exfalso
      unfold hix at h
      rw [if_neg h0] at h
      have h1 : codes.idxOf c1 < codes.length := List.idxOf_lt_length_iff.mpr hm
      exact nI_ne0 (by omega) (by omega) h
theorem la_fin {codes : List Nat} {c1 : Nat} {r r' : Int32} (hlen : codes.length < 100) (hc : c1 = 0 ∨ c1 ∈ codes) (hr : c1 = 0 → r = r') : hix codes c1 = 0 → (if c1 = 0 then vp_updL g 0 (r.toInt64) else g) 0 = r'.toInt64 := by
  intro h
  have h0 := hix_ne hlen hc h
  rw [if_pos h0, hr h0]
  rfl
theorem la_finB {codes : List Nat} {c1 : Nat} {r r' : Int32} (hlen : codes.length < 100) (hc : c1 = 0 ∨ c1 ∈ codes) (hr : c1 = 0 → r = r') : hix codes c1 = 0 → (if c1 = 0 then vp_updL g 0 (if r = 0 then (0 : Int64) else 1) else g) 0 = if r' = 0 then (0 : Int64) else 1 := by
  intro h
  have h0 := hix_ne hlen hc h
  rw [if_pos h0, hr h0]
  rfl
end S73
section F73
theorem la_finD {gd : Nat → UInt64} {codes : List Nat} {c1 : Nat} {r r' : UInt64} (hlen : codes.length < 100) (hc : c1 = 0 ∨ c1 ∈ codes) (hr : c1 = 0 → r = r' ∧ vf_n64 r) : hix codes c1 = 0 → (if c1 = 0 then (fun j => if j = 0 then r else gd j) else gd) 0 = r' ∧ vf_n64 r' := by
  intro h
  have h0 := hix_ne hlen hc h
  obtain ⟨e, hn⟩ := hr h0
  subst e
  rw [if_pos h0]
  exact ⟨rfl, hn⟩
theorem la_finF {gd : Nat → UInt64} {codes : List Nat} {c1 : Nat} {r r' : UInt32} (hlen : codes.length < 100) (hc : c1 = 0 ∨ c1 ∈ codes) (hr : c1 = 0 → r = r' ∧ vf_n32 r) : hix codes c1 = 0 → (if c1 = 0 then (fun j => if j = 0 then (FP.f2d r) else gd j) else gd) 0 = FP.f2d r' ∧ vf_n64 (FP.f2d r') := by
  intro h
  have h0 := hix_ne hlen hc h
  obtain ⟨e, hn⟩ := hr h0
  subst e
  rw [if_pos h0]
  exact ⟨rfl, nn_f2d hn⟩
end F73
