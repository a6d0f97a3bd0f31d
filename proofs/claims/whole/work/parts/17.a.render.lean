/-- a builder's text, as a list of letters -/
def SBT (T : List Nat) (b : SBb) : Prop := SBok (fun j => T.getD j 0) T.length b
def decL (v : Nat) : List Nat := (List.range (sb_dg v)).map (sb_dec v)
theorem decL_len (v : Nat) : (decL v).length = sb_dg v := by simp [decL]
theorem decL_get {v i : Nat} (h : i < (decL v).length) : (decL v).getD i 0 = sb_dec v i := by
  rw [decL_len] at h
  unfold decL
  rw [List.getD_eq_getElem?_getD, List.getElem?_map, List.getElem?_range h]
  rfl
theorem sbt_cat {T S : List Nat} {s : Nat → Nat} {b : SBb} (hS : ∀ i, i < S.length → S.getD i 0 = s i) (h : SBok (sb_cat (fun j => T.getD j 0) T.length s) (T.length + S.length) b) : SBT (T ++ S) b := by
  obtain ⟨h1, h2, h3, h4⟩ := h
  unfold SBT
  rw [List.length_append]
  refine ⟨h1, h2, fun j hj => ?_, h4⟩
  have e : (T ++ S).getD j 0 = sb_cat (fun j => T.getD j 0) T.length s j := by
    unfold sb_cat
    by_cases h : j < T.length
    · rw [if_pos h, List.getD_eq_getElem?_getD, List.getElem?_append_left h]
      rfl
    · rw [if_neg h, List.getD_eq_getElem?_getD, List.getElem?_append_right (Nat.le_of_not_lt h), ← hS _ (by omega), List.getD_eq_getElem?_getD]
  show (T ++ S).getD j 0 < 256 ∧ b.2.2.2 j = sb_b ((T ++ S).getD j 0)
  rw [e]
  exact h3 j hj
theorem sb_perm {α : Type} {M fr0 B fr : List α} : (M ++ (fr0 ++ (B ++ fr))).Perm ((M ++ (fr0 ++ fr)) ++ B) := by
  rw [List.append_assoc M, List.append_assoc fr0]
  exact List.Perm.append_left M (List.Perm.append_left fr0 List.perm_append_comm)
theorem sb_permW {cA : Nat → ClassId} {ad a : Nat → Nat} {fr0 B fr : va_W} {σ : St} : (wc cA ad a (fr0 ++ (B ++ fr)) σ).Perm (wc cA ad a (fr0 ++ fr) σ ++ B) := sb_perm
theorem sb_get {cA : Nat → ClassId} {ad a : Nat → Nat} {fr0 fr : va_W} {σ : St} {z n : Nat} {b : SBb} : (wc cA ad a (fr0 ++ (sbC cA z n b ++ fr)) σ)[241 + fr0.length]? = some (z, .inr (1, [.ref b.1, .int 0, .int b.2.2.1, .int (nI n)])) := by
  unfold wc gwd sbC
  rw [List.getElem?_append_right (by simp), List.getElem?_append_right (by simp)]
  simp
theorem dg2 {v : Nat} (h : v < 100) : sb_dg v ≤ 2 := by unfold sb_dg; (repeat' split) <;> omega
section R17
variable {p : Program} {l : Launch} {e : Env} {R : Room} {s : State} {m : MethodId} {args : Array Value} {below : List Frame} {meth : Method} {c : Code} {H : Heap} {locs : List Loc} {cells slots : Nat} {Q : State → Prop}
variable {cc : ByteArray} {maxL : Nat} {ret : Option FieldType} {pc : Nat} {ls : Array Slot} {rest : List Value} {D : va_G} {A : Nat → Prop} {cA : Nat → ClassId} {ad adF adW tt a : Nat → Nat} {fr0 fr : va_W} {σ : St} {ST : gST} {T : List Nat} {b : SBb}
theorem sbr_I {v : Nat} {x : Int32} (hT : STE ad adF adW tt ST) (hW : STW adW tt ST) (hSP : STP ST) (hSD : STD tt ST) (hok : SBT T b) (G : GC p s m args meth c cc maxL RX11 ret A D (TYS cA) ST) (hP : va_P D vwCl (wc cA ad a (fr0 ++ (sbC cA (a 241) T.length b ++ fr)) σ) H) (hD : va_D A (wc cA ad a (fr0 ++ (sbC cA (a 241) T.length b ++ fr)) σ)) (hS : va_S A s.heap H locs) (hx9 : x = nI v) (hv : v < 2 ^ 31) (hn1 : T.length + sb_dg v ≤ 34)  (hR : 9 ≤ R.frames ∧ 400 ≤ R.locals ∧ cells + 1 ≤ R.cells ∧ slots + 34 ≤ R.slots) (hls : ls.size = maxL) (hcat : (rest.map fun v => v.category).sum ≤ 7) (hdg : decode cc pc = .ok (.invokevirtual 329, 3))
    (kk : ∀ (b1 : SBb) (H1 : Heap) (locs1 : List Loc), SBT (T ++ decL v) b1 → va_P D vwCl (wc cA ad a (fr0 ++ (sbC cA (a 241) (T ++ decL v).length b1 ++ fr)) σ) H1 → va_D A (wc cA ad a (fr0 ++ (sbC cA (a 241) (T ++ decL v).length b1 ++ fr)) σ) → va_S A s.heap H1 locs1 → W p l e R s m args below meth c H1 locs1 (cells + 1) (slots + 34) Q (F0 m (pc + 3) ls (.ref (a 241) :: rest))) : W p l e R s m args below meth c H locs cells slots Q (F0 m pc ls (.int x :: .ref (a 241) :: rest)) := by
  subst hx9
  have hcat8 : (rest.map fun v => v.category).sum ≤ 8 := by omega
  refine c_callVr (nA := 1) (C := RJ4) (T := TJ4) (M := 4) (ci := 1) (wc cA ad a (fr0 ++ fr) σ) (sbC cA (a 241) T.length b) (241 + fr0.length) rfl sb_get (mJ4_append_bf812 l D cA ad adF adW tt ST hT hW hSP hSD (fun j => T.getD j 0) (a 241) T.length v b hok hn1 hv) G hP hD hS sb_permW (g_good q4_158 q3_161 q3_162 q1_13 q3_163) (by decide +kernel) ⟨by have := hR.1; omega, by have := hR.2.1; show 19 + _ + _ ≤ _; omega, hR.2.2.1, hR.2.2.2⟩ rfl hls rest rfl hcat8 hdg (fun b1 H locs hok1 hP hD hS => ?_)
  have e9 : T.length + sb_dg v = (T ++ decL v).length := by rw [List.length_append, decL_len]
  rw [e9] at hP hD
  refine kk b1 H locs (sbt_cat (fun i hi => decL_get hi) ?_) (hP.perm sb_permW.symm) (hD.perm sb_permW.symm) hS
  rw [decL_len]
  exact hok1
theorem sbr_C {v : Nat} {x : Int32} (hT : STE ad adF adW tt ST) (hW : STW adW tt ST) (hSP : STP ST) (hSD : STD tt ST) (hok : SBT T b) (G : GC p s m args meth c cc maxL RX11 ret A D (TYS cA) ST) (hP : va_P D vwCl (wc cA ad a (fr0 ++ (sbC cA (a 241) T.length b ++ fr)) σ) H) (hD : va_D A (wc cA ad a (fr0 ++ (sbC cA (a 241) T.length b ++ fr)) σ)) (hS : va_S A s.heap H locs) (hx9 : x = nI v) (hv : v < 256) (hn1 : T.length + 1 ≤ 34)  (hR : 9 ≤ R.frames ∧ 400 ≤ R.locals ∧ cells + 1 ≤ R.cells ∧ slots + 34 ≤ R.slots) (hls : ls.size = maxL) (hcat : (rest.map fun v => v.category).sum ≤ 7) (hdg : decode cc pc = .ok (.invokevirtual 333, 3))
    (kk : ∀ (b1 : SBb) (H1 : Heap) (locs1 : List Loc), SBT (T ++ [v]) b1 → va_P D vwCl (wc cA ad a (fr0 ++ (sbC cA (a 241) (T ++ [v]).length b1 ++ fr)) σ) H1 → va_D A (wc cA ad a (fr0 ++ (sbC cA (a 241) (T ++ [v]).length b1 ++ fr)) σ) → va_S A s.heap H1 locs1 → W p l e R s m args below meth c H1 locs1 (cells + 1) (slots + 34) Q (F0 m (pc + 3) ls (.ref (a 241) :: rest))) : W p l e R s m args below meth c H locs cells slots Q (F0 m pc ls (.int x :: .ref (a 241) :: rest)) := by
  subst hx9
  have hcat8 : (rest.map fun v => v.category).sum ≤ 8 := by omega
  refine c_callVr (nA := 1) (C := RJ4) (T := TJ4) (M := 4) (ci := 1) (wc cA ad a (fr0 ++ fr) σ) (sbC cA (a 241) T.length b) (241 + fr0.length) rfl sb_get (mJ4_append_cf468 l D cA ad adF adW tt ST hT hW hSP (fun j => T.getD j 0) (a 241) T.length v b hok hn1 hv) G hP hD hS sb_permW (g_good q4_132 q4_133 q4_134 q1_13 q4_135) (by decide +kernel) ⟨by have := hR.1; omega, by have := hR.2.1; show 19 + _ + _ ≤ _; omega, hR.2.2.1, hR.2.2.2⟩ rfl hls rest rfl hcat8 hdg (fun b1 H locs hok1 hP hD hS => ?_)
  have e9 : T.length + 1 = (T ++ [v]).length := by rw [List.length_append]; rfl
  rw [e9] at hP hD
  refine kk b1 H locs (sbt_cat (s := fun _ => v) (fun i hi => ?_) hok1) (hP.perm sb_permW.symm) (hD.perm sb_permW.symm) hS
  have hi0 : i = 0 := by have h9 : i < 1 := hi; omega
  rw [hi0]
  rfl
theorem sbr_0 {x : Int32} (hT : STE ad adF adW tt ST) (hW : STW adW tt ST) (hSP : STP ST) (hSD : STD tt ST) (hok : SBT T b) (G : GC p s m args meth c cc maxL RX11 ret A D (TYS cA) ST) (hP : va_P D vwCl (wc cA ad a (fr0 ++ (sbC cA (a 241) T.length b ++ fr)) σ) H) (hD : va_D A (wc cA ad a (fr0 ++ (sbC cA (a 241) T.length b ++ fr)) σ)) (hS : va_S A s.heap H locs) (hx9 : x = nI 0)  (hR : 9 ≤ R.frames ∧ 400 ≤ R.locals ∧ cells + 1 ≤ R.cells ∧ slots + 34 ≤ R.slots) (hls : ls.size = maxL) (hcat : (rest.map fun v => v.category).sum ≤ 7) (hdg : decode cc pc = .ok (.invokevirtual 326, 3))
    (kk : ∀ (b1 : SBb) (H1 : Heap) (locs1 : List Loc), SBT ([] : List Nat) b1 → va_P D vwCl (wc cA ad a (fr0 ++ (sbC cA (a 241) ([] : List Nat).length b1 ++ fr)) σ) H1 → va_D A (wc cA ad a (fr0 ++ (sbC cA (a 241) ([] : List Nat).length b1 ++ fr)) σ) → va_S A s.heap H1 locs1 → W p l e R s m args below meth c H1 locs1 (cells + 1) (slots + 34) Q (F0 m (pc + 3) ls rest)) : W p l e R s m args below meth c H locs cells slots Q (F0 m pc ls (.int x :: .ref (a 241) :: rest)) := by
  subst hx9
  have hcat8 : (rest.map fun v => v.category).sum ≤ 8 := by omega
  refine c_callVv (nA := 1) (C := RJ4) (T := TJ4) (M := 4) (ci := 1) (wc cA ad a (fr0 ++ fr) σ) (sbC cA (a 241) T.length b) (241 + fr0.length) rfl sb_get (mJ4_setLength_d00df l D cA ad adF adW tt ST hT hW hSP (fun j => T.getD j 0) (a 241) T.length b hok) G hP hD hS sb_permW (g_good q3_29 q3_30 q3_31 q1_13 q3_32) (by decide +kernel) ⟨by have := hR.1; omega, by have := hR.2.1; show 19 + _ + _ ≤ _; omega, hR.2.2.1, hR.2.2.2⟩ rfl hls rest rfl hcat8 hdg (fun b1 H locs hok1 hP hD hS => ?_)
  exact kk b1 H locs ⟨hok1.1, hok1.2.1, fun j hj => absurd hj (Nat.not_lt_zero j), hok1.2.2.2⟩ (hP.perm sb_permW.symm) (hD.perm sb_permW.symm) hS
theorem sbr_len (hT : STE ad adF adW tt ST) (hW : STW adW tt ST) (hSP : STP ST) (hSD : STD tt ST) (hok : SBT T b) (G : GC p s m args meth c cc maxL RX11 ret A D (TYS cA) ST) (hP : va_P D vwCl (wc cA ad a (fr0 ++ (sbC cA (a 241) T.length b ++ fr)) σ) H) (hD : va_D A (wc cA ad a (fr0 ++ (sbC cA (a 241) T.length b ++ fr)) σ)) (hS : va_S A s.heap H locs)  (hR : 9 ≤ R.frames ∧ 400 ≤ R.locals ∧ cells + 0 ≤ R.cells ∧ slots + 0 ≤ R.slots) (hls : ls.size = maxL) (hcat : (rest.map fun v => v.category).sum ≤ 7) (hdg : decode cc pc = .ok (.invokevirtual 336, 3))
    (kk : ∀ (H1 : Heap) (locs1 : List Loc), va_P D vwCl (wc cA ad a (fr0 ++ (sbC cA (a 241) T.length b ++ fr)) σ) H1 → va_D A (wc cA ad a (fr0 ++ (sbC cA (a 241) T.length b ++ fr)) σ) → va_S A s.heap H1 locs1 → W p l e R s m args below meth c H1 locs1 (cells + 0) (slots + 0) Q (F0 m (pc + 3) ls (.int (nI T.length) :: rest))) : W p l e R s m args below meth c H locs cells slots Q (F0 m pc ls (.ref (a 241) :: rest)) := by
  skip
  have hcat8 : (rest.map fun v => v.category).sum ≤ 8 := by omega
  refine c_callVi (nA := 0) (C := RJ4) (T := TJ4) (M := 4) (ci := 1) (wc cA ad a (fr0 ++ fr) σ) (sbC cA (a 241) T.length b) (241 + fr0.length) rfl sb_get (mJ4_length_8abf5 l D cA ad adF adW tt ST hT hW hSP (a 241) T.length b) G hP hD hS sb_permW (g_good q4_163 q3_207 q9_169 q1_13 q3_208) (by decide +kernel) ⟨by have := hR.1; omega, by have := hR.2.1; show 19 + _ + _ ≤ _; omega, hR.2.2.1, hR.2.2.2⟩ rfl hls rest rfl hcat8 hdg (fun r b1 H locs hok1 hP hD hS => ?_)
  subst hok1
  exact kk H locs (hP.perm sb_permW.symm) (hD.perm sb_permW.symm) hS
theorem sbr_at {i : Nat} {x : Int32} (hT : STE ad adF adW tt ST) (hW : STW adW tt ST) (hSP : STP ST) (hSD : STD tt ST) (hok : SBT T b) (G : GC p s m args meth c cc maxL RX11 ret A D (TYS cA) ST) (hP : va_P D vwCl (wc cA ad a (fr0 ++ (sbC cA (a 241) T.length b ++ fr)) σ) H) (hD : va_D A (wc cA ad a (fr0 ++ (sbC cA (a 241) T.length b ++ fr)) σ)) (hS : va_S A s.heap H locs) (hx9 : x = nI i) (hi : i < T.length)  (hR : 9 ≤ R.frames ∧ 400 ≤ R.locals ∧ cells + 0 ≤ R.cells ∧ slots + 0 ≤ R.slots) (hls : ls.size = maxL) (hcat : (rest.map fun v => v.category).sum ≤ 7) (hdg : decode cc pc = .ok (.invokevirtual 344, 3))
    (kk : ∀ (H1 : Heap) (locs1 : List Loc), va_P D vwCl (wc cA ad a (fr0 ++ (sbC cA (a 241) T.length b ++ fr)) σ) H1 → va_D A (wc cA ad a (fr0 ++ (sbC cA (a 241) T.length b ++ fr)) σ) → va_S A s.heap H1 locs1 → W p l e R s m args below meth c H1 locs1 (cells + 0) (slots + 0) Q (F0 m (pc + 3) ls (.int (nI (T.getD i 0)) :: rest))) : W p l e R s m args below meth c H locs cells slots Q (F0 m pc ls (.int x :: .ref (a 241) :: rest)) := by
  subst hx9
  have hcat8 : (rest.map fun v => v.category).sum ≤ 8 := by omega
  refine c_callVi (nA := 1) (C := RJ4) (T := TJ4) (M := 4) (ci := 1) (wc cA ad a (fr0 ++ fr) σ) (sbC cA (a 241) T.length b) (241 + fr0.length) rfl sb_get (mJ4_charAt_5068e l D cA ad adF adW tt ST hT hW hSP (fun j => T.getD j 0) (a 241) T.length i b hok hi) G hP hD hS sb_permW (g_good q7_10 q7_11 q7_12 q1_13 q7_13) (by decide +kernel) ⟨by have := hR.1; omega, by have := hR.2.1; show 19 + _ + _ ≤ _; omega, hR.2.2.1, hR.2.2.2⟩ rfl hls rest rfl hcat8 hdg (fun r b1 H locs hok1 hP hD hS => ?_)
  subst hok1
  exact kk H locs (hP.perm sb_permW.symm) (hD.perm sb_permW.symm) hS
end R17

def fOut (T : List Nat) (p1 : Int32) (s0 : St) : Option ((Nat × Int32) × St) := if p1 < 0 then some ((2, 0), s0) else if p1 < nI T.length then some ((0, nI (T.getD p1.toNatClampNeg 0)), s0) else some ((2, 0), s0)
set_option maxHeartbeats 4000000 in
set_option maxRecDepth 100000 in
theorem mX11_outputAt (l : Launch) (hlt : l.stackTraces = false) (D : va_G) (cA : Nat → ClassId) (ad adF adW tt a : Nat → Nat) (fr0 fr : va_W) (ST : gST) (hT : STE ad adF adW tt ST) (hW : STW adW tt ST) (hSP : STP ST) (hSD : STD tt ST) (hSX : STX ST) (T : List Nat) (b : SBb) (hok : SBT T b) (p1 : Int32) (s0 : St) (cR : Nat) (r : Int32) (s' : St) (h : fOut T p1 s0 = some ((cR, r), s')) : gMetX l yX11_outputAt cX11_outputAt 2 (some .char) 1 10 D (TYS cA) ST (wc cA ad a (fr0 ++ (sbC cA (a 241) T.length b ++ fr)) s0) [.ref (a 209), .int p1] (fun A => gQxi D (TYS cA) A (wc cA ad a (fr0 ++ (sbC cA (a 241) T.length b ++ fr))) cR r s') (fun A => gXC D (TYS cA) A (wc cA ad a (fr0 ++ (sbC cA (a 241) T.length b ++ fr))) cR s') := by
  refine g_ofWX hT.1 (by decide +kernel) (Nat.le_of_ble_eq_true rfl) ?_
  intro p e s m args below meth c ls A G hnt hP hD hl
  have G : GC p s m args meth c cX11_outputAt 2 RX11 (some .char) A D (TYS cA) ST := G
  have hx := G.1
  have hb := G.2.1
  have hS : va_S A s.heap s.heap [] := va_S.rf
  have hl : lv_has ls 2 [(0, .ref (a 209)), (1, .int p1)] := hl
  unfold fOut at h
  refine lv_iload_n hx hb dX11_outputAt_0 rfl (lv_at hl 1 rfl) ?_
  refine lv_if_lt (tgt := 15) hx hb dX11_outputAt_1 (by decide) (fun c1 => ?_) (fun c1 => ?_)
  · replace h := it_t c1 h
    exact gx_throwW (cE := 2) (E := "java/lang/IndexOutOfBoundsException") (XW := xw2) hlt hSX rfl (by decide) rfl xg2 xl2 xo2 (by decide +kernel) q4_211 q1_23 (List.mem_of_getElem? (i := 7) rfl) rfl G hnt hP hD hS h hl.1 dX11_outputAt_15 dX11_outputAt_18 dX11_outputAt_19 dX11_outputAt_22 dX11_outputAt_25 (by decide) (Nat.le_of_ble_eq_true rfl)
  replace h := it_f c1 h
  refine lv_iload_n hx hb dX11_outputAt_4 rfl (lv_at hl 1 rfl) ?_
  refine lv_aload_n hx hb dX11_outputAt_5 rfl (lv_at hl 0 rfl) ?_
  refine gfX11_50 G hP dX11_outputAt_6 ?_
  refine sbr_len hT hW hSP hSD hok G hP hD hS (by decide) hl.1 (Nat.le_of_ble_eq_true rfl) dX11_outputAt_9 (fun H locs hP hD hS => ?_)
  refine lv_icmp_lt (tgt := 26) hx hb dX11_outputAt_12 (by decide) (fun c2 => ?_) (fun c2 => ?_)
  · replace h := it_t c2 h
    obtain ⟨i, hi9, rfl⟩ := nI_of c1
    rw [nI_clamp hi9] at h
    have hT34 : T.length ≤ 34 := by have h1 := hok.1; have h2 := hok.2.1; omega
    have hiT : i < T.length := (nI_ltI hi9 (by omega)).mp c2
    refine lv_aload_n hx hb dX11_outputAt_26 rfl (lv_at hl 0 rfl) ?_
    refine gfX11_50 G hP dX11_outputAt_27 ?_
    refine lv_iload_n hx hb dX11_outputAt_30 rfl (lv_at hl 1 rfl) ?_
    refine sbr_at (i := i) hT hW hSP hSD hok G hP hD hS (rfl) (hiT) (by decide) hl.1 (Nat.le_of_ble_eq_true rfl) dX11_outputAt_31 (fun H locs hP hD hS => ?_)
    have hc256 : T.getD i 0 < 256 := (hok.2.2.1 i hiT).1
    exact gx_reti G hP hD hS h (pk_charN (by omega)).1 (by decide) dX11_outputAt_34
  · replace h := it_f c2 h
    exact gx_throwW (cE := 2) (E := "java/lang/IndexOutOfBoundsException") (XW := xw2) hlt hSX rfl (by decide) rfl xg2 xl2 xo2 (by decide +kernel) q4_211 q1_23 (List.mem_of_getElem? (i := 7) rfl) rfl G hnt hP hD hS h hl.1 dX11_outputAt_15 dX11_outputAt_18 dX11_outputAt_19 dX11_outputAt_22 dX11_outputAt_25 (by decide) (Nat.le_of_ble_eq_true rfl)

