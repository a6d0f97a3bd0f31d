-- ===== p61: at, steps, put, fails =====
theorem dL_at_0 : decode cL_at 0 = .ok (.iload_n 1, 1) := by decide +kernel
theorem dL_at_1 : decode cL_at 1 = .ok (.aload_n 0, 1) := by decide +kernel
theorem dL_at_2 : decode cL_at 2 = .ok (.arraylength, 1) := by decide +kernel
theorem dL_at_3 : decode cL_at 3 = .ok (.if_icmp .ge 9, 3) := by decide +kernel
theorem dL_at_6 : decode cL_at 6 = .ok (.aload_n 0, 1) := by decide +kernel
theorem dL_at_7 : decode cL_at 7 = .ok (.iload_n 1, 1) := by decide +kernel
theorem dL_at_8 : decode cL_at 8 = .ok (.iaload, 1) := by decide +kernel
theorem dL_at_9 : decode cL_at 9 = .ok (.goto 4, 3) := by decide +kernel
theorem dL_at_12 : decode cL_at 12 = .ok (.iconst 0, 1) := by decide +kernel
theorem dL_at_13 : decode cL_at 13 = .ok (.ireturn, 1) := by decide +kernel
theorem dL_put_0 : decode cL_put 0 = .ok (.iconst 0, 1) := by decide +kernel
theorem dL_put_1 : decode cL_put 1 = .ok (.istore_n 2, 1) := by decide +kernel
theorem dL_put_2 : decode cL_put 2 = .ok (.iload_n 2, 1) := by decide +kernel
theorem dL_put_3 : decode cL_put 3 = .ok (.aload_n 1, 1) := by decide +kernel
theorem dL_put_4 : decode cL_put 4 = .ok (.invokevirtual 7, 3) := by decide +kernel
theorem dL_put_7 : decode cL_put 7 = .ok (.if_icmp .ge 19, 3) := by decide +kernel
theorem dL_put_10 : decode cL_put 10 = .ok (.aload_n 0, 1) := by decide +kernel
theorem dL_put_11 : decode cL_put 11 = .ok (.aload_n 1, 1) := by decide +kernel
theorem dL_put_12 : decode cL_put 12 = .ok (.iload_n 2, 1) := by decide +kernel
theorem dL_put_13 : decode cL_put 13 = .ok (.invokevirtual 13, 3) := by decide +kernel
theorem dL_put_16 : decode cL_put 16 = .ok (.invokevirtual 17, 3) := by decide +kernel
theorem dL_put_19 : decode cL_put 19 = .ok (.pop, 1) := by decide +kernel
theorem dL_put_20 : decode cL_put 20 = .ok (.iinc 2 1, 3) := by decide +kernel
theorem dL_put_23 : decode cL_put 23 = .ok (.goto (-21), 3) := by decide +kernel
theorem dL_put_26 : decode cL_put 26 = .ok (.return_, 1) := by decide +kernel
theorem dL_steps_0 : decode cL_steps 0 = .ok (.iload_n 0, 1) := by decide +kernel
theorem dL_steps_1 : decode cL_steps 1 = .ok (.iconst 2, 1) := by decide +kernel
theorem dL_steps_2 : decode cL_steps 2 = .ok (.iload_n 1, 1) := by decide +kernel
theorem dL_steps_3 : decode cL_steps 3 = .ok (.imul, 1) := by decide +kernel
theorem dL_steps_4 : decode cL_steps 4 = .ok (.iadd, 1) := by decide +kernel
theorem dL_steps_5 : decode cL_steps 5 = .ok (.iconst 1, 1) := by decide +kernel
theorem dL_steps_6 : decode cL_steps 6 = .ok (.isub, 1) := by decide +kernel
theorem dL_steps_7 : decode cL_steps 7 = .ok (.iconst 2, 1) := by decide +kernel
theorem dL_steps_8 : decode cL_steps 8 = .ok (.iload_n 1, 1) := by decide +kernel
theorem dL_steps_9 : decode cL_steps 9 = .ok (.imul, 1) := by decide +kernel
theorem dL_steps_10 : decode cL_steps 10 = .ok (.idiv, 1) := by decide +kernel
theorem dL_steps_11 : decode cL_steps 11 = .ok (.istore_n 3, 1) := by decide +kernel
theorem dL_steps_12 : decode cL_steps 12 = .ok (.iload_n 2, 1) := by decide +kernel
theorem dL_steps_13 : decode cL_steps 13 = .ok (.iload_n 3, 1) := by decide +kernel
theorem dL_steps_14 : decode cL_steps 14 = .ok (.iconst 1, 1) := by decide +kernel
theorem dL_steps_15 : decode cL_steps 15 = .ok (.isub, 1) := by decide +kernel
theorem dL_steps_16 : decode cL_steps 16 = .ok (.iload_n 1, 1) := by decide +kernel
theorem dL_steps_17 : decode cL_steps 17 = .ok (.imul, 1) := by decide +kernel
theorem dL_steps_18 : decode cL_steps 18 = .ok (.iadd, 1) := by decide +kernel
theorem dL_steps_19 : decode cL_steps 19 = .ok (.bipush 12, 2) := by decide +kernel
theorem dL_steps_21 : decode cL_steps 21 = .ok (.if_icmp .ge 7, 3) := by decide +kernel
theorem dL_steps_24 : decode cL_steps 24 = .ok (.iload_n 3, 1) := by decide +kernel
theorem dL_steps_25 : decode cL_steps 25 = .ok (.goto 4, 3) := by decide +kernel
theorem dL_steps_28 : decode cL_steps 28 = .ok (.iconst (-1), 1) := by decide +kernel
theorem dL_steps_29 : decode cL_steps 29 = .ok (.ireturn, 1) := by decide +kernel
theorem dL_fails_0 : decode cL_fails 0 = .ok (.aload_n 0, 1) := by decide +kernel
theorem dL_fails_1 : decode cL_fails 1 = .ok (.aload_n 1, 1) := by decide +kernel
theorem dL_fails_2 : decode cL_fails 2 = .ok (.invokestatic 170, 3) := by decide +kernel
theorem dL_fails_5 : decode cL_fails 5 = .ok (.aload_n 0, 1) := by decide +kernel
theorem dL_fails_6 : decode cL_fails 6 = .ok (.invokestatic 182, 3) := by decide +kernel
theorem dL_fails_9 : decode cL_fails 9 = .ok (.iconst (-1), 1) := by decide +kernel
theorem dL_fails_10 : decode cL_fails 10 = .ok (.if_icmp .ne 15, 3) := by decide +kernel
theorem dL_fails_13 : decode cL_fails 13 = .ok (.aload_n 0, 1) := by decide +kernel
theorem dL_fails_14 : decode cL_fails 14 = .ok (.invokevirtual 306, 3) := by decide +kernel
theorem dL_fails_17 : decode cL_fails 17 = .ok (.iload_n 2, 1) := by decide +kernel
theorem dL_fails_18 : decode cL_fails 18 = .ok (.if_icmp .ne 7, 3) := by decide +kernel
theorem dL_fails_21 : decode cL_fails 21 = .ok (.iconst 1, 1) := by decide +kernel
theorem dL_fails_22 : decode cL_fails 22 = .ok (.goto 4, 3) := by decide +kernel
theorem dL_fails_25 : decode cL_fails 25 = .ok (.iconst 0, 1) := by decide +kernel
theorem dL_fails_26 : decode cL_fails 26 = .ok (.ireturn, 1) := by decide +kernel
section W62
variable {p : Program} {l : Launch} {e : Env} {R : Room} {s : State} {m : MethodId} {args : Array Value} {below : List Frame} {meth : Method} {c : Code} {H : Heap} {locs : List Loc} {cells slots : Nat} {Q : State → Prop}
variable {cc : ByteArray} {maxL : Nat} {ret : Option FieldType} {pc : Nat} {ls : Array Slot} {rest : List Value} {D : va_G} {A : Nat → Prop} {cA : Nat → ClassId} {ad a : Nat → Nat} {fr : va_W} {σ : St}
variable {ST : gST} {own : String} {N : Nat} {sh : Nat → Sh} {tys : List (ClassId × FieldType)}
theorem gl_callWi {d1 : Nat} {y : MethodName} {bytes : ByteArray} {n nA index : Nat} {ret' : Option FieldType} {C : String} {σ1 : St} {r : Int32} {As st0 : List Value} {b9 : Nat} (hM : gMet l y bytes n ret' d1 D tys ST (gwd N sh cA ad a fr σ) (.ref b9 :: As) (fun A => gQi D tys A (gwd N sh cA ad a fr) r σ1)) (G : GC p s m args meth c cc maxL own ret A D tys ST) (hP : va_P D vwCl (gwd N sh cA ad a fr σ) H) (hD : va_D A (gwd N sh cA ad a fr σ)) (hS : va_S A s.heap H locs)
    (hg : GoodIn BIG (wsV own index C y (.code y bytes n ret' :: BIG))) (hd : y.cls = C ∧ y.cls ≠ "java/lang/invoke/MethodHandle" ∧ y.cls ≠ "java/lang/invoke/VarHandle" ∧ (parseMethodDescriptor y.desc).map (fun d => d.parameters.length) = some nA) (hr : d1 + 1 ≤ R.frames ∧ 19 + n + 40 * d1 ≤ R.locals ∧ cells ≤ R.cells ∧ slots ≤ R.slots) (hrecv : ∃ cell : Cell, H[b9]? = some cell ∧ cell.vm.isStatics = false ∧ s.vm.findClass C = some cell.cls) (hn : As.length = nA) (hls : ls.size = maxL) (rest : List Value) (hst : st0 = As.reverse ++ .ref b9 :: rest) (hcat : (rest.map fun v => v.category).sum ≤ 8) (hdg : decode cc pc = .ok (.invokevirtual index, 3))
    (kk : ∀ (H1 : Heap) (locs1 : List Loc), va_P D vwCl (gwd N sh cA ad a fr σ1) H1 → va_D A (gwd N sh cA ad a fr σ1) → va_S A s.heap H1 locs1 → W p l e R s m args below meth c H1 locs1 cells slots Q (F0 m (pc + 3) ls (.int r :: rest))) : W p l e R s m args below meth c H locs cells slots Q (F0 m pc ls st0) := by
  obtain ⟨hx, hb, hml, hown, hts, -, hlocks, hA, hK, hN, hX, hT⟩ := G
  have hF := g_free hD hS hA
  refine va_calli (va_runV (As := As) (rest := rest) ⟨hx, hb, hml, hown, hts⟩ (hM H.size) (cwV nA hts hg rfl rfl rfl hd ⟨by show d1 + 1 ≤ R.frames; exact hr.1, by show 8 + (n + 11) + 40 * d1 ≤ R.locals; omega⟩) ⟨gPre_blind hT, hrecv, fun U hU hW => ⟨rfl, by rw [hU], by rw [hU]; exact hP, va_K.moved hW.alike hK, hD.weaken (fun _ _ _ _ => trivial), hN.warm hW, hT.2 _ _ _ _ _ _ hX hS hU hW hF⟩⟩ rfl hn hls hst (lv_room hcat) hdg ⟨hr.2.2.1, hr.2.2.2⟩) hS (fun q _ h => hF q h) hF (fun r9 u9 t H1 locs1 ht hvm hw hB hz1 hk1 hS1 => ?_)
  obtain ⟨rfl, rfl⟩ := hw
  obtain ⟨hP1, hK1, hD1⟩ := hB
  rw [ht] at hP1
  exact kk H1 locs1 hP1 (hD1.weaken (fun _ q _ h => hF q.1 h)) hS1
end W62
theorem tk_S (B T : List Nat) {i : Nat} (h : i < T.length) : B ++ T.take i ++ [T.getD i 0] = B ++ T.take (i + 1) := by
  rw [List.append_assoc, List.take_add_one, List.getD_eq_getElem?_getD, List.getElem?_eq_getElem h]
  rfl
/-- the script: an array of the start -/
def STB (b L : Nat) (xs : Nat → Int32) (ST : gST) : Prop := ∀ (A : Nat → Prop) (U : State), ST A U → va_X b L xs U U.heap ∧ b < U.heap.size ∧ ¬ A b
def atF (L : Nat) (xs : Nat → Int32) (k : Nat) : Int32 := if k < L then xs k else 0
set_option maxHeartbeats 4000000 in
set_option maxRecDepth 100000 in
theorem mL_at (l : Launch) (D : va_G) (cA : Nat → ClassId) (ST : gST) (hT : STok ST) {b L : Nat} {xs : Nat → Int32} (hB : STB b L xs ST) (hL : L < 2 ^ 31) (k : Nat) (hk : k < 2 ^ 31) : gMetG l yL_at cL_at 2 (some .int) 0 0 0 D (TYS cA) ST [] [.ref b, .int (nI k)] (gGi D (TYS cA) (fun r (_ : Unit) => r = atF L xs k) (fun _ => [])) := by
  refine g_ofWG hT (by decide +kernel) (Nat.le_of_ble_eq_true rfl) ?_
  intro p e s m args below meth c ls A G hP hD hl
  have G : GC p s m args meth c cL_at 2 RL (some .int) A D (TYS cA) ST := G
  have hx := G.1
  have hb := G.2.1
  have hS : va_S A s.heap s.heap [] := va_S.rf
  have hl : lv_has ls 2 [(0, .ref b), (1, .int (nI k))] := hl
  obtain ⟨hX, hbl, hbA⟩ := hB _ _ G.2.2.2.2.2.2.2.2.2.2.1
  have ek : (nI k).toNatClampNeg = k := nI_clamp (by omega)
  refine lv_iload_n hx hb dL_at_0 rfl (lv_at hl 1 rfl) ?_
  refine lv_aload_n hx hb dL_at_1 rfl (lv_at hl 0 rfl) ?_
  refine va_slen hx hb hX hbl hbA hS dL_at_2 ?_
  refine lv_icmp_ge (tgt := 12) hx hb dL_at_3 (by decide) (fun c => ?_) (fun c => ?_)
  · have c : ¬ k < L := fun q => nI_ge q hL c
    refine lv_iconst (v := 0) hx hb dL_at_12 (by decide) ?_
    exact c_reti () (if_neg c).symm rfl G hP hD hS (by decide) dL_at_13
  · have c : k < L := Nat.not_le.mp fun q => c (nI_le q hk)
    refine lv_aload_n hx hb dL_at_6 rfl (lv_at hl 0 rfl) ?_
    refine lv_iload_n hx hb dL_at_7 rfl (lv_at hl 1 rfl) ?_
    refine va_sld hx hb hX hbl hbA hS (vp_in_nI c hL) dL_at_8 ?_
    rw [ek]
    refine lv_goto (tgt := 13) hx hb dL_at_9 (by decide) ?_
    exact c_reti () (if_pos c).symm rfl G hP hD hS (by decide) dL_at_13
set_option maxHeartbeats 4000000 in
set_option maxRecDepth 100000 in
theorem mL_steps (l : Launch) (D : va_G) (cA : Nat → ClassId) (ST : gST) (hT : STok ST) (n : Nat) (h1 : 1 ≤ n) (h2 : n ≤ 60) : gMetG l yL_steps cL_steps 4 (some .int) 0 0 0 D (TYS cA) ST [] [.int (nI n), .int 1, .int 1] (gGi D (TYS cA) (fun r (_ : Unit) => r = if (n + 1) / 2 < 12 then nI ((n + 1) / 2) else -1) (fun _ => [])) := by
  refine g_ofWG hT (by decide +kernel) (Nat.le_of_ble_eq_true rfl) ?_
  intro p e s m args below meth c ls A G hP hD hl
  have G : GC p s m args meth c cL_steps 4 RL (some .int) A D (TYS cA) ST := G
  have hx := G.1
  have hb := G.2.1
  have hS : va_S A s.heap s.heap [] := va_S.rf
  have hl : lv_has ls 4 [(0, .int (nI n)), (1, .int 1), (2, .int 1)] := hl
  refine lv_iload_n hx hb dL_steps_0 rfl (lv_at hl 0 rfl) ?_
  refine lv_iconst (v := 2) hx hb dL_steps_1 (by decide) ?_
  refine lv_iload_n hx hb dL_steps_2 rfl (lv_at hl 1 rfl) ?_
  refine lv_imul hx hb dL_steps_3 ?_
  refine lv_iadd hx hb dL_steps_4 ?_
  refine lv_iconst (v := 1) hx hb dL_steps_5 (by decide) ?_
  refine lv_isub hx hb dL_steps_6 ?_
  refine lv_iconst (v := 2) hx hb dL_steps_7 (by decide) ?_
  refine lv_iload_n hx hb dL_steps_8 rfl (lv_at hl 1 rfl) ?_
  refine lv_imul hx hb dL_steps_9 ?_
  refine lv_idiv hx hb dL_steps_10 (by decide) ?_
  have e1 : (nI n + 2 * 1 - 1) / (2 * 1) = nI ((n + 1) / 2) := by
    have a1 : ((2 : Int32) * 1) = nI 2 := by decide
    have a2 : nI n + nI 2 - 1 = nI (n + 1) := by
      rw [nI_add]
      exact pk_sub (a := n + 2) (b := 1) (by omega)
    rw [a1, a2, pk_div (by omega) (by omega) (by omega)]
  rw [e1]
  refine lv_istore_n (lv' := [(3, .int (nI ((n + 1) / 2))), (0, .int (nI n)), (1, .int 1), (2, .int 1)]) hx hb dL_steps_11 rfl hl (by decide) rfl (fun ls hl => ?_)
  refine lv_iload_n hx hb dL_steps_12 rfl (lv_at hl 3 rfl) ?_
  refine lv_iload_n hx hb dL_steps_13 rfl (lv_at hl 0 rfl) ?_
  refine lv_iconst (v := 1) hx hb dL_steps_14 (by decide) ?_
  refine lv_isub hx hb dL_steps_15 ?_
  refine lv_iload_n hx hb dL_steps_16 rfl (lv_at hl 2 rfl) ?_
  refine lv_imul hx hb dL_steps_17 ?_
  refine lv_iadd hx hb dL_steps_18 ?_
  have e2 : (1 : Int32) + (nI ((n + 1) / 2) - 1) * 1 = nI ((n + 1) / 2) := by
    have a2 : nI ((n + 1) / 2) - 1 = nI ((n + 1) / 2 - 1) := pk_sub (a := (n + 1) / 2) (b := 1) (by omega)
    rw [a2, Int32.mul_one]
    have a3 : nI 1 + nI ((n + 1) / 2 - 1) = nI (1 + ((n + 1) / 2 - 1)) := nI_add _ _
    rw [show 1 + ((n + 1) / 2 - 1) = (n + 1) / 2 by omega] at a3
    exact a3
  rw [e2]
  refine lv_bipush (v := 12) hx hb dL_steps_19 (by decide) ?_
  refine lv_icmp_ge (tgt := 28) hx hb dL_steps_21 (by decide) (fun c => ?_) (fun c => ?_)
  · have c : ¬ (n + 1) / 2 < 12 := fun q => nI_ge q (by omega) c
    refine lv_iconst (v := -1) hx hb dL_steps_28 (by decide) ?_
    exact c_reti () (if_neg c).symm rfl G hP hD hS (by decide) dL_steps_29
  · have c : (n + 1) / 2 < 12 := Nat.not_le.mp fun q => c (nI_le (a := 12) q (by omega))
    refine lv_iload_n hx hb dL_steps_24 rfl (lv_at hl 0 rfl) ?_
    refine lv_goto (tgt := 29) hx hb dL_steps_25 (by decide) ?_
    exact c_reti () (if_pos c).symm rfl G hP hD hS (by decide) dL_steps_29
set_option maxHeartbeats 4000000 in
set_option maxRecDepth 100000 in
theorem mL_put (l : Launch) (hlt : l.stackTraces = false) (D : va_G) (cA : Nat → ClassId) (ad adF adW tt a : Nat → Nat) (fr : va_W) (ST : gST) (hT : STE ad adF adW tt ST) (hSX : STX ST) (hW : STW adW tt ST) (adV tv : Nat → Nat) (hV : STV adV tv ST) (k : Nat) (hk : k < 16) {σ : St} {X : AM} {Hs : List AM} {Sv : Option AM} {B : List Nat} {er fl : Option Nat} {C : Nat} (h : KG σ X Hs Sv B er fl C) (h60 : B.length + (vT.getD k []).length ≤ 60) : gMetG l yL_put cL_put 3 none 7 (2 * (vT.getD k []).length) (12 * (vT.getD k []).length) D (TYS cA) ST (wc cA ad a fr σ) [.ref (a 209), .ref (adV k)] (gGv D (TYS cA) (fun s1 => KG s1 X Hs Sv (B ++ vT.getD k []) er fl C) (wc cA ad a fr)) := by
  refine g_ofWG hT.1 (by decide +kernel) (Nat.le_of_ble_eq_true rfl) ?_
  intro p e s m args below meth c ls A G hP hD hl
  have G : GC p s m args meth c cL_put 3 RL none A D (TYS cA) ST := G
  have hx := G.1
  have hb := G.2.1
  have hS : va_S A s.heap s.heap [] := va_S.rf
  have hl : lv_has ls 3 [(0, .ref (a 209)), (1, .ref (adV k))] := hl
  have hVG := hV _ _ G.2.2.2.2.2.2.2.2.2.2.1
  have ek : (nI k).toNatClampNeg = k := nI_clamp (by omega)
  have loop : ∀ (d i : Nat) (σ1 : St) (H : Heap) (locs : List Loc) (ls : Array Slot), i + d = (vT.getD k []).length → KG σ1 X Hs Sv (B ++ (vT.getD k []).take i) er fl C → va_P D vwCl (wc cA ad a fr σ1) H → va_D A (wc cA ad a fr σ1) → va_S A s.heap H locs → lv_has ls 3 [(2, .int (nI i)), (0, .ref (a 209)), (1, .ref (adV k))] → W p l e (RMC 7 (2 * (vT.getD k []).length) (12 * (vT.getD k []).length)) s m args below meth c H locs (2 * i) (12 * i) (MQ below (gGv D (TYS cA) (fun s1 => KG s1 X Hs Sv (B ++ vT.getD k []) er fl C) (wc cA ad a fr) A) args s (2 * (vT.getD k []).length) (12 * (vT.getD k []).length) A) (F0 m 2 ls []) := by
    intro d
    induction d with
    | zero =>
      intro i σ1 H locs ls hi hK hP hD hS hl
      have hrc := vk_recv hVG hk hS
      refine lv_iload_n hx hb dL_put_2 rfl (lv_at hl 0 rfl) ?_
      refine lv_aload_n hx hb dL_put_3 rfl (lv_at hl 2 rfl) ?_
      have hlen := nJ0_length_8abf5 l D cA ad adF adW tt a fr ST hT hW adV tv hV (nI k) σ1 _ σ1 (v_len hk)
      rw [ek] at hlen
      refine gl_callWi (nA := 0) hlen G hP hD hS (g_good q5_121 q4_199 q4_200 q1_14 q4_201) (by decide +kernel) ⟨Nat.le_of_ble_eq_true rfl, Nat.le_of_ble_eq_true rfl, by show 2 * i ≤ 2 * _; omega, by show 12 * i ≤ 12 * _; omega⟩ hrc rfl hl.1 [.int (nI i)] rfl (Nat.le_of_ble_eq_true rfl) dL_put_4 (fun H locs hP hD hS => ?_)
      refine lv_icmp_ge (tgt := 26) hx hb dL_put_7 (by decide) (fun _ => ?_) (fun c => absurd (nI_le (by omega) (by omega)) c)
      rw [List.take_of_length_le (by omega)] at hK
      exact c_retv σ1 hK G hP hD hS ⟨by omega, by omega⟩ dL_put_26
    | succ d ih =>
      intro i σ1 H locs ls hi hK hP hD hS hl
      have hrc := vk_recv hVG hk hS
      have hch := v_chr (σ := σ1) hk (show i < (vT.getD k []).length by omega)
      refine lv_iload_n hx hb dL_put_2 rfl (lv_at hl 0 rfl) ?_
      refine lv_aload_n hx hb dL_put_3 rfl (lv_at hl 2 rfl) ?_
      have hlen := nJ0_length_8abf5 l D cA ad adF adW tt a fr ST hT hW adV tv hV (nI k) σ1 _ σ1 (v_len hk)
      rw [ek] at hlen
      refine gl_callWi (nA := 0) hlen G hP hD hS (g_good q5_121 q4_199 q4_200 q1_14 q4_201) (by decide +kernel) ⟨Nat.le_of_ble_eq_true rfl, Nat.le_of_ble_eq_true rfl, by show 2 * i ≤ 2 * _; omega, by show 12 * i ≤ 12 * _; omega⟩ hrc rfl hl.1 [.int (nI i)] rfl (Nat.le_of_ble_eq_true rfl) dL_put_4 (fun H locs hP hD hS => ?_)
      refine lv_icmp_ge (tgt := 26) hx hb dL_put_7 (by decide) (fun c => absurd c (nI_ge (by omega) (by omega))) (fun _ => ?_)
      refine lv_aload_n hx hb dL_put_10 rfl (lv_at hl 1 rfl) ?_
      refine lv_aload_n hx hb dL_put_11 rfl (lv_at hl 2 rfl) ?_
      refine lv_iload_n hx hb dL_put_12 rfl (lv_at hl 0 rfl) ?_
      have hrc := vk_recv hVG hk hS
      have hcm := nJ0_charAt_5068e l D cA ad adF adW tt a fr ST hT hW adV tv hV (nI k) (nI i) σ1 _ σ1 hch.1
      rw [ek] at hcm
      refine gl_callWi (nA := 1) hcm G hP hD hS (g_good q5_122 q4_208 q4_209 q1_14 q4_210) (by decide +kernel) ⟨Nat.le_of_ble_eq_true rfl, Nat.le_of_ble_eq_true rfl, by show 2 * i ≤ 2 * _; omega, by show 12 * i ≤ 12 * _; omega⟩ hrc rfl hl.1 [.ref (a 209)] rfl (Nat.le_of_ble_eq_true rfl) dL_put_13 (fun H locs hP hD hS => ?_)
      have htl : ((vT.getD k []).take i).length = i := by rw [List.length_take]; omega
      obtain ⟨σ2, t1, t2⟩ := q_type hK hch.2.1 hch.2.2 (by rw [List.length_append, htl]; omega)
      refine gl_callVi (nA := 1) (mX11_type l hlt D cA ad adF adW tt a fr ST hT hSX _ σ1 0 _ σ2 t1) G hP hD hS (g_good q5_123 q5_124 q5_125 q1_1 q5_126) (by decide +kernel) ⟨Nat.le_of_ble_eq_true rfl, Nat.le_of_ble_eq_true rfl, by show 2 * i + 2 ≤ 2 * _; omega, by show 12 * i + 6 * 2 ≤ 12 * _; omega⟩ (by decide) sc_209 rfl rfl hl.1 [] rfl (Nat.le_of_ble_eq_true rfl) dL_put_16 (fun h0 => absurd rfl h0) (fun _ H locs hP hD hS => ?_)
      refine lv_pop hx hb dL_put_19 rfl ?_
      refine lv_iinc (v := nI (i + 1)) (lv' := [(2, .int (nI (i + 1))), (0, .ref (a 209)), (1, .ref (adV k))]) hx hb dL_put_20 hl (k := 0) rfl (nI_1 i) (by decide) rfl (fun ls hl => ?_)
      refine lv_goto (tgt := 2) hx hb dL_put_23 (by decide) ?_
      have htk := tk_S B (vT.getD k []) (i := i) (by omega)
      rw [htk] at t2
      exact ih (i + 1) σ2 H locs ls (by omega) t2 hP hD hS hl
  refine lv_iconst (v := nI 0) hx hb dL_put_0 rfl ?_
  refine lv_istore_n (lv' := [(2, .int (nI 0)), (0, .ref (a 209)), (1, .ref (adV k))]) hx hb dL_put_1 rfl hl (by decide) rfl (fun ls hl => ?_)
  exact loop (vT.getD k []).length 0 σ s.heap [] ls (by omega) (by rw [List.take_zero, List.append_nil]; exact h) hP hD hS hl
