set_option maxHeartbeats 4000000 in
set_option maxRecDepth 100000 in
theorem mL_outputAt (l : Launch) (hlt : l.stackTraces = false) (D : va_G) (cA : Nat → ClassId) (ad adF adW tt a : Nat → Nat) (fr : va_W) (ST : gST) (hT : STE ad adF adW tt ST) (hSX : STX ST) (hSN : STN ST) (hW : STW adW tt ST) (hSP : STP ST) (hSD : STD tt ST) (T : List Nat) (b : SBb) (hok : SBT T b) (p1 : Int32) (s0 : St) (c1 : Nat) (r : Int32) (s' : St) (ao : Nat) (g : Nat → Int64) (h : fOut T p1 s0 = some ((c1, r), s')) (hc1 : c1 = 0 ∨ c1 = 2) : gMetL l yL_outputAt cL_outputAt 4 (some .int) [(0, 9, 12, 27)] 11 D (TYS cA) ST (wc cA ad a (ocL cA ao g :: (sbC cA (a 241) T.length b ++ fr)) s0) [.ref (a 209), .int p1, .ref ao] (fun A => gQl D (TYS cA) A (fun u => wc cA ad a (ocL cA ao u.2 :: (sbC cA (a 241) T.length b ++ fr)) u.1) (hix [2] c1) (s', if c1 = 0 then vp_updL g 0 (r.toInt64) else g)) := by
  refine g_ofWL hT.1 (by decide +kernel) (Nat.le_of_ble_eq_true rfl) ?_
  intro p e s m args below meth c ls A G htab hP hD hl
  have G : GC p s m args meth c cL_outputAt 4 RL (some .int) A D (TYS cA) ST := G
  have hx := G.1
  have hb := G.2.1
  have hS : va_S A s.heap s.heap [] := va_S.rf
  have hl : lv_has ls 4 [(0, .ref (a 209)), (1, .int p1), (2, .ref ao)] := hl
  refine lv_aload_n hx hb dL_outputAt_0 rfl (lv_at hl 2 rfl) ?_
  refine lv_iconst (v := 0) hx hb dL_outputAt_1 (by decide) ?_
  refine lv_aload_n hx hb dL_outputAt_2 rfl (lv_at hl 0 rfl) ?_
  refine lv_iload_n hx hb dL_outputAt_3 rfl (lv_at hl 1 rfl) ?_
  refine gl_callVi (fr := ocL cA ao g :: (sbC cA (a 241) T.length b ++ fr)) (nA := 1) (mX11_outputAt l hlt D cA ad adF adW tt a [ocL cA ao g] fr ST hT hW hSP hSD hSX T b hok p1 s0 c1 r s' h) G hP hD hS (g_good q7_5 q7_6 q7_7 q1_1 q7_8) (by decide +kernel) (by decide) (by decide) sc_209 rfl rfl hl.1 [.int 0, .ref ao] rfl (Nat.le_of_ble_eq_true rfl) dL_outputAt_4 (fun hc0 ce q9 H locs hP hD hS hce hcv hcl => ?_) (fun hc0 H locs hP hD hS => ?_)
  · rcases hc1 with rfl | rfl
    · exact absurd rfl hc0
    · refine gl_catch (E := "java/lang/IndexOutOfBoundsException") hSN hSX G htab 0 (st := 0) (en := 9) (hp := 12) (ct := 27) [] [] rfl (List.forall_mem_nil _) (by decide +kernel) (by decide) q5_74 cs_2 hce hcv hcl ?_
      refine lv_astore_n (lv' := [(3, .ref q9), (0, .ref (a 209)), (1, .int p1), (2, .ref ao)]) hx hb dL_outputAt_12 rfl hl (by decide) rfl (fun ls hl => ?_)
      refine lv_iconst (v := 1) hx hb dL_outputAt_13 (by decide) ?_
      exact gl_ret (u := (s', g)) G hP hD hS rfl rfl (by decide) dL_outputAt_14
  · subst hc0
    refine lv_i2l hx hb dL_outputAt_7 rfl ?_
    refine gl_last rfl G hP hD hS dL_outputAt_8 (fun H locs hP hD hS => ?_)
    refine lv_goto (tgt := 15) hx hb dL_outputAt_9 (by decide) ?_
    refine lv_iconst (v := 0) hx hb dL_outputAt_15 (by decide) ?_
    exact gl_ret (u := (s', vp_updL g 0 (r.toInt64))) G hP hD hS rfl rfl (by decide) dL_outputAt_16
section L13
variable {p : Program} {l : Launch} {e : Env} {R : Room} {s : State} {m : MethodId} {args : Array Value} {below : List Frame} {meth : Method} {c : Code} {H : Heap} {locs : List Loc} {cells slots : Nat} {Q : State → Prop}
variable {cc : ByteArray} {maxL : Nat} {ret : Option FieldType} {pc : Nat} {ls : Array Slot} {rest : List Value} {D : va_G} {A : Nat → Prop} {cA : Nat → ClassId} {ad a : Nat → Nat} {fr : va_W} {σ : St}
variable {ST : gST} {own : String} {N : Nat} {sh : Nat → Sh} {tys : List (ClassId × FieldType)} {ao : Nat}
theorem gl_callVg {β : Type} {ok : Int32 → β → Prop} {Wb : β → va_W} {n1 c1 : Nat} {d1 : Nat} {y : MethodName} {bytes : ByteArray} {n nA index ci : Nat} {ret' : Option FieldType} {C : String} {T : u_T} {M : Nat} {sl : List Nat} {σ1 : St} {As st0 : List Value} {k : Nat} (hM : gMetX l y bytes n ret' n1 d1 D tys ST (gwd N sh cA ad a fr σ) (.ref (a k) :: As) (fun A => gGi D tys ok Wb A) (fun A => gXC D tys A (gwd N sh cA ad a fr) c1 σ1)) (G : GC p s m args meth c cc maxL own ret A D tys ST) (hP : va_P D vwCl (gwd N sh cA ad a fr σ) H) (hD : va_D A (gwd N sh cA ad a fr σ)) (hS : va_S A s.heap H locs)
    (hg : GoodIn BIG (wsV own index C y (.code y bytes n ret' :: BIG))) (hd : y.cls = C ∧ y.cls ≠ "java/lang/invoke/MethodHandle" ∧ y.cls ≠ "java/lang/invoke/VarHandle" ∧ (parseMethodDescriptor y.desc).map (fun d => d.parameters.length) = some nA) (hr : d1 + 1 ≤ R.frames ∧ 19 + n + 40 * d1 ≤ R.locals ∧ cells + n1 ≤ R.cells ∧ slots + 6 * n1 ≤ R.slots) (hk : k < N) (hs : sh k = .inl (ci, sl)) (hc : vwCl[ci]? = some (C, T, M)) (hn : As.length = nA) (hls : ls.size = maxL) (rest : List Value) (hst : st0 = As.reverse ++ .ref (a k) :: rest) (hcat : (rest.map fun v => v.category).sum ≤ 8) (hdg : decode cc pc = .ok (.invokevirtual index, 3))
    (kx : c1 ≠ 0 → ∀ (ce : Cell) (q9 : Addr) (H1 : Heap) (locs1 : List Loc), va_P D vwCl (gwd N sh cA ad a fr σ1) H1 → va_D A (gwd N sh cA ad a fr σ1) → va_S A s.heap H1 locs1 → H1[q9]? = some ce → ce.vm = .none → s.vm.findClass (xcls c1) = some ce.cls → vx_W p l e R s m args below meth c H1 locs1 (cells + n1) (slots + 6 * n1) Q (F0 m pc ls rest) q9)
    (kk : ∀ (r : Int32) (b1 : β) (H1 : Heap) (locs1 : List Loc), ok r b1 → va_P D vwCl (Wb b1) H1 → va_D A (Wb b1) → va_S A s.heap H1 locs1 → W p l e R s m args below meth c H1 locs1 (cells + n1) (slots + 6 * n1) Q (F0 m (pc + 3) ls (.int r :: rest))) : W p l e R s m args below meth c H locs cells slots Q (F0 m pc ls st0) := by
  obtain ⟨hx, hb, hml, hown, hts, -, hlocks, hA, hK, hN, hX, hT⟩ := G
  have hF := g_free hD hS hA
  refine vx_calli (vx_runV (As := As) (rest := rest) ⟨hx, hb, hml, hown, hts⟩ (hM H.size) (cwV nA hts hg rfl rfl rfl hd ⟨by show d1 + 1 ≤ R.frames; exact hr.1, by show 8 + (n + 11) + 40 * d1 ≤ R.locals; omega⟩) ⟨gPre_blind hT, va_recv hK hP hc (gwd_get hk hs), fun U hU hW => ⟨rfl, by rw [hU], by rw [hU]; exact hP, va_K.moved hW.alike hK, hD.weaken (fun _ _ _ _ => trivial), hN.warm hW, hT.2 _ _ _ _ _ _ hX hS hU hW hF⟩⟩ rfl hn hls hst (lv_room hcat) hdg ⟨hr.2.2.1, hr.2.2.2⟩) hS (fun q _ h => hF q h) hF (fun q _ h => hF q h) (fun E9 ce q9 u9 t H1 locs1 ht hvm hp hB hz1 hk1 hS1 hce hcv hcl => ?_) (fun r9 u9 t H1 locs1 ht hvm hw hB hz1 hk1 hS1 => ?_)
  · obtain ⟨hc0, rfl⟩ := hp
    obtain ⟨rfl, hP1, hK1, hD1⟩ := hB
    rw [ht] at hP1
    exact kx hc0 ce q9 H1 locs1 hP1 (hD1.weaken (fun _ q _ h => hF q.1 h)) hS1 hce hcv hcl
  · have hw9 := hw
    obtain ⟨hP1, hK1, hD1⟩ := hB
    rw [ht] at hP1
    exact kk r9 u9 H1 locs1 hw hP1 (hD1.weaken (fun _ q _ h => hF q.1 h)) hS1
end L13
def gMetLG (l : Launch) (y : MethodName) (cc : ByteArray) (maxL : Nat) (ret : Option FieldType) (hh : List (Nat × Nat × Nat × Nat)) (d mc ms : Nat) (D : va_G) (tys : List (ClassId × FieldType)) (ST : gST) (ws : va_W) (av : List Value) (Qk : (Nat → Prop) → Array Value → State → Outcome → State → Prop) : Prop :=
  ∀ sz : Nat, Met l y (.codeWith y cc maxL ret hh :: BIG) (RMC d mc ms) (gPre D tys ST ws sz av) (Qk (va_A ws sz)) mc ms (va_A ws sz)
theorem g_ofWLG {l : Launch} {y : MethodName} {cc : ByteArray} {maxL d mc ms : Nat} {ret : Option FieldType} {hh : List (Nat × Nat × Nat × Nat)} {D : va_G} {tys : List (ClassId × FieldType)} {ST : gST} {ws : va_W} {av : List Value} {Qk : (Nat → Prop) → Array Value → State → Outcome → State → Prop} (hT : STok ST) (hy : plainName y.cls = true) (hav : (lg_sl av).length ≤ maxL)
    (body : ∀ p e s m args below meth c ls A, GC p s m args meth c cc maxL y.cls ret A D tys ST → c.exceptionTable.toList = tableOf hh → va_P D vwCl ws s.heap → va_D A ws → lv_has ls maxL (lv_args 0 av) → W p l e (RMC d mc ms) s m args below meth c s.heap [] 0 0 (MQ below (Qk A) args s mc ms A) (F0 m 0 ls [])) : gMetLG l y cc maxL ret hh d mc ms D tys ST ws av Qk := by
  intro sz
  refine va_MetW (cc := cc) (maxL := maxL) (ret := ret) (hh := hh) hy rfl ?_
  intro p e s m args below meth c s₁ B hml hv
  obtain ⟨rfl, hsz, hP, hK, hD0, hN, hX⟩ := hv
  subst hsz
  have hts0 := atoms_spec (ws := .codeWith y cc maxL ret hh :: BIG) B.pre
  have htab := vx_table (x := y) B (hts0 _ List.mem_cons_self)
  rw [lg_entry_eq]
  exact body p e s m av.toArray below meth c _ _ ⟨B.exec, B.bytes, hml, findClass_of_methodNamed B.named, fun w h => hts0 w (List.mem_cons_of_mem _ h), B.returns, B.notSynchronized, fun q h => Or.inr h, hK, hN, hX, hT⟩ htab hP hD0.self (lv_entry av hav)
set_option maxHeartbeats 4000000 in
set_option maxRecDepth 100000 in
theorem mL_renderWheel (l : Launch) (hlt : l.stackTraces = false) (D : va_G) (cA : Nat → ClassId) (ad adF adW tt a : Nat → Nat) (fr : va_W) (ST : gST) (hT : STE ad adF adW tt ST) (hSX : STX ST) (hSN : STN ST) (hW : STW adW tt ST) (hSP : STP ST) (hSD : STD tt ST) (T : List Nat) (b : SBb) (hok : SBT T b) (w gr we nm am : Nat) (st hd : Int32) (s0 : St) (hw3 : w < 3) (hreq : fX11_requireWheel (nI w) s0 = some ((0, 0), s0)) (hgr : s0 (0 + 16) w = nI gr) (hgr9 : gr < 100) (hwe : s0 (0 + 17) w = nI we) (hwe9 : we < 100) (hst : fX6_isStuck 0 (nI w) s0 = some (st, s0)) (hhd : fX7_isHeld (0 + 1) (nI w) s0 = some (hd, s0)) (hheld : ¬ hd = 0 → s0 (0 + 1 + 1) (12 + w) = nI nm ∧ s0 (0 + 1 + 4) (12 + w) = nI am) (hnm9 : nm < 2 ^ 31) (ham9 : am < 100) (ao : Nat) (g : Nat → Int64) : gMetLG l yL_renderWheel cL_renderWheel 4 (some .int) [(0, 9, 12, 27)] 11 70 420 D (TYS cA) ST (wc cA ad a (ocL cA ao g :: (sbC cA (a 241) T.length b ++ fr)) s0) [.ref (a 209), .int (nI w), .ref ao] (fun A => gGi D (TYS cA) (fun r (b9 : SBb) => r = 0 ∧ SBT (txW w gr we st hd nm am) b9) (fun b9 => wc cA ad a (ocL cA ao (vp_updL g 0 ((nI (txW w gr we st hd nm am).length).toInt64)) :: (sbC cA (a 241) (txW w gr we st hd nm am).length b9 ++ fr)) s0) A) := by
  refine g_ofWLG hT.1 (by decide +kernel) (Nat.le_of_ble_eq_true rfl) ?_
  intro p e s m args below meth c ls A G htab hP hD hl
  have G : GC p s m args meth c cL_renderWheel 4 RL (some .int) A D (TYS cA) ST := G
  have hx := G.1
  have hb := G.2.1
  have hS : va_S A s.heap s.heap [] := va_S.rf
  have hl : lv_has ls 4 [(0, .ref (a 209)), (1, .int (nI w)), (2, .ref ao)] := hl
  refine lv_aload_n hx hb dL_renderWheel_0 rfl (lv_at hl 2 rfl) ?_
  refine lv_iconst (v := 0) hx hb dL_renderWheel_1 (by decide) ?_
  refine lv_aload_n hx hb dL_renderWheel_2 rfl (lv_at hl 0 rfl) ?_
  refine lv_iload_n hx hb dL_renderWheel_3 rfl (lv_at hl 1 rfl) ?_
  refine gl_callVg (fr := ocL cA ao g :: (sbC cA (a 241) T.length b ++ fr)) (nA := 1) (mX11_renderWheel l hlt D cA ad adF adW tt a [ocL cA ao g] fr ST hT hW hSP hSD hSX T b hok w gr we nm am st hd s0 hw3 hreq hgr hgr9 hwe hwe9 hst hhd hheld hnm9 ham9) G hP hD hS (g_good q6_238 q6_239 q7_0 q1_1 q7_1) (by decide +kernel) (by decide) (by decide) sc_209 rfl rfl hl.1 [.int 0, .ref ao] rfl (Nat.le_of_ble_eq_true rfl) dL_renderWheel_4 (fun hc0 ce q9 H locs hP hD hS hce hcv hcl => absurd rfl hc0) (fun r b9 H locs hr9 hP hD hS => ?_)
  obtain ⟨-, rfl, hok9⟩ := hr9
  refine lv_i2l hx hb dL_renderWheel_7 rfl ?_
  refine gl_last (fr := sbC cA (a 241) (txW w gr we st hd nm am).length b9 ++ fr) (g := g) rfl G hP hD hS dL_renderWheel_8 (fun H locs hP hD hS => ?_)
  refine lv_goto (tgt := 15) hx hb dL_renderWheel_9 (by decide) ?_
  refine lv_iconst (v := 0) hx hb dL_renderWheel_15 (by decide) ?_
  exact c_reti b9 ⟨rfl, hok9⟩ rfl G hP hD hS (by decide) dL_renderWheel_16
set_option maxHeartbeats 4000000 in
set_option maxRecDepth 100000 in
theorem mL_renderWheel_x (l : Launch) (hlt : l.stackTraces = false) (D : va_G) (cA : Nat → ClassId) (ad adF adW tt a : Nat → Nat) (fr : va_W) (ST : gST) (hT : STE ad adF adW tt ST) (hSX : STX ST) (hSN : STN ST) (hW : STW adW tt ST) (hSP : STP ST) (hSD : STD tt ST) (p1 : Int32) (s0 : St) (hreq : fX11_requireWheel p1 s0 = some ((2, 0), s0)) (ao : Nat) (g : Nat → Int64) : gMetLG l yL_renderWheel cL_renderWheel 4 (some .int) [(0, 9, 12, 27)] 11 70 420 D (TYS cA) ST (wc cA ad a (ocL cA ao g :: fr) s0) [.ref (a 209), .int p1, .ref ao] (fun A => gGi D (TYS cA) (fun r (_ : Unit) => r = 1) (fun _ => wc cA ad a (ocL cA ao g :: fr) s0) A) := by
  refine g_ofWLG hT.1 (by decide +kernel) (Nat.le_of_ble_eq_true rfl) ?_
  intro p e s m args below meth c ls A G htab hP hD hl
  have G : GC p s m args meth c cL_renderWheel 4 RL (some .int) A D (TYS cA) ST := G
  have hx := G.1
  have hb := G.2.1
  have hS : va_S A s.heap s.heap [] := va_S.rf
  have hl : lv_has ls 4 [(0, .ref (a 209)), (1, .int p1), (2, .ref ao)] := hl
  refine lv_aload_n hx hb dL_renderWheel_0 rfl (lv_at hl 2 rfl) ?_
  refine lv_iconst (v := 0) hx hb dL_renderWheel_1 (by decide) ?_
  refine lv_aload_n hx hb dL_renderWheel_2 rfl (lv_at hl 0 rfl) ?_
  refine lv_iload_n hx hb dL_renderWheel_3 rfl (lv_at hl 1 rfl) ?_
  refine gl_callVg (β := Unit) (ok := fun _ _ => False) (Wb := fun _ => []) (fr := ocL cA ao g :: fr) (nA := 1) (mX11_renderWheel_x l hlt D cA ad adF adW tt a (ocL cA ao g :: fr) ST hT hW hSP hSD hSX p1 2 (by decide) s0 hreq _) G hP hD hS (g_good q6_238 q6_239 q7_0 q1_1 q7_1) (by decide +kernel) (by decide) (by decide) sc_209 rfl rfl hl.1 [.int 0, .ref ao] rfl (Nat.le_of_ble_eq_true rfl) dL_renderWheel_4 (fun hc0 ce q9 H locs hP hD hS hce hcv hcl => ?_) (fun r b9 H locs hr9 hP hD hS => hr9.elim)
  refine gl_catch (E := "java/lang/IndexOutOfBoundsException") hSN hSX G htab 0 (st := 0) (en := 9) (hp := 12) (ct := 27) [] [] rfl (List.forall_mem_nil _) (by decide +kernel) (by decide) q5_74 cs_2 hce hcv hcl ?_
  refine lv_astore_n (lv' := [(3, .ref q9), (0, .ref (a 209)), (1, .int p1), (2, .ref ao)]) hx hb dL_renderWheel_12 rfl hl (by decide) rfl (fun ls hl => ?_)
  refine lv_iconst (v := 1) hx hb dL_renderWheel_13 (by decide) ?_
  exact c_reti () rfl rfl G hP hD hS (by decide) dL_renderWheel_14
