-- ===== the law's loop: its world, the calls in it =====
theorem Met_pre {l : Launch} {y : MethodName} {ws : List Cond} {rm : Room} {Pc Pc2 : Array Value → State → Prop} {Qc : Array Value → State → Outcome → State → Prop} {mc ms : Nat} {free : Addr → Prop} (h : Met l y ws rm Pc Qc mc ms free) (hp : ∀ a U, Pc2 a U → Pc a U) : Met l y ws rm Pc2 Qc mc ms free :=
  fun p e ha hc hk s m args below hf happ hP ht => h p e ha hc hk s m args below hf happ (hp _ _ hP) ht
theorem gPre_st {D : va_G} {tys : List (ClassId × FieldType)} {ST : gST} {ws : va_W} {sz : Nat} {av : List Value} {a : Array Value} {U : State} (h : gPre D tys ST ws sz av a U) : gPre D tys ST0 ws sz av a U := by
  obtain ⟨h1, h2, h3, h4, h5, h6, -⟩ := h
  exact ⟨h1, h2, h3, h4, h5, h6, trivial⟩
def gGd (D : va_G) (tys : List (ClassId × FieldType)) {β : Type} (ok : UInt64 → β → Prop) (Wb : β → va_W) (A : Nat → Prop) : Array Value → State → Outcome → State → Prop := va_Qd ok (bB D tys A Wb) A
def gGf (D : va_G) (tys : List (ClassId × FieldType)) {β : Type} (ok : UInt32 → β → Prop) (Wb : β → va_W) (A : Nat → Prop) : Array Value → State → Outcome → State → Prop := va_Qf ok (bB D tys A Wb) A
theorem gm_i {l : Launch} {y : MethodName} {cc : ByteArray} {n d : Nat} {ret : Option FieldType} {D : va_G} {cA : Nat → ClassId} {ST : gST} {ws : va_W} {av : List Value} {wd : St → va_W} {r : Int32} {s' : St} (h : gMet l y cc n ret d D (TYS cA) ST0 ws av (fun A => gQi D (TYS cA) A wd r s')) : gMetG l y cc n ret d 0 0 D (TYS cA) ST ws av (gGi D (TYS cA) (fun r1 s1 => r1 = r ∧ s1 = s') wd) :=
  fun sz => Met_pre (h sz) fun _ _ => gPre_st
theorem gm_d {l : Launch} {y : MethodName} {cc : ByteArray} {n d : Nat} {ret : Option FieldType} {D : va_G} {cA : Nat → ClassId} {ST : gST} {ws : va_W} {av : List Value} {wd : St → va_W} {r : UInt64} {s' : St} (h : gMet l y cc n ret d D (TYS cA) ST0 ws av (fun A => gQd D (TYS cA) A wd r s')) : gMetG l y cc n ret d 0 0 D (TYS cA) ST ws av (gGd D (TYS cA) (fun r1 s1 => r1 = r ∧ s1 = s') wd) :=
  fun sz => Met_pre (h sz) fun _ _ => gPre_st
theorem gm_f {l : Launch} {y : MethodName} {cc : ByteArray} {n d : Nat} {ret : Option FieldType} {D : va_G} {cA : Nat → ClassId} {ST : gST} {ws : va_W} {av : List Value} {wd : St → va_W} {r : UInt32} {s' : St} (h : gMet l y cc n ret d D (TYS cA) ST0 ws av (fun A => gQf D (TYS cA) A wd r s')) : gMetG l y cc n ret d 0 0 D (TYS cA) ST ws av (gGf D (TYS cA) (fun r1 s1 => r1 = r ∧ s1 = s') wd) :=
  fun sz => Met_pre (h sz) fun _ _ => gPre_st
theorem gx_i {l : Launch} {y : MethodName} {cc : ByteArray} {n d : Nat} {ret : Option FieldType} {D : va_G} {cA : Nat → ClassId} {ST : gST} {ws : va_W} {av : List Value} {wd : St → va_W} {r : Int32} {s' : St} (h : gMet l y cc n ret d D (TYS cA) ST ws av (fun A => gQi D (TYS cA) A wd r s')) : gMetG l y cc n ret d 0 0 D (TYS cA) ST ws av (gGi D (TYS cA) (fun r1 s1 => r1 = r ∧ s1 = s') wd) := h
theorem gl_L {α : Type} {l : Launch} {y : MethodName} {cc : ByteArray} {n d : Nat} {ret : Option FieldType} {hh : List (Nat × Nat × Nat × Nat)} {D : va_G} {cA : Nat → ClassId} {ST : gST} {ws : va_W} {av : List Value} {wd : St × (Nat → α) → va_W} {r : Int32} {u' : St × (Nat → α)} (h : gMetL l y cc n ret hh d D (TYS cA) ST ws av (fun A => gQl D (TYS cA) A wd r u')) : gMetLG l y cc n ret hh d 2 12 D (TYS cA) ST ws av (gGi D (TYS cA) (fun r1 u => r1 = r ∧ u = u') wd) := h
section SW
variable {p : Program} {l : Launch} {e : Env} {R : Room} {s T : State} {m : MethodId} {args : Array Value} {below : List Frame} {meth : Method} {c : Code} {locs : List Loc} {cells slots : Nat}
/-- a call of a static method that has handlers -/
theorem vl_callSW (X : Stand p l e R s m args below meth c T locs cells slots) (hexec : p.tables.exec = Jvm.exec) {own : String} {index : Nat} {y : MethodName} {bytes : ByteArray} {maxL : Nat} {ret : Option FieldType} {hh : List (Nat × Nat × Nat × Nat)}
    (hown : s.vm.findClass own = some m.cls) (hlink : (Cond.methodLink own index y).before args s = true) (hstat : (Cond.static y).before args s = true) (hinit : (Cond.initialized y.cls).before args s = true)
    (hcode : (Cond.codeWith y bytes maxL ret hh).before args s = true) (hy : y.cls ≠ "java/lang/invoke/MethodHandle" ∧ y.cls ≠ "java/lang/invoke/VarHandle")
    {W : Nat} {Pre : Pt → Array Value → Prop} {Post : Pt → Array Value → Option Value → Pt → Prop} (hK : Back l R p e below s args y 3 W Pre Post)
    {g : JFrame} (hg : g.method = m) (hsize : g.locals.size = c.maxLocals) {argsL rest : List Value} (hlen : ∀ sig, parseMethodDescriptor y.desc = some sig → argsL.length = sig.parameters.length)
    (hstack : g.stack = argsL.reverse ++ rest) (hW : 2 * g.monitorRoom + (rest.map fun v => v.category).sum ≤ W) (hdg : decode c.code g.pc = .ok (.invokestatic index, 3))
    (hpre : ∀ vm₁, s.WarmedH vm₁ → Pre ⟨T.setVm vm₁, locs, cells, slots⟩ argsL.toArray) :
    ∃ (v : Option Value) (vm₁ : Vm) (B : Pt), s.WarmedH vm₁ ∧ Stand p l e R s m args below meth c B.U B.locs B.cells B.slots ∧ Post ⟨T.setVm vm₁, locs, cells, slots⟩ argsL.toArray v B ∧
      ∀ target, Steps p.tables e below (B.U.setTop { g with pc := g.pc + 3, stack := v.toList ++ rest }) target → Steps p.tables e below (T.setTop g) target := by
  obtain ⟨mk, methM, cM, hnamed, hmethM, -, -, -, -, -, -, hsigM⟩ := Cond.codeWith_spec hcode
  have hstatic : methM.isStatic = true := Cond.static_spec hnamed hmethM hstat
  obtain ⟨kP, hkP, -⟩ := className_of_methodNamed hnamed
  have hinitP : kP.init = .initialized := Cond.initialized_spec (findClass_of_methodNamed hnamed) hkP hinit
  obtain ⟨vm₁, X₁, hstep₁⟩ := X.invokestatic hexec hown hlink hnamed hmethM hstatic hkP hinitP hy (g := g) hg (argsL := argsL) (rest := rest) (hlen _ hsigM) hstack hdg
  obtain ⟨v, B, X', hpost, hsteps⟩ := hK m meth c ⟨T.setVm vm₁, locs, cells, slots⟩ { g with stack := rest } (.invokestatic index) mk argsL.toArray X₁ hg hsize hdg hW (X₁.named hnamed) (hpre vm₁ X₁.warmed)
  exact ⟨v, vm₁, B, X₁.warmed, X', hpost, fun target h => hstep₁ _ fun acts => by rw [doInvoke_state]; exact hsteps.trans h⟩
theorem vl_runSW {H : Heap} {y : MethodName} {bytes cc : ByteArray} {maxL nL mc ms n index : Nat} {ret : Option FieldType} {hh : List (Nat × Nat × Nat × Nat)} {ws : List Cond} {rm : Room} {Pc : Array Value → State → Prop} {Qc : Array Value → State → Outcome → State → Prop} {free : Addr → Prop} {Ts : List Cond} {own : String} {As rest : List Value} {g : JFrame}
    (S : CallFix p m c cc nL s args Ts own) (hM : Met l y ws rm Pc Qc mc ms free) (hT : GoodIn Ts (va_wsS own index y ws)) (hc : Cond.codeWith y bytes maxL ret hh ∈ ws) (hrc : rm.cells = mc) (hrs : rm.slots = ms)
    (hd : y.cls ≠ "java/lang/invoke/MethodHandle" ∧ y.cls ≠ "java/lang/invoke/VarHandle" ∧ (parseMethodDescriptor y.desc).map (fun d => d.parameters.length) = some n) (hR : rm.frames + 1 ≤ R.frames ∧ 8 + (maxL + 11) + rm.locals ≤ R.locals) (hp : PreS s H Pc As)
    (hg : g.method = m) (hn : As.length = n) (hsize : g.locals.size = nL) (hstack : g.stack = As.reverse ++ rest) (hW : 2 * g.monitorRoom + (rest.map fun v => v.category).sum ≤ 8) (hdg : decode cc g.pc = .ok (.invokestatic index, 3)) (hf : cells + mc ≤ R.cells ∧ slots + ms ≤ R.slots) :
    va_Run p l e R s m args below meth c H locs cells slots mc ms g rest (Qc As.toArray) (free) := by
  obtain ⟨hx, hb, hml, ho, ht⟩ := S
  have ok : ∀ w ∈ va_wsS own index y ws, w.before args s = true := fun w h => ht w (hT w h).1
  have hG : GoodIn Ts ws := fun w h => hT w (by unfold va_wsS; exact List.mem_append_right _ h)
  have hini : (Cond.initialized y.cls).before args s = true := ok _ (by simp [va_wsS])
  have hlk : (Cond.methodLink own index y).before args s = true := ok _ (by simp [va_wsS])
  have hstt : (Cond.static y).before args s = true := ok _ (by simp [va_wsS])
  have hK : Back l R p e below s args y 3 8 (PreOf R mc ms Pc) (PostOf Qc mc ms free) := va_backW (hh := hh) (bytes := bytes) (maxL := maxL) (ret := ret) hM hp.1 hrc hrs hR.1 hR.2 (pay_in ht hG) hc (fun a' U hW => word_at hW (Or.inl (by first | rfl | simp [Cond.onTables, Cond.keeps, Cond.steady])) hini)
  intro T hT X
  obtain ⟨v, vm₁, ⟨U', l2, c2, s2⟩, hW₁, X', ⟨g', mk, t, L, e1, e2, hq, h1, hL, h2, h3⟩, st⟩ := vl_callSW X hx (hh := hh) (bytes := bytes) (maxL := maxL) (ret := ret) ho hlk hstt hini (ht _ (hG _ hc).1) ⟨hd.1, hd.2.1⟩ hK hg (hsize.trans hml.symm) (argsL := As) (rest := rest) (fun sig h => hn.trans (by have h2 := hd.2.2; rw [h] at h2; exact (Option.some.inj h2).symm)) hstack hW (by rw [hb]; exact hdg)
    (fun vm₁ hW₁ => ⟨hf.1, hf.2, hp.2 (T.setVm vm₁) hT hW₁⟩)
  dsimp only [Pt.U, Pt.locs, Pt.cells, Pt.slots] at X' e1 e2 h1 h2 h3 st
  subst h1; subst h2; subst h3
  exact ⟨v, (T.setVm vm₁).calling g' mk As.toArray, t, U', L, hT, X', hL, e1, e2, hq, st⟩
end SW
theorem g_goodL {own : String} {index n : Nat} {y : MethodName} {b : ByteArray} {ret' : Option FieldType} {hh : List (Nat × Nat × Nat × Nat)} (h1 : Cond.methodLink own index y ∈ BIG) (h2 : Cond.static y ∈ BIG) (h4 : Cond.initialized y.cls ∈ BIG) (h5 : Cond.codeWith y b n ret' hh ∈ BIG) : GoodIn BIG (va_wsS own index y (.codeWith y b n ret' hh :: BIG)) := by
  intro w hw
  unfold va_wsS at hw
  refine big_good w ?_
  rcases List.mem_append.mp hw with h | h
  · simp only [List.mem_cons, List.not_mem_nil, or_false] at h
    rcases h with rfl | rfl | rfl <;> assumption
  · rcases List.mem_cons.mp h with rfl | h
    · exact h5
    · exact h
section S71
variable {p : Program} {l : Launch} {e : Env} {R : Room} {s : State} {m : MethodId} {args : Array Value} {below : List Frame} {meth : Method} {c : Code} {H : Heap} {locs : List Loc} {cells slots : Nat} {Q : State → Prop}
variable {cc : ByteArray} {maxL : Nat} {ret : Option FieldType} {pc : Nat} {ls : Array Slot} {rest : List Value} {D : va_G} {A : Nat → Prop} {cA : Nat → ClassId} {ST : gST} {own : String}
theorem c_callLi {β : Type} {ok : Int32 → β → Prop} {Wb : β → va_W} {y : MethodName} {bytes : ByteArray} {n nA d1 mc ms index : Nat} {ret' : Option FieldType} {hh : List (Nat × Nat × Nat × Nat)} {As st0 : List Value} (W0 wc : va_W) {w : va_W} (hM : gMetLG l y bytes n ret' hh d1 mc ms D (TYS cA) ST wc As (gGi D (TYS cA) ok Wb)) (G : GC p s m args meth c cc maxL own ret A D (TYS cA) ST) (hP : va_P D vwCl w H) (hD : va_D A w) (hS : va_S A s.heap H locs) (hW : w.Perm (W0 ++ wc))
    (hg : GoodIn BIG (va_wsS own index y (.codeWith y bytes n ret' hh :: BIG))) (hd : y.cls ≠ "java/lang/invoke/MethodHandle" ∧ y.cls ≠ "java/lang/invoke/VarHandle" ∧ (parseMethodDescriptor y.desc).map (fun d => d.parameters.length) = some nA) (hR : d1 + 1 ≤ R.frames ∧ 19 + n + 40 * d1 ≤ R.locals ∧ cells + mc ≤ R.cells ∧ slots + ms ≤ R.slots) (hn : As.length = nA) (hls : ls.size = maxL) (rest : List Value) (hst : st0 = As.reverse ++ rest) (hcat : (rest.map fun v => v.category).sum ≤ 8) (hdg : decode cc pc = .ok (.invokestatic index, 3))
    (kk : ∀ (r : Int32) (b : β) (H1 : Heap) (locs1 : List Loc), ok r b → va_P D vwCl (W0 ++ Wb b) H1 → va_D A (W0 ++ Wb b) → va_S A s.heap H1 locs1 → W p l e R s m args below meth c H1 locs1 (cells + mc) (slots + ms) Q (F0 m (pc + 3) ls (.int r :: rest))) : W p l e R s m args below meth c H locs cells slots Q (F0 m pc ls st0) := by
  obtain ⟨hx, hb, hml, hown, hts, -, hlocks, hA, hK, hN, hX, hT⟩ := G
  have hP := hP.perm hW
  have hD := hD.perm hW
  have hF := fb_free hD hS hA
  have hPc : va_P D vwCl wc H := va_P_mem.mpr fun z hz => va_P_mem.mp hP z (List.mem_append_right _ hz)
  have hDc : va_D (fun _ => True) wc := va_D_nd.mpr ⟨by have h9 := (va_D_nd.mp hD).1; rw [List.map_append, List.nodup_append] at h9; exact h9.2.1, fun _ _ => trivial⟩
  refine va_calli (vl_runSW (hh := hh) (As := As) (rest := rest) ⟨hx, hb, hml, hown, hts⟩ (hM H.size) hg List.mem_cons_self rfl rfl hd ⟨by show d1 + 1 ≤ R.frames; exact hR.1, by show 8 + (n + 11) + 40 * d1 ≤ R.locals; omega⟩ ⟨gPre_blind hT, fun U hU hW => ⟨rfl, by rw [hU], by rw [hU]; exact hPc, va_K.moved hW.alike hK, hDc, hN.warm hW, hT.2 _ _ _ _ _ _ hX hS hU hW hF⟩⟩ rfl hn hls hst (lv_room hcat) hdg ⟨hR.2.2.1, hR.2.2.2⟩) hS (fun q _ h => hF q h) hF (fun r b t H1 locs1 ht hvm hw hB hz1 hk1 hS1 => ?_)
  obtain ⟨hP1, hK1, hD1⟩ := hB
  rw [ht] at hP1
  obtain ⟨hP2, hD2⟩ := fb_join hP hD hk1 hF hP1 hD1
  exact kk r b H1 locs1 hw hP2 hD2 hS1
theorem c_callVd {β : Type} {ok : UInt64 → β → Prop} {Wb : β → va_W} {y : MethodName} {bytes : ByteArray} {n nA d1 mc ms index : Nat} {ret' : Option FieldType} {As st0 : List Value} (W0 wc : va_W) {w : va_W} {C : String} {T : u_T} {M ci : Nat} {fs : List Value} {q : Nat} (q0 : Nat) (hc : vwCl[ci]? = some (C, T, M)) (he : w[q0]? = some (q, .inr (ci, fs))) (hM : gMetG l y bytes n ret' d1 mc ms D (TYS cA) ST wc (.ref q :: As) (gGd D (TYS cA) ok Wb)) (G : GC p s m args meth c cc maxL own ret A D (TYS cA) ST) (hP : va_P D vwCl w H) (hD : va_D A w) (hS : va_S A s.heap H locs) (hW : w.Perm (W0 ++ wc))
    (hg : GoodIn BIG (wsV own index C y (.code y bytes n ret' :: BIG))) (hd : y.cls = C ∧ y.cls ≠ "java/lang/invoke/MethodHandle" ∧ y.cls ≠ "java/lang/invoke/VarHandle" ∧ (parseMethodDescriptor y.desc).map (fun d => d.parameters.length) = some nA) (hR : d1 + 1 ≤ R.frames ∧ 19 + n + 40 * d1 ≤ R.locals ∧ cells + mc ≤ R.cells ∧ slots + ms ≤ R.slots) (hn : As.length = nA) (hls : ls.size = maxL) (rest : List Value) (hst : st0 = As.reverse ++ .ref q :: rest) (hcat : (rest.map fun v => v.category).sum ≤ 8) (hdg : decode cc pc = .ok (.invokevirtual index, 3))
    (kk : ∀ (r : UInt64) (b : β) (H1 : Heap) (locs1 : List Loc), ok r b → va_P D vwCl (W0 ++ Wb b) H1 → va_D A (W0 ++ Wb b) → va_S A s.heap H1 locs1 → W p l e R s m args below meth c H1 locs1 (cells + mc) (slots + ms) Q (F0 m (pc + 3) ls (.double r :: rest))) : W p l e R s m args below meth c H locs cells slots Q (F0 m pc ls st0) := by
  obtain ⟨hx, hb, hml, hown, hts, -, hlocks, hA, hK, hN, hX, hT⟩ := G
  have hrecv := va_recv hK hP hc he
  have hP := hP.perm hW
  have hD := hD.perm hW
  have hF := fb_free hD hS hA
  have hPc : va_P D vwCl wc H := va_P_mem.mpr fun z hz => va_P_mem.mp hP z (List.mem_append_right _ hz)
  have hDc : va_D (fun _ => True) wc := va_D_nd.mpr ⟨by have h9 := (va_D_nd.mp hD).1; rw [List.map_append, List.nodup_append] at h9; exact h9.2.1, fun _ _ => trivial⟩
  refine va_calld (va_runV (As := As) (rest := rest) ⟨hx, hb, hml, hown, hts⟩ (hM H.size) (cwV nA hts hg rfl rfl rfl hd ⟨by show d1 + 1 ≤ R.frames; exact hR.1, by show 8 + (n + 11) + 40 * d1 ≤ R.locals; omega⟩) ⟨gPre_blind hT, hrecv, fun U hU hW => ⟨rfl, by rw [hU], by rw [hU]; exact hPc, va_K.moved hW.alike hK, hDc, hN.warm hW, hT.2 _ _ _ _ _ _ hX hS hU hW hF⟩⟩ rfl hn hls hst (lv_room hcat) hdg ⟨hR.2.2.1, hR.2.2.2⟩) hS (fun q _ h => hF q h) hF (fun r b t H1 locs1 ht hvm hw hB hz1 hk1 hS1 => ?_)
  obtain ⟨hP1, hK1, hD1⟩ := hB
  rw [ht] at hP1
  obtain ⟨hP2, hD2⟩ := fb_join hP hD hk1 hF hP1 hD1
  exact kk r b H1 locs1 hw hP2 hD2 hS1
theorem c_callVf {β : Type} {ok : UInt32 → β → Prop} {Wb : β → va_W} {y : MethodName} {bytes : ByteArray} {n nA d1 mc ms index : Nat} {ret' : Option FieldType} {As st0 : List Value} (W0 wc : va_W) {w : va_W} {C : String} {T : u_T} {M ci : Nat} {fs : List Value} {q : Nat} (q0 : Nat) (hc : vwCl[ci]? = some (C, T, M)) (he : w[q0]? = some (q, .inr (ci, fs))) (hM : gMetG l y bytes n ret' d1 mc ms D (TYS cA) ST wc (.ref q :: As) (gGf D (TYS cA) ok Wb)) (G : GC p s m args meth c cc maxL own ret A D (TYS cA) ST) (hP : va_P D vwCl w H) (hD : va_D A w) (hS : va_S A s.heap H locs) (hW : w.Perm (W0 ++ wc))
    (hg : GoodIn BIG (wsV own index C y (.code y bytes n ret' :: BIG))) (hd : y.cls = C ∧ y.cls ≠ "java/lang/invoke/MethodHandle" ∧ y.cls ≠ "java/lang/invoke/VarHandle" ∧ (parseMethodDescriptor y.desc).map (fun d => d.parameters.length) = some nA) (hR : d1 + 1 ≤ R.frames ∧ 19 + n + 40 * d1 ≤ R.locals ∧ cells + mc ≤ R.cells ∧ slots + ms ≤ R.slots) (hn : As.length = nA) (hls : ls.size = maxL) (rest : List Value) (hst : st0 = As.reverse ++ .ref q :: rest) (hcat : (rest.map fun v => v.category).sum ≤ 8) (hdg : decode cc pc = .ok (.invokevirtual index, 3))
    (kk : ∀ (r : UInt32) (b : β) (H1 : Heap) (locs1 : List Loc), ok r b → va_P D vwCl (W0 ++ Wb b) H1 → va_D A (W0 ++ Wb b) → va_S A s.heap H1 locs1 → W p l e R s m args below meth c H1 locs1 (cells + mc) (slots + ms) Q (F0 m (pc + 3) ls (.float r :: rest))) : W p l e R s m args below meth c H locs cells slots Q (F0 m pc ls st0) := by
  obtain ⟨hx, hb, hml, hown, hts, -, hlocks, hA, hK, hN, hX, hT⟩ := G
  have hrecv := va_recv hK hP hc he
  have hP := hP.perm hW
  have hD := hD.perm hW
  have hF := fb_free hD hS hA
  have hPc : va_P D vwCl wc H := va_P_mem.mpr fun z hz => va_P_mem.mp hP z (List.mem_append_right _ hz)
  have hDc : va_D (fun _ => True) wc := va_D_nd.mpr ⟨by have h9 := (va_D_nd.mp hD).1; rw [List.map_append, List.nodup_append] at h9; exact h9.2.1, fun _ _ => trivial⟩
  refine va_callf (va_runV (As := As) (rest := rest) ⟨hx, hb, hml, hown, hts⟩ (hM H.size) (cwV nA hts hg rfl rfl rfl hd ⟨by show d1 + 1 ≤ R.frames; exact hR.1, by show 8 + (n + 11) + 40 * d1 ≤ R.locals; omega⟩) ⟨gPre_blind hT, hrecv, fun U hU hW => ⟨rfl, by rw [hU], by rw [hU]; exact hPc, va_K.moved hW.alike hK, hDc, hN.warm hW, hT.2 _ _ _ _ _ _ hX hS hU hW hF⟩⟩ rfl hn hls hst (lv_room hcat) hdg ⟨hR.2.2.1, hR.2.2.2⟩) hS (fun q _ h => hF q h) hF (fun r b t H1 locs1 ht hvm hw hB hz1 hk1 hS1 => ?_)
  obtain ⟨hP1, hK1, hD1⟩ := hB
  rw [ht] at hP1
  obtain ⟨hP2, hD2⟩ := fb_join hP hD hk1 hF hP1 hD1
  exact kk r b H1 locs1 hw hP2 hD2 hS1
end S71
/-- the loop's world: the object's cells, the row of longs, the builder, the row of doubles, the reference's cells -/
def LW (cA : Nat → ClassId) (ad a : Nat → Nat) (ao : Nat) (g : Nat → Int64) (n : Nat) (b : SBb) (ao2 : Nat) (gd : Nat → UInt64) (ad2 a2 : Nat → Nat) (σ s : St) : va_W := wc cA ad a (ocL cA ao g :: (sbC cA (a 241) n b ++ (ocD cA ao2 gd :: wm cA ad2 a2 [] s))) σ
/-- the same, all but the reference's cells -/
def LWh (cA : Nat → ClassId) (ad a : Nat → Nat) (ao : Nat) (g : Nat → Int64) (n : Nat) (b : SBb) (ao2 : Nat) (gd : Nat → UInt64) (σ : St) : va_W := wc cA ad a (ocL cA ao g :: (sbC cA (a 241) n b ++ [ocD cA ao2 gd])) σ
/-- the same, the row of doubles first -/
def LWd (cA : Nat → ClassId) (ad a : Nat → Nat) (ao : Nat) (g : Nat → Int64) (n : Nat) (b : SBb) (ao2 : Nat) (gd : Nat → UInt64) (ad2 a2 : Nat → Nat) (σ s : St) : va_W := wc cA ad a (ocD cA ao2 gd :: (ocL cA ao g :: (sbC cA (a 241) n b ++ wm cA ad2 a2 [] s))) σ
section LWS
variable {cA : Nat → ClassId} {ad a : Nat → Nat} {ao : Nat} {g : Nat → Int64} {n : Nat} {b : SBb} {ao2 : Nat} {gd : Nat → UInt64} {ad2 a2 : Nat → Nat} {σ s : St}
theorem LW_split : LW cA ad a ao g n b ao2 gd ad2 a2 σ s = LWh cA ad a ao g n b ao2 gd σ ++ wm cA ad2 a2 [] s := by
  unfold LW LWh wc gwd
  simp only [List.append_assoc, List.cons_append, List.nil_append]
theorem LW_len : (LWh cA ad a ao g n b ao2 gd σ).length = 245 := by
  unfold LWh wc gwd sbC
  simp only [List.length_append, List.length_map, List.length_range, List.length_cons, List.length_nil]
theorem LW_m : ∃ fs, (LW cA ad a ao g n b ao2 gd ad2 a2 σ s)[245]? = some (a2 0, .inr (13, fs)) := by
  rw [LW_split, List.getElem?_append_right (by rw [LW_len]; exact Nat.le_refl _), LW_len]
  exact ⟨_, rfl⟩
theorem LW_x : ∃ fs, (LW cA ad a ao g n b ao2 gd ad2 a2 σ s)[209]? = some (a 209, .inr (12, fs)) := by
  unfold LW wc gwd
  rw [List.getElem?_append_left (by rw [List.length_map, List.length_range]; decide), List.getElem?_map, List.getElem?_range (by decide)]
  exact ⟨_, rfl⟩
theorem LW_L : (LW cA ad a ao g n b ao2 gd ad2 a2 σ s)[241]? = some (ocL cA ao g) := by
  unfold LW wc gwd
  rw [List.getElem?_append_right (by rw [List.length_map, List.length_range]; decide), List.length_map, List.length_range]
  rfl
theorem LW_D : (LW cA ad a ao g n b ao2 gd ad2 a2 σ s)[244]? = some (ocD cA ao2 gd) := by
  unfold LW wc gwd
  rw [List.getElem?_append_right (by rw [List.length_map, List.length_range]; decide), List.length_map, List.length_range]
  rfl
theorem LW_perm : (LW cA ad a ao g n b ao2 gd ad2 a2 σ s).Perm (LWd cA ad a ao g n b ao2 gd ad2 a2 σ s) := by
  unfold LW LWd wc gwd
  refine List.Perm.append_left _ ?_
  exact (List.Perm.cons _ List.perm_middle).trans (List.Perm.swap _ _ _)
end LWS
