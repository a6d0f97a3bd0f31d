-- ===== the StringBuilder: methods that speak of its two cells alone =====
/-- a method's contract that speaks of its own cells alone and may make new ones -/
def gMetG (l : Launch) (y : MethodName) (cc : ByteArray) (maxL : Nat) (ret : Option FieldType) (d mc ms : Nat) (D : va_G) (tys : List (ClassId × FieldType)) (ST : gST) (ws : va_W) (av : List Value) (Qk : (Nat → Prop) → Array Value → State → Outcome → State → Prop) : Prop :=
  ∀ sz : Nat, Met l y (.code y cc maxL ret :: BIG) (RMC d mc ms) (gPre D tys ST ws sz av) (Qk (va_A ws sz)) mc ms (va_A ws sz)
def bB (D : va_G) (tys : List (ClassId × FieldType)) (A : Nat → Prop) {β : Type} (Wb : β → va_W) : β → State → Prop := fun b t => va_P D vwCl (Wb b) t.heap ∧ va_K D vwCl tys t ∧ va_D A (Wb b)
def gGi (D : va_G) (tys : List (ClassId × FieldType)) {β : Type} (ok : Int32 → β → Prop) (Wb : β → va_W) (A : Nat → Prop) : Array Value → State → Outcome → State → Prop := va_Qi ok (bB D tys A Wb) A
def gGv (D : va_G) (tys : List (ClassId × FieldType)) {β : Type} (ok : β → Prop) (Wb : β → va_W) (A : Nat → Prop) : Array Value → State → Outcome → State → Prop := va_Qv ok (bB D tys A Wb) A
def gGr (D : va_G) (tys : List (ClassId × FieldType)) {β : Type} (ok : β → Prop) (adr : β → Nat) (Wb : β → va_W) (A : Nat → Prop) : Array Value → State → Outcome → State → Prop := va_Qr ok (fun b a t => a = adr b ∧ bB D tys A Wb b t) A
theorem g_ofWG {l : Launch} {y : MethodName} {cc : ByteArray} {maxL d mc ms : Nat} {ret : Option FieldType} {D : va_G} {tys : List (ClassId × FieldType)} {ST : gST} {ws : va_W} {av : List Value} {Qk : (Nat → Prop) → Array Value → State → Outcome → State → Prop} (hT : STok ST) (hy : plainFor y = true) (hav : (lg_sl av).length ≤ maxL)
    (body : ∀ p e s m args below meth c ls A, GC p s m args meth c cc maxL y.cls ret A D tys ST → va_P D vwCl ws s.heap → va_D A ws → lv_has ls maxL (lv_args 0 av) → W p l e (RMC d mc ms) s m args below meth c s.heap [] 0 0 (MQ below (Qk A) args s mc ms A) (F0 m 0 ls [])) : gMetG l y cc maxL ret d mc ms D tys ST ws av Qk := by
  intro sz
  refine Met_ofWF (cc := cc) (maxL := maxL) (ret := ret) hy rfl ?_
  intro p e s m args below meth c s₁ B hml hv
  obtain ⟨rfl, hsz, hP, hK, hD0, hN, hX⟩ := hv
  subst hsz
  have hts0 := atoms_spec (ws := .code y cc maxL ret :: BIG) B.pre
  rw [lg_entry_eq]
  exact body p e s m av.toArray below meth c _ _ ⟨B.exec, B.bytes, hml, findClass_of_methodNamed B.named, fun w h => hts0 w (List.mem_cons_of_mem _ h), B.returns, B.notSynchronized, fun q h => Or.inr h, hK, hN, hX, hT⟩ hP hD0.self (lv_entry av hav)
theorem gMetG_of {l : Launch} {y : MethodName} {cc : ByteArray} {maxL d : Nat} {ret : Option FieldType} {D : va_G} {tys : List (ClassId × FieldType)} {ST : gST} {ws : va_W} {av : List Value} {Qk : (Nat → Prop) → Array Value → State → Outcome → State → Prop} (h : gMet l y cc maxL ret d D tys ST ws av Qk) : gMetG l y cc maxL ret d 0 0 D tys ST ws av Qk := h
section S16
variable {p : Program} {l : Launch} {e : Env} {R : Room} {s : State} {m : MethodId} {args : Array Value} {below : List Frame} {meth : Method} {c : Code} {H : Heap} {locs : List Loc} {cells slots : Nat} {Q : State → Prop}
variable {cc : ByteArray} {maxL : Nat} {ret : Option FieldType} {pc : Nat} {ls : Array Slot} {rest : List Value} {D : va_G} {A : Nat → Prop} {cA : Nat → ClassId} {F B : va_W} {ST : gST} {own : String}
theorem c_retv {β : Type} {ok : β → Prop} {Wb : β → va_W} {mc ms : Nat} (b : β) (hok : ok b) (G : GC p s m args meth c cc maxL own none A D (TYS cA) ST) (hP : va_P D vwCl (Wb b) H) (hD : va_D A (Wb b)) (hS : va_S A s.heap H locs) (hc : cells ≤ mc ∧ slots ≤ ms) (hdg : decode cc pc = .ok (.return_, 1)) : W p l e R s m args below meth c H locs cells slots (MQ below (gGv D (TYS cA) ok Wb A) args s mc ms A) (F0 m pc ls []) := by
  obtain ⟨hx, hb, hml, hown, hts, hr, hlocks, hA, hK, hN, hX, hT⟩ := G
  refine W.widen (k := mc) (n := ms) hc.1 hc.2 ?_
  exact W.vret hx hb hr (fun t ht hW => ⟨⟨b, rfl, hok, by rw [ht]; exact hP, va_K.moved hW.alike hK, hD⟩, hS.F ht⟩) hS.2.2 hdg
theorem c_reti {ty : FieldType} {β : Type} {ok : Int32 → β → Prop} {Wb : β → va_W} {mc ms : Nat} {v : Int32} (b : β) (hok : ok v b) (hn : narrow ty (.int v) = .int v) (G : GC p s m args meth c cc maxL own (some ty) A D (TYS cA) ST) (hP : va_P D vwCl (Wb b) H) (hD : va_D A (Wb b)) (hS : va_S A s.heap H locs) (hc : cells ≤ mc ∧ slots ≤ ms) (hdg : decode cc pc = .ok (.ireturn, 1)) : W p l e R s m args below meth c H locs cells slots (MQ below (gGi D (TYS cA) ok Wb A) args s mc ms A) (F0 m pc ls [.int v]) := by
  obtain ⟨hx, hb, hml, hown, hts, hr, hlocks, hA, hK, hN, hX, hT⟩ := G
  refine W.widen (k := mc) (n := ms) hc.1 hc.2 ?_
  exact W.zret hx hb hr hn (fun t ht hW => ⟨⟨v, b, rfl, hok, by rw [ht]; exact hP, va_K.moved hW.alike hK, hD⟩, hS.F ht⟩) hS.2.2 hdg
theorem c_reta {ty : FieldType} {β : Type} {ok : β → Prop} {adr : β → Nat} {Wb : β → va_W} {mc ms q : Nat} (b : β) (hok : ok b) (hq : q = adr b) (hty : (∃ n, ty = .object n) ∨ ∃ t, ty = .array t) (G : GC p s m args meth c cc maxL own (some ty) A D (TYS cA) ST) (hP : va_P D vwCl (Wb b) H) (hD : va_D A (Wb b)) (hS : va_S A s.heap H locs) (hc : cells ≤ mc ∧ slots ≤ ms) (hdg : decode cc pc = .ok (.areturn, 1)) : W p l e R s m args below meth c H locs cells slots (MQ below (gGr D (TYS cA) ok adr Wb A) args s mc ms A) (F0 m pc ls [.ref q]) := by
  obtain ⟨hx, hb, hml, hown, hts, hr, hlocks, hA, hK, hN, hX, hT⟩ := G
  refine W.widen (k := mc) (n := ms) hc.1 hc.2 ?_
  exact W.aret hx hb hr hty (Or.inr ⟨q, rfl⟩) (fun t ht hW => ⟨⟨b, q, rfl, hok, hq, by rw [ht]; exact hP, va_K.moved hW.alike hK, hD⟩, hS.F ht⟩) hS.2.2 hdg hlocks
/-- a field of a cell of F is put, in any method -/
theorem c_putJ {C : String} {T : u_T} {M ci index a : Nat} {fs : List Value} {v : Value} (G : GC p s m args meth c cc maxL own ret A D (TYS cA) ST) (hP : va_P D vwCl (F ++ B) H) (hD : va_D A (F ++ B)) (hS : va_S A s.heap H locs) (q0 j : Nat) (hin : ∀ w ∈ u_ws C T M, w ∈ BIG) (hc : vwCl[ci]? = some (C, T, M)) (ty0 : Nat → FieldType) (hty : ∀ k, k < M → parseFieldDescriptor (T k).2.2.1 = some (ty0 k)) (hnm : ∀ a, a < M → ∀ b, b < M → a ≠ b → (T a).2.1 ≠ (T b).2.1) (he : F[q0]? = some (a, .inr (ci, fs))) (hj : j < M) (hlink : Cond.fieldLink own index (T j).1 (T j).2.1 (T j).2.2.1 ∈ BIG) (hf : (T j).2.2.2 = false) (hn : narrow (ty0 j) v = v) (hfit : fits (ty0 j) v = true) (hl : j < fs.length) (hdg : decode cc pc = .ok (.putfield index, 3))
    (kk : ∀ (H1 : Heap) (locs1 : List Loc), va_P D vwCl (F.set q0 (a, .inr (ci, fs.set j v)) ++ B) H1 → va_D A (F.set q0 (a, .inr (ci, fs.set j v)) ++ B) → va_S A s.heap H1 locs1 → W p l e R s m args below meth c H1 locs1 cells slots Q (F0 m (pc + 3) ls rest)) : W p l e R s m args below meth c H locs cells slots Q (F0 m pc ls (v :: .ref a :: rest)) := by
  obtain ⟨hx, hb, hml, hown, hts, hr, hlocks, hA, hK, hN9, hX, hT⟩ := G
  refine va_put (ty := ty0 j) hx hb hts hin ty0 hty hnm hown hK hP hD hS q0 (fb_get he) hc j hj (hts _ hlink) (fun _ h => h) hf (hty j hj) hn hfit hl hdg (fun H1 locs1 hP1 hD1 hS1 => ?_)
  rw [fb_set he] at hP1 hD1
  exact kk H1 locs1 hP1 hD1 hS1
theorem g_goodSU {own : String} {index n : Nat} {y : MethodName} {b : ByteArray} {ret' : Option FieldType} (h1 : Cond.methodLink own index y ∈ BIG) (h2 : Cond.sameMethod y.cls y.cls y.name y.desc ∈ BIG) (h3 : Cond.superclass own y.cls ∈ BIG) (h4 : Cond.instanceMethod y ∈ BIG) (h6 : Cond.initialized y.cls ∈ BIG) (h5 : Cond.code y b n ret' ∈ BIG) : GoodIn BIG (va_wsSU own index y (.code y b n ret' :: BIG)) := by
  intro w hw
  unfold va_wsSU at hw
  refine big_good w ?_
  rcases List.mem_append.mp hw with h | h
  · simp only [List.mem_cons, List.not_mem_nil, or_false] at h
    rcases h with rfl | rfl | rfl | rfl | rfl <;> assumption
  · rcases List.mem_cons.mp h with rfl | h
    · exact h5
    · exact h
theorem g_goodP {own C owner : String} {index n : Nat} {x y : MethodName} {b : ByteArray} {ret' : Option FieldType} (h1 : Cond.methodLink own index x ∈ BIG) (h2 : Cond.sameMethod x.cls owner x.name x.desc ∈ BIG) (h3 : goodWord (Cond.selects C x y) = true) (h4 : Cond.instanceMethod y ∈ BIG) (h6 : Cond.initialized y.cls ∈ BIG) (h5 : Cond.code y b n ret' ∈ BIG) : GoodIn (Cond.selects C x y :: BIG) (va_wsU own index C owner x y (.code y b n ret' :: BIG)) := by
  intro w hw
  unfold va_wsU at hw
  have key : w = Cond.selects C x y ∨ w ∈ BIG := by
    rcases List.mem_append.mp hw with h | h
    · simp only [List.mem_cons, List.not_mem_nil, or_false] at h
      rcases h with rfl | rfl | rfl | rfl | rfl
      · exact Or.inr h1
      · exact Or.inr h2
      · exact Or.inl rfl
      · exact Or.inr h4
      · exact Or.inr h6
    · rcases List.mem_cons.mp h with rfl | h
      · exact Or.inr h5
      · exact Or.inr h
  rcases key with rfl | h
  · exact ⟨List.mem_cons_self, good_of_word h3⟩
  · exact ⟨List.mem_cons_of_mem _ h, (big_good w h).2⟩
theorem c_callSv {β : Type} {ok : β → Prop} {Wb : β → va_W} {y : MethodName} {bytes : ByteArray} {n nA d1 mc ms index : Nat} {ret' : Option FieldType} {As st0 : List Value} (W0 wc : va_W) {w : va_W} (hM : gMetG l y bytes n ret' d1 mc ms D (TYS cA) ST wc As (gGv D (TYS cA) ok Wb)) (G : GC p s m args meth c cc maxL own ret A D (TYS cA) ST) (hP : va_P D vwCl w H) (hD : va_D A w) (hS : va_S A s.heap H locs) (hW : w.Perm (W0 ++ wc))
    (hg : GoodIn BIG (va_wsS own index y (.code y bytes n ret' :: BIG))) (hd : y.cls ≠ "java/lang/invoke/MethodHandle" ∧ y.cls ≠ "java/lang/invoke/VarHandle" ∧ (parseMethodDescriptor y.desc).map (fun d => d.parameters.length) = some nA) (hR : d1 + 1 ≤ R.frames ∧ 19 + n + 40 * d1 ≤ R.locals ∧ cells + mc ≤ R.cells ∧ slots + ms ≤ R.slots) (hn : As.length = nA) (hls : ls.size = maxL) (rest : List Value) (hst : st0 = As.reverse ++ rest) (hcat : (rest.map fun v => v.category).sum ≤ 8) (hdg : decode cc pc = .ok (.invokestatic index, 3))
    (kk : ∀ (b : β) (H1 : Heap) (locs1 : List Loc), ok b → va_P D vwCl (W0 ++ Wb b) H1 → va_D A (W0 ++ Wb b) → va_S A s.heap H1 locs1 → W p l e R s m args below meth c H1 locs1 (cells + mc) (slots + ms) Q (F0 m (pc + 3) ls rest)) : W p l e R s m args below meth c H locs cells slots Q (F0 m pc ls st0) := by
  obtain ⟨hx, hb, hml, hown, hts, -, hlocks, hA, hK, hN, hX, hT⟩ := G
  have hP := hP.perm hW
  have hD := hD.perm hW
  have hF := fb_free hD hS hA
  have hPc : va_P D vwCl wc H := va_P_mem.mpr fun z hz => va_P_mem.mp hP z (List.mem_append_right _ hz)
  have hDc : va_D (fun _ => True) wc := va_D_nd.mpr ⟨by have h9 := (va_D_nd.mp hD).1; rw [List.map_append, List.nodup_append] at h9; exact h9.2.1, fun _ _ => trivial⟩
  refine va_callv (va_runS (As := As) (rest := rest) ⟨hx, hb, hml, hown, hts⟩ (hM H.size) (va_cwS nA hts hg rfl rfl rfl hd ⟨by show d1 + 1 ≤ R.frames; exact hR.1, by show 8 + (n + 11) + 40 * d1 ≤ R.locals; omega⟩) ⟨gPre_blind hT, fun U hU hW => ⟨rfl, by rw [hU], by rw [hU]; exact hPc, va_K.moved hW.alike hK, hDc, hN.warm hW, hT.2 _ _ _ _ _ _ hX hS hU hW hF⟩⟩ rfl hn hls hst (lv_room hcat) hdg ⟨hR.2.2.1, hR.2.2.2⟩) hS (fun q _ h => hF q h) hF (fun b t H1 locs1 ht hvm hw hB hz1 hk1 hS1 => ?_)
  obtain ⟨hP1, hK1, hD1⟩ := hB
  rw [ht] at hP1
  obtain ⟨hP2, hD2⟩ := fb_join hP hD hk1 hF hP1 hD1
  exact kk b H1 locs1 hw hP2 hD2 hS1
theorem c_callSi {β : Type} {ok : Int32 → β → Prop} {Wb : β → va_W} {y : MethodName} {bytes : ByteArray} {n nA d1 mc ms index : Nat} {ret' : Option FieldType} {As st0 : List Value} (W0 wc : va_W) {w : va_W} (hM : gMetG l y bytes n ret' d1 mc ms D (TYS cA) ST wc As (gGi D (TYS cA) ok Wb)) (G : GC p s m args meth c cc maxL own ret A D (TYS cA) ST) (hP : va_P D vwCl w H) (hD : va_D A w) (hS : va_S A s.heap H locs) (hW : w.Perm (W0 ++ wc))
    (hg : GoodIn BIG (va_wsS own index y (.code y bytes n ret' :: BIG))) (hd : y.cls ≠ "java/lang/invoke/MethodHandle" ∧ y.cls ≠ "java/lang/invoke/VarHandle" ∧ (parseMethodDescriptor y.desc).map (fun d => d.parameters.length) = some nA) (hR : d1 + 1 ≤ R.frames ∧ 19 + n + 40 * d1 ≤ R.locals ∧ cells + mc ≤ R.cells ∧ slots + ms ≤ R.slots) (hn : As.length = nA) (hls : ls.size = maxL) (rest : List Value) (hst : st0 = As.reverse ++ rest) (hcat : (rest.map fun v => v.category).sum ≤ 8) (hdg : decode cc pc = .ok (.invokestatic index, 3))
    (kk : ∀ (r : Int32) (b : β) (H1 : Heap) (locs1 : List Loc), ok r b → va_P D vwCl (W0 ++ Wb b) H1 → va_D A (W0 ++ Wb b) → va_S A s.heap H1 locs1 → W p l e R s m args below meth c H1 locs1 (cells + mc) (slots + ms) Q (F0 m (pc + 3) ls (.int r :: rest))) : W p l e R s m args below meth c H locs cells slots Q (F0 m pc ls st0) := by
  obtain ⟨hx, hb, hml, hown, hts, -, hlocks, hA, hK, hN, hX, hT⟩ := G
  have hP := hP.perm hW
  have hD := hD.perm hW
  have hF := fb_free hD hS hA
  have hPc : va_P D vwCl wc H := va_P_mem.mpr fun z hz => va_P_mem.mp hP z (List.mem_append_right _ hz)
  have hDc : va_D (fun _ => True) wc := va_D_nd.mpr ⟨by have h9 := (va_D_nd.mp hD).1; rw [List.map_append, List.nodup_append] at h9; exact h9.2.1, fun _ _ => trivial⟩
  refine va_calli (va_runS (As := As) (rest := rest) ⟨hx, hb, hml, hown, hts⟩ (hM H.size) (va_cwS nA hts hg rfl rfl rfl hd ⟨by show d1 + 1 ≤ R.frames; exact hR.1, by show 8 + (n + 11) + 40 * d1 ≤ R.locals; omega⟩) ⟨gPre_blind hT, fun U hU hW => ⟨rfl, by rw [hU], by rw [hU]; exact hPc, va_K.moved hW.alike hK, hDc, hN.warm hW, hT.2 _ _ _ _ _ _ hX hS hU hW hF⟩⟩ rfl hn hls hst (lv_room hcat) hdg ⟨hR.2.2.1, hR.2.2.2⟩) hS (fun q _ h => hF q h) hF (fun r b t H1 locs1 ht hvm hw hB hz1 hk1 hS1 => ?_)
  obtain ⟨hP1, hK1, hD1⟩ := hB
  rw [ht] at hP1
  obtain ⟨hP2, hD2⟩ := fb_join hP hD hk1 hF hP1 hD1
  exact kk r b H1 locs1 hw hP2 hD2 hS1
theorem c_callSr {β : Type} {ok : β → Prop} {adr : β → Nat} {Wb : β → va_W} {y : MethodName} {bytes : ByteArray} {n nA d1 mc ms index : Nat} {ret' : Option FieldType} {As st0 : List Value} (W0 wc : va_W) {w : va_W} (hM : gMetG l y bytes n ret' d1 mc ms D (TYS cA) ST wc As (gGr D (TYS cA) ok adr Wb)) (G : GC p s m args meth c cc maxL own ret A D (TYS cA) ST) (hP : va_P D vwCl w H) (hD : va_D A w) (hS : va_S A s.heap H locs) (hW : w.Perm (W0 ++ wc))
    (hg : GoodIn BIG (va_wsS own index y (.code y bytes n ret' :: BIG))) (hd : y.cls ≠ "java/lang/invoke/MethodHandle" ∧ y.cls ≠ "java/lang/invoke/VarHandle" ∧ (parseMethodDescriptor y.desc).map (fun d => d.parameters.length) = some nA) (hR : d1 + 1 ≤ R.frames ∧ 19 + n + 40 * d1 ≤ R.locals ∧ cells + mc ≤ R.cells ∧ slots + ms ≤ R.slots) (hn : As.length = nA) (hls : ls.size = maxL) (rest : List Value) (hst : st0 = As.reverse ++ rest) (hcat : (rest.map fun v => v.category).sum ≤ 8) (hdg : decode cc pc = .ok (.invokestatic index, 3))
    (kk : ∀ (b : β) (H1 : Heap) (locs1 : List Loc), ok b → va_P D vwCl (W0 ++ Wb b) H1 → va_D A (W0 ++ Wb b) → va_S A s.heap H1 locs1 → W p l e R s m args below meth c H1 locs1 (cells + mc) (slots + ms) Q (F0 m (pc + 3) ls (.ref (adr b) :: rest))) : W p l e R s m args below meth c H locs cells slots Q (F0 m pc ls st0) := by
  obtain ⟨hx, hb, hml, hown, hts, -, hlocks, hA, hK, hN, hX, hT⟩ := G
  have hP := hP.perm hW
  have hD := hD.perm hW
  have hF := fb_free hD hS hA
  have hPc : va_P D vwCl wc H := va_P_mem.mpr fun z hz => va_P_mem.mp hP z (List.mem_append_right _ hz)
  have hDc : va_D (fun _ => True) wc := va_D_nd.mpr ⟨by have h9 := (va_D_nd.mp hD).1; rw [List.map_append, List.nodup_append] at h9; exact h9.2.1, fun _ _ => trivial⟩
  refine va_callr (va_runS (As := As) (rest := rest) ⟨hx, hb, hml, hown, hts⟩ (hM H.size) (va_cwS nA hts hg rfl rfl rfl hd ⟨by show d1 + 1 ≤ R.frames; exact hR.1, by show 8 + (n + 11) + 40 * d1 ≤ R.locals; omega⟩) ⟨gPre_blind hT, fun U hU hW => ⟨rfl, by rw [hU], by rw [hU]; exact hPc, va_K.moved hW.alike hK, hDc, hN.warm hW, hT.2 _ _ _ _ _ _ hX hS hU hW hF⟩⟩ rfl hn hls hst (lv_room hcat) hdg ⟨hR.2.2.1, hR.2.2.2⟩) hS (fun q _ h => hF q h) hF (fun b ra t H1 locs1 ht hvm hw hB hz1 hk1 hS1 => ?_)
  obtain ⟨rfl, hP1, hK1, hD1⟩ := hB
  rw [ht] at hP1
  obtain ⟨hP2, hD2⟩ := fb_join hP hD hk1 hF hP1 hD1
  exact kk b H1 locs1 hw hP2 hD2 hS1
theorem c_callVv {β : Type} {ok : β → Prop} {Wb : β → va_W} {y : MethodName} {bytes : ByteArray} {n nA d1 mc ms index : Nat} {ret' : Option FieldType} {As st0 : List Value} (W0 wc : va_W) {w : va_W} {C : String} {T : u_T} {M ci : Nat} {fs : List Value} {q : Nat} (q0 : Nat) (hc : vwCl[ci]? = some (C, T, M)) (he : w[q0]? = some (q, .inr (ci, fs))) (hM : gMetG l y bytes n ret' d1 mc ms D (TYS cA) ST wc (.ref q :: As) (gGv D (TYS cA) ok Wb)) (G : GC p s m args meth c cc maxL own ret A D (TYS cA) ST) (hP : va_P D vwCl w H) (hD : va_D A w) (hS : va_S A s.heap H locs) (hW : w.Perm (W0 ++ wc))
    (hg : GoodIn BIG (wsV own index C y (.code y bytes n ret' :: BIG))) (hd : y.cls = C ∧ y.cls ≠ "java/lang/invoke/MethodHandle" ∧ y.cls ≠ "java/lang/invoke/VarHandle" ∧ (parseMethodDescriptor y.desc).map (fun d => d.parameters.length) = some nA) (hR : d1 + 1 ≤ R.frames ∧ 19 + n + 40 * d1 ≤ R.locals ∧ cells + mc ≤ R.cells ∧ slots + ms ≤ R.slots) (hn : As.length = nA) (hls : ls.size = maxL) (rest : List Value) (hst : st0 = As.reverse ++ .ref q :: rest) (hcat : (rest.map fun v => v.category).sum ≤ 8) (hdg : decode cc pc = .ok (.invokevirtual index, 3))
    (kk : ∀ (b : β) (H1 : Heap) (locs1 : List Loc), ok b → va_P D vwCl (W0 ++ Wb b) H1 → va_D A (W0 ++ Wb b) → va_S A s.heap H1 locs1 → W p l e R s m args below meth c H1 locs1 (cells + mc) (slots + ms) Q (F0 m (pc + 3) ls rest)) : W p l e R s m args below meth c H locs cells slots Q (F0 m pc ls st0) := by
  obtain ⟨hx, hb, hml, hown, hts, -, hlocks, hA, hK, hN, hX, hT⟩ := G
  have hrecv := va_recv hK hP hc he
  have hP := hP.perm hW
  have hD := hD.perm hW
  have hF := fb_free hD hS hA
  have hPc : va_P D vwCl wc H := va_P_mem.mpr fun z hz => va_P_mem.mp hP z (List.mem_append_right _ hz)
  have hDc : va_D (fun _ => True) wc := va_D_nd.mpr ⟨by have h9 := (va_D_nd.mp hD).1; rw [List.map_append, List.nodup_append] at h9; exact h9.2.1, fun _ _ => trivial⟩
  refine va_callv (va_runV (As := As) (rest := rest) ⟨hx, hb, hml, hown, hts⟩ (hM H.size) (cwV nA hts hg rfl rfl rfl hd ⟨by show d1 + 1 ≤ R.frames; exact hR.1, by show 8 + (n + 11) + 40 * d1 ≤ R.locals; omega⟩) ⟨gPre_blind hT, hrecv, fun U hU hW => ⟨rfl, by rw [hU], by rw [hU]; exact hPc, va_K.moved hW.alike hK, hDc, hN.warm hW, hT.2 _ _ _ _ _ _ hX hS hU hW hF⟩⟩ rfl hn hls hst (lv_room hcat) hdg ⟨hR.2.2.1, hR.2.2.2⟩) hS (fun q _ h => hF q h) hF (fun b t H1 locs1 ht hvm hw hB hz1 hk1 hS1 => ?_)
  obtain ⟨hP1, hK1, hD1⟩ := hB
  rw [ht] at hP1
  obtain ⟨hP2, hD2⟩ := fb_join hP hD hk1 hF hP1 hD1
  exact kk b H1 locs1 hw hP2 hD2 hS1
theorem c_callVi {β : Type} {ok : Int32 → β → Prop} {Wb : β → va_W} {y : MethodName} {bytes : ByteArray} {n nA d1 mc ms index : Nat} {ret' : Option FieldType} {As st0 : List Value} (W0 wc : va_W) {w : va_W} {C : String} {T : u_T} {M ci : Nat} {fs : List Value} {q : Nat} (q0 : Nat) (hc : vwCl[ci]? = some (C, T, M)) (he : w[q0]? = some (q, .inr (ci, fs))) (hM : gMetG l y bytes n ret' d1 mc ms D (TYS cA) ST wc (.ref q :: As) (gGi D (TYS cA) ok Wb)) (G : GC p s m args meth c cc maxL own ret A D (TYS cA) ST) (hP : va_P D vwCl w H) (hD : va_D A w) (hS : va_S A s.heap H locs) (hW : w.Perm (W0 ++ wc))
    (hg : GoodIn BIG (wsV own index C y (.code y bytes n ret' :: BIG))) (hd : y.cls = C ∧ y.cls ≠ "java/lang/invoke/MethodHandle" ∧ y.cls ≠ "java/lang/invoke/VarHandle" ∧ (parseMethodDescriptor y.desc).map (fun d => d.parameters.length) = some nA) (hR : d1 + 1 ≤ R.frames ∧ 19 + n + 40 * d1 ≤ R.locals ∧ cells + mc ≤ R.cells ∧ slots + ms ≤ R.slots) (hn : As.length = nA) (hls : ls.size = maxL) (rest : List Value) (hst : st0 = As.reverse ++ .ref q :: rest) (hcat : (rest.map fun v => v.category).sum ≤ 8) (hdg : decode cc pc = .ok (.invokevirtual index, 3))
    (kk : ∀ (r : Int32) (b : β) (H1 : Heap) (locs1 : List Loc), ok r b → va_P D vwCl (W0 ++ Wb b) H1 → va_D A (W0 ++ Wb b) → va_S A s.heap H1 locs1 → W p l e R s m args below meth c H1 locs1 (cells + mc) (slots + ms) Q (F0 m (pc + 3) ls (.int r :: rest))) : W p l e R s m args below meth c H locs cells slots Q (F0 m pc ls st0) := by
  obtain ⟨hx, hb, hml, hown, hts, -, hlocks, hA, hK, hN, hX, hT⟩ := G
  have hrecv := va_recv hK hP hc he
  have hP := hP.perm hW
  have hD := hD.perm hW
  have hF := fb_free hD hS hA
  have hPc : va_P D vwCl wc H := va_P_mem.mpr fun z hz => va_P_mem.mp hP z (List.mem_append_right _ hz)
  have hDc : va_D (fun _ => True) wc := va_D_nd.mpr ⟨by have h9 := (va_D_nd.mp hD).1; rw [List.map_append, List.nodup_append] at h9; exact h9.2.1, fun _ _ => trivial⟩
  refine va_calli (va_runV (As := As) (rest := rest) ⟨hx, hb, hml, hown, hts⟩ (hM H.size) (cwV nA hts hg rfl rfl rfl hd ⟨by show d1 + 1 ≤ R.frames; exact hR.1, by show 8 + (n + 11) + 40 * d1 ≤ R.locals; omega⟩) ⟨gPre_blind hT, hrecv, fun U hU hW => ⟨rfl, by rw [hU], by rw [hU]; exact hPc, va_K.moved hW.alike hK, hDc, hN.warm hW, hT.2 _ _ _ _ _ _ hX hS hU hW hF⟩⟩ rfl hn hls hst (lv_room hcat) hdg ⟨hR.2.2.1, hR.2.2.2⟩) hS (fun q _ h => hF q h) hF (fun r b t H1 locs1 ht hvm hw hB hz1 hk1 hS1 => ?_)
  obtain ⟨hP1, hK1, hD1⟩ := hB
  rw [ht] at hP1
  obtain ⟨hP2, hD2⟩ := fb_join hP hD hk1 hF hP1 hD1
  exact kk r b H1 locs1 hw hP2 hD2 hS1
theorem c_callVr {β : Type} {ok : β → Prop} {adr : β → Nat} {Wb : β → va_W} {y : MethodName} {bytes : ByteArray} {n nA d1 mc ms index : Nat} {ret' : Option FieldType} {As st0 : List Value} (W0 wc : va_W) {w : va_W} {C : String} {T : u_T} {M ci : Nat} {fs : List Value} {q : Nat} (q0 : Nat) (hc : vwCl[ci]? = some (C, T, M)) (he : w[q0]? = some (q, .inr (ci, fs))) (hM : gMetG l y bytes n ret' d1 mc ms D (TYS cA) ST wc (.ref q :: As) (gGr D (TYS cA) ok adr Wb)) (G : GC p s m args meth c cc maxL own ret A D (TYS cA) ST) (hP : va_P D vwCl w H) (hD : va_D A w) (hS : va_S A s.heap H locs) (hW : w.Perm (W0 ++ wc))
    (hg : GoodIn BIG (wsV own index C y (.code y bytes n ret' :: BIG))) (hd : y.cls = C ∧ y.cls ≠ "java/lang/invoke/MethodHandle" ∧ y.cls ≠ "java/lang/invoke/VarHandle" ∧ (parseMethodDescriptor y.desc).map (fun d => d.parameters.length) = some nA) (hR : d1 + 1 ≤ R.frames ∧ 19 + n + 40 * d1 ≤ R.locals ∧ cells + mc ≤ R.cells ∧ slots + ms ≤ R.slots) (hn : As.length = nA) (hls : ls.size = maxL) (rest : List Value) (hst : st0 = As.reverse ++ .ref q :: rest) (hcat : (rest.map fun v => v.category).sum ≤ 8) (hdg : decode cc pc = .ok (.invokevirtual index, 3))
    (kk : ∀ (b : β) (H1 : Heap) (locs1 : List Loc), ok b → va_P D vwCl (W0 ++ Wb b) H1 → va_D A (W0 ++ Wb b) → va_S A s.heap H1 locs1 → W p l e R s m args below meth c H1 locs1 (cells + mc) (slots + ms) Q (F0 m (pc + 3) ls (.ref (adr b) :: rest))) : W p l e R s m args below meth c H locs cells slots Q (F0 m pc ls st0) := by
  obtain ⟨hx, hb, hml, hown, hts, -, hlocks, hA, hK, hN, hX, hT⟩ := G
  have hrecv := va_recv hK hP hc he
  have hP := hP.perm hW
  have hD := hD.perm hW
  have hF := fb_free hD hS hA
  have hPc : va_P D vwCl wc H := va_P_mem.mpr fun z hz => va_P_mem.mp hP z (List.mem_append_right _ hz)
  have hDc : va_D (fun _ => True) wc := va_D_nd.mpr ⟨by have h9 := (va_D_nd.mp hD).1; rw [List.map_append, List.nodup_append] at h9; exact h9.2.1, fun _ _ => trivial⟩
  refine va_callr (va_runV (As := As) (rest := rest) ⟨hx, hb, hml, hown, hts⟩ (hM H.size) (cwV nA hts hg rfl rfl rfl hd ⟨by show d1 + 1 ≤ R.frames; exact hR.1, by show 8 + (n + 11) + 40 * d1 ≤ R.locals; omega⟩) ⟨gPre_blind hT, hrecv, fun U hU hW => ⟨rfl, by rw [hU], by rw [hU]; exact hPc, va_K.moved hW.alike hK, hDc, hN.warm hW, hT.2 _ _ _ _ _ _ hX hS hU hW hF⟩⟩ rfl hn hls hst (lv_room hcat) hdg ⟨hR.2.2.1, hR.2.2.2⟩) hS (fun q _ h => hF q h) hF (fun b ra t H1 locs1 ht hvm hw hB hz1 hk1 hS1 => ?_)
  obtain ⟨rfl, hP1, hK1, hD1⟩ := hB
  rw [ht] at hP1
  obtain ⟨hP2, hD2⟩ := fb_join hP hD hk1 hF hP1 hD1
  exact kk b H1 locs1 hw hP2 hD2 hS1
theorem c_callUv {β : Type} {ok : β → Prop} {Wb : β → va_W} {y : MethodName} {bytes : ByteArray} {n nA d1 mc ms index : Nat} {ret' : Option FieldType} {As st0 : List Value} {x : MethodName} {owner : String} (W0 wc : va_W) {w : va_W} {C : String} {T : u_T} {M ci : Nat} {fs : List Value} {q : Nat} (q0 : Nat) (hc : vwCl[ci]? = some (C, T, M)) (he : w[q0]? = some (q, .inr (ci, fs))) (hM : gMetG l y bytes n ret' d1 mc ms D (TYS cA) ST wc (.ref q :: As) (gGv D (TYS cA) ok Wb)) (G : GC p s m args meth c cc maxL own ret A D (TYS cA) ST) (hP : va_P D vwCl w H) (hD : va_D A w) (hS : va_S A s.heap H locs) (hW : w.Perm (W0 ++ wc))
    (hg : GoodIn BIG (va_wsU own index C owner x y (.code y bytes n ret' :: BIG))) (hyx : y = ⟨owner, x.name, x.desc⟩) (hd : owner ≠ "java/lang/invoke/MethodHandle" ∧ owner ≠ "java/lang/invoke/VarHandle" ∧ (parseMethodDescriptor x.desc).map (fun d => d.parameters.length) = some nA) (hR : d1 + 1 ≤ R.frames ∧ 19 + n + 40 * d1 ≤ R.locals ∧ cells + mc ≤ R.cells ∧ slots + ms ≤ R.slots) (hn : As.length = nA) (hls : ls.size = maxL) (rest : List Value) (hst : st0 = As.reverse ++ .ref q :: rest) (hcat : (rest.map fun v => v.category).sum ≤ 8) (hdg : decode cc pc = .ok (.invokevirtual index, 3))
    (kk : ∀ (b : β) (H1 : Heap) (locs1 : List Loc), ok b → va_P D vwCl (W0 ++ Wb b) H1 → va_D A (W0 ++ Wb b) → va_S A s.heap H1 locs1 → W p l e R s m args below meth c H1 locs1 (cells + mc) (slots + ms) Q (F0 m (pc + 3) ls rest)) : W p l e R s m args below meth c H locs cells slots Q (F0 m pc ls st0) := by
  obtain ⟨hx, hb, hml, hown, hts, -, hlocks, hA, hK, hN, hX, hT⟩ := G
  have hrecv := va_recv hK hP hc he
  have hP := hP.perm hW
  have hD := hD.perm hW
  have hF := fb_free hD hS hA
  have hPc : va_P D vwCl wc H := va_P_mem.mpr fun z hz => va_P_mem.mp hP z (List.mem_append_right _ hz)
  have hDc : va_D (fun _ => True) wc := va_D_nd.mpr ⟨by have h9 := (va_D_nd.mp hD).1; rw [List.map_append, List.nodup_append] at h9; exact h9.2.1, fun _ _ => trivial⟩
  refine va_callv (va_runU (As := As) (C := C) (owner := owner) (x := x) (y := y) (rest := rest) ⟨hx, hb, hml, hown, hts⟩ (hM H.size) (va_cwU nA hts hg rfl rfl rfl hyx hd ⟨by show d1 + 1 ≤ R.frames; exact hR.1, by show 8 + (n + 11) + 40 * d1 ≤ R.locals; omega⟩) ⟨gPre_blind hT, hrecv, fun U hU hW => ⟨rfl, by rw [hU], by rw [hU]; exact hPc, va_K.moved hW.alike hK, hDc, hN.warm hW, hT.2 _ _ _ _ _ _ hX hS hU hW hF⟩⟩ rfl hn hls hst (lv_room hcat) hdg ⟨hR.2.2.1, hR.2.2.2⟩) hS (fun q _ h => hF q h) hF (fun b t H1 locs1 ht hvm hw hB hz1 hk1 hS1 => ?_)
  obtain ⟨hP1, hK1, hD1⟩ := hB
  rw [ht] at hP1
  obtain ⟨hP2, hD2⟩ := fb_join hP hD hk1 hF hP1 hD1
  exact kk b H1 locs1 hw hP2 hD2 hS1
theorem c_callUi {β : Type} {ok : Int32 → β → Prop} {Wb : β → va_W} {y : MethodName} {bytes : ByteArray} {n nA d1 mc ms index : Nat} {ret' : Option FieldType} {As st0 : List Value} {x : MethodName} {owner : String} (W0 wc : va_W) {w : va_W} {C : String} {T : u_T} {M ci : Nat} {fs : List Value} {q : Nat} (q0 : Nat) (hc : vwCl[ci]? = some (C, T, M)) (he : w[q0]? = some (q, .inr (ci, fs))) (hM : gMetG l y bytes n ret' d1 mc ms D (TYS cA) ST wc (.ref q :: As) (gGi D (TYS cA) ok Wb)) (G : GC p s m args meth c cc maxL own ret A D (TYS cA) ST) (hP : va_P D vwCl w H) (hD : va_D A w) (hS : va_S A s.heap H locs) (hW : w.Perm (W0 ++ wc))
    (hg : GoodIn BIG (va_wsU own index C owner x y (.code y bytes n ret' :: BIG))) (hyx : y = ⟨owner, x.name, x.desc⟩) (hd : owner ≠ "java/lang/invoke/MethodHandle" ∧ owner ≠ "java/lang/invoke/VarHandle" ∧ (parseMethodDescriptor x.desc).map (fun d => d.parameters.length) = some nA) (hR : d1 + 1 ≤ R.frames ∧ 19 + n + 40 * d1 ≤ R.locals ∧ cells + mc ≤ R.cells ∧ slots + ms ≤ R.slots) (hn : As.length = nA) (hls : ls.size = maxL) (rest : List Value) (hst : st0 = As.reverse ++ .ref q :: rest) (hcat : (rest.map fun v => v.category).sum ≤ 8) (hdg : decode cc pc = .ok (.invokevirtual index, 3))
    (kk : ∀ (r : Int32) (b : β) (H1 : Heap) (locs1 : List Loc), ok r b → va_P D vwCl (W0 ++ Wb b) H1 → va_D A (W0 ++ Wb b) → va_S A s.heap H1 locs1 → W p l e R s m args below meth c H1 locs1 (cells + mc) (slots + ms) Q (F0 m (pc + 3) ls (.int r :: rest))) : W p l e R s m args below meth c H locs cells slots Q (F0 m pc ls st0) := by
  obtain ⟨hx, hb, hml, hown, hts, -, hlocks, hA, hK, hN, hX, hT⟩ := G
  have hrecv := va_recv hK hP hc he
  have hP := hP.perm hW
  have hD := hD.perm hW
  have hF := fb_free hD hS hA
  have hPc : va_P D vwCl wc H := va_P_mem.mpr fun z hz => va_P_mem.mp hP z (List.mem_append_right _ hz)
  have hDc : va_D (fun _ => True) wc := va_D_nd.mpr ⟨by have h9 := (va_D_nd.mp hD).1; rw [List.map_append, List.nodup_append] at h9; exact h9.2.1, fun _ _ => trivial⟩
  refine va_calli (va_runU (As := As) (C := C) (owner := owner) (x := x) (y := y) (rest := rest) ⟨hx, hb, hml, hown, hts⟩ (hM H.size) (va_cwU nA hts hg rfl rfl rfl hyx hd ⟨by show d1 + 1 ≤ R.frames; exact hR.1, by show 8 + (n + 11) + 40 * d1 ≤ R.locals; omega⟩) ⟨gPre_blind hT, hrecv, fun U hU hW => ⟨rfl, by rw [hU], by rw [hU]; exact hPc, va_K.moved hW.alike hK, hDc, hN.warm hW, hT.2 _ _ _ _ _ _ hX hS hU hW hF⟩⟩ rfl hn hls hst (lv_room hcat) hdg ⟨hR.2.2.1, hR.2.2.2⟩) hS (fun q _ h => hF q h) hF (fun r b t H1 locs1 ht hvm hw hB hz1 hk1 hS1 => ?_)
  obtain ⟨hP1, hK1, hD1⟩ := hB
  rw [ht] at hP1
  obtain ⟨hP2, hD2⟩ := fb_join hP hD hk1 hF hP1 hD1
  exact kk r b H1 locs1 hw hP2 hD2 hS1
theorem c_callUr {β : Type} {ok : β → Prop} {adr : β → Nat} {Wb : β → va_W} {y : MethodName} {bytes : ByteArray} {n nA d1 mc ms index : Nat} {ret' : Option FieldType} {As st0 : List Value} {x : MethodName} {owner : String} (W0 wc : va_W) {w : va_W} {C : String} {T : u_T} {M ci : Nat} {fs : List Value} {q : Nat} (q0 : Nat) (hc : vwCl[ci]? = some (C, T, M)) (he : w[q0]? = some (q, .inr (ci, fs))) (hM : gMetG l y bytes n ret' d1 mc ms D (TYS cA) ST wc (.ref q :: As) (gGr D (TYS cA) ok adr Wb)) (G : GC p s m args meth c cc maxL own ret A D (TYS cA) ST) (hP : va_P D vwCl w H) (hD : va_D A w) (hS : va_S A s.heap H locs) (hW : w.Perm (W0 ++ wc))
    (hg : GoodIn BIG (va_wsU own index C owner x y (.code y bytes n ret' :: BIG))) (hyx : y = ⟨owner, x.name, x.desc⟩) (hd : owner ≠ "java/lang/invoke/MethodHandle" ∧ owner ≠ "java/lang/invoke/VarHandle" ∧ (parseMethodDescriptor x.desc).map (fun d => d.parameters.length) = some nA) (hR : d1 + 1 ≤ R.frames ∧ 19 + n + 40 * d1 ≤ R.locals ∧ cells + mc ≤ R.cells ∧ slots + ms ≤ R.slots) (hn : As.length = nA) (hls : ls.size = maxL) (rest : List Value) (hst : st0 = As.reverse ++ .ref q :: rest) (hcat : (rest.map fun v => v.category).sum ≤ 8) (hdg : decode cc pc = .ok (.invokevirtual index, 3))
    (kk : ∀ (b : β) (H1 : Heap) (locs1 : List Loc), ok b → va_P D vwCl (W0 ++ Wb b) H1 → va_D A (W0 ++ Wb b) → va_S A s.heap H1 locs1 → W p l e R s m args below meth c H1 locs1 (cells + mc) (slots + ms) Q (F0 m (pc + 3) ls (.ref (adr b) :: rest))) : W p l e R s m args below meth c H locs cells slots Q (F0 m pc ls st0) := by
  obtain ⟨hx, hb, hml, hown, hts, -, hlocks, hA, hK, hN, hX, hT⟩ := G
  have hrecv := va_recv hK hP hc he
  have hP := hP.perm hW
  have hD := hD.perm hW
  have hF := fb_free hD hS hA
  have hPc : va_P D vwCl wc H := va_P_mem.mpr fun z hz => va_P_mem.mp hP z (List.mem_append_right _ hz)
  have hDc : va_D (fun _ => True) wc := va_D_nd.mpr ⟨by have h9 := (va_D_nd.mp hD).1; rw [List.map_append, List.nodup_append] at h9; exact h9.2.1, fun _ _ => trivial⟩
  refine va_callr (va_runU (As := As) (C := C) (owner := owner) (x := x) (y := y) (rest := rest) ⟨hx, hb, hml, hown, hts⟩ (hM H.size) (va_cwU nA hts hg rfl rfl rfl hyx hd ⟨by show d1 + 1 ≤ R.frames; exact hR.1, by show 8 + (n + 11) + 40 * d1 ≤ R.locals; omega⟩) ⟨gPre_blind hT, hrecv, fun U hU hW => ⟨rfl, by rw [hU], by rw [hU]; exact hPc, va_K.moved hW.alike hK, hDc, hN.warm hW, hT.2 _ _ _ _ _ _ hX hS hU hW hF⟩⟩ rfl hn hls hst (lv_room hcat) hdg ⟨hR.2.2.1, hR.2.2.2⟩) hS (fun q _ h => hF q h) hF (fun b ra t H1 locs1 ht hvm hw hB hz1 hk1 hS1 => ?_)
  obtain ⟨rfl, hP1, hK1, hD1⟩ := hB
  rw [ht] at hP1
  obtain ⟨hP2, hD2⟩ := fb_join hP hD hk1 hF hP1 hD1
  exact kk b H1 locs1 hw hP2 hD2 hS1
theorem c_callSUv {β : Type} {ok : β → Prop} {Wb : β → va_W} {y : MethodName} {bytes : ByteArray} {n nA d1 mc ms index : Nat} {ret' : Option FieldType} {As st0 : List Value} (W0 wc : va_W) {w : va_W} {C : String} {T : u_T} {M ci : Nat} {fs : List Value} {q : Nat} (q0 : Nat) (hc : vwCl[ci]? = some (C, T, M)) (he : w[q0]? = some (q, .inr (ci, fs))) (hM : gMetG l y bytes n ret' d1 mc ms D (TYS cA) ST wc (.ref q :: As) (gGv D (TYS cA) ok Wb)) (G : GC p s m args meth c cc maxL own ret A D (TYS cA) ST) (hP : va_P D vwCl w H) (hD : va_D A w) (hS : va_S A s.heap H locs) (hW : w.Perm (W0 ++ wc))
    (hg : GoodIn BIG (va_wsSU own index y (.code y bytes n ret' :: BIG))) (hd : y.name ≠ "<init>" ∧ (parseMethodDescriptor y.desc).map (fun d => d.parameters.length) = some nA) (hR : d1 + 1 ≤ R.frames ∧ 19 + n + 40 * d1 ≤ R.locals ∧ cells + mc ≤ R.cells ∧ slots + ms ≤ R.slots) (hn : As.length = nA) (hls : ls.size = maxL) (rest : List Value) (hst : st0 = As.reverse ++ .ref q :: rest) (hcat : (rest.map fun v => v.category).sum ≤ 8) (hdg : decode cc pc = .ok (.invokespecial index, 3))
    (kk : ∀ (b : β) (H1 : Heap) (locs1 : List Loc), ok b → va_P D vwCl (W0 ++ Wb b) H1 → va_D A (W0 ++ Wb b) → va_S A s.heap H1 locs1 → W p l e R s m args below meth c H1 locs1 (cells + mc) (slots + ms) Q (F0 m (pc + 3) ls rest)) : W p l e R s m args below meth c H locs cells slots Q (F0 m pc ls st0) := by
  obtain ⟨hx, hb, hml, hown, hts, -, hlocks, hA, hK, hN, hX, hT⟩ := G
  have hrecv := va_recv hK hP hc he
  have hat := (hK.1 ci _ hc).2
  have hP := hP.perm hW
  have hD := hD.perm hW
  have hF := fb_free hD hS hA
  have hPc : va_P D vwCl wc H := va_P_mem.mpr fun z hz => va_P_mem.mp hP z (List.mem_append_right _ hz)
  have hDc : va_D (fun _ => True) wc := va_D_nd.mpr ⟨by have h9 := (va_D_nd.mp hD).1; rw [List.map_append, List.nodup_append] at h9; exact h9.2.1, fun _ _ => trivial⟩
  refine va_callv (va_runSU (As := As) (C := C) hat (rest := rest) ⟨hx, hb, hml, hown, hts⟩ (hM H.size) (va_cwSU nA hts hg rfl rfl rfl hd ⟨by show d1 + 1 ≤ R.frames; exact hR.1, by show 8 + (n + 11) + 40 * d1 ≤ R.locals; omega⟩) ⟨gPre_blind hT, hrecv, fun U hU hW => ⟨rfl, by rw [hU], by rw [hU]; exact hPc, va_K.moved hW.alike hK, hDc, hN.warm hW, hT.2 _ _ _ _ _ _ hX hS hU hW hF⟩⟩ rfl hn hls hst (lv_room hcat) hdg ⟨hR.2.2.1, hR.2.2.2⟩) hS (fun q _ h => hF q h) hF (fun b t H1 locs1 ht hvm hw hB hz1 hk1 hS1 => ?_)
  obtain ⟨hP1, hK1, hD1⟩ := hB
  rw [ht] at hP1
  obtain ⟨hP2, hD2⟩ := fb_join hP hD hk1 hF hP1 hD1
  exact kk b H1 locs1 hw hP2 hD2 hS1
theorem c_callSUi {β : Type} {ok : Int32 → β → Prop} {Wb : β → va_W} {y : MethodName} {bytes : ByteArray} {n nA d1 mc ms index : Nat} {ret' : Option FieldType} {As st0 : List Value} (W0 wc : va_W) {w : va_W} {C : String} {T : u_T} {M ci : Nat} {fs : List Value} {q : Nat} (q0 : Nat) (hc : vwCl[ci]? = some (C, T, M)) (he : w[q0]? = some (q, .inr (ci, fs))) (hM : gMetG l y bytes n ret' d1 mc ms D (TYS cA) ST wc (.ref q :: As) (gGi D (TYS cA) ok Wb)) (G : GC p s m args meth c cc maxL own ret A D (TYS cA) ST) (hP : va_P D vwCl w H) (hD : va_D A w) (hS : va_S A s.heap H locs) (hW : w.Perm (W0 ++ wc))
    (hg : GoodIn BIG (va_wsSU own index y (.code y bytes n ret' :: BIG))) (hd : y.name ≠ "<init>" ∧ (parseMethodDescriptor y.desc).map (fun d => d.parameters.length) = some nA) (hR : d1 + 1 ≤ R.frames ∧ 19 + n + 40 * d1 ≤ R.locals ∧ cells + mc ≤ R.cells ∧ slots + ms ≤ R.slots) (hn : As.length = nA) (hls : ls.size = maxL) (rest : List Value) (hst : st0 = As.reverse ++ .ref q :: rest) (hcat : (rest.map fun v => v.category).sum ≤ 8) (hdg : decode cc pc = .ok (.invokespecial index, 3))
    (kk : ∀ (r : Int32) (b : β) (H1 : Heap) (locs1 : List Loc), ok r b → va_P D vwCl (W0 ++ Wb b) H1 → va_D A (W0 ++ Wb b) → va_S A s.heap H1 locs1 → W p l e R s m args below meth c H1 locs1 (cells + mc) (slots + ms) Q (F0 m (pc + 3) ls (.int r :: rest))) : W p l e R s m args below meth c H locs cells slots Q (F0 m pc ls st0) := by
  obtain ⟨hx, hb, hml, hown, hts, -, hlocks, hA, hK, hN, hX, hT⟩ := G
  have hrecv := va_recv hK hP hc he
  have hat := (hK.1 ci _ hc).2
  have hP := hP.perm hW
  have hD := hD.perm hW
  have hF := fb_free hD hS hA
  have hPc : va_P D vwCl wc H := va_P_mem.mpr fun z hz => va_P_mem.mp hP z (List.mem_append_right _ hz)
  have hDc : va_D (fun _ => True) wc := va_D_nd.mpr ⟨by have h9 := (va_D_nd.mp hD).1; rw [List.map_append, List.nodup_append] at h9; exact h9.2.1, fun _ _ => trivial⟩
  refine va_calli (va_runSU (As := As) (C := C) hat (rest := rest) ⟨hx, hb, hml, hown, hts⟩ (hM H.size) (va_cwSU nA hts hg rfl rfl rfl hd ⟨by show d1 + 1 ≤ R.frames; exact hR.1, by show 8 + (n + 11) + 40 * d1 ≤ R.locals; omega⟩) ⟨gPre_blind hT, hrecv, fun U hU hW => ⟨rfl, by rw [hU], by rw [hU]; exact hPc, va_K.moved hW.alike hK, hDc, hN.warm hW, hT.2 _ _ _ _ _ _ hX hS hU hW hF⟩⟩ rfl hn hls hst (lv_room hcat) hdg ⟨hR.2.2.1, hR.2.2.2⟩) hS (fun q _ h => hF q h) hF (fun r b t H1 locs1 ht hvm hw hB hz1 hk1 hS1 => ?_)
  obtain ⟨hP1, hK1, hD1⟩ := hB
  rw [ht] at hP1
  obtain ⟨hP2, hD2⟩ := fb_join hP hD hk1 hF hP1 hD1
  exact kk r b H1 locs1 hw hP2 hD2 hS1
theorem c_callSUr {β : Type} {ok : β → Prop} {adr : β → Nat} {Wb : β → va_W} {y : MethodName} {bytes : ByteArray} {n nA d1 mc ms index : Nat} {ret' : Option FieldType} {As st0 : List Value} (W0 wc : va_W) {w : va_W} {C : String} {T : u_T} {M ci : Nat} {fs : List Value} {q : Nat} (q0 : Nat) (hc : vwCl[ci]? = some (C, T, M)) (he : w[q0]? = some (q, .inr (ci, fs))) (hM : gMetG l y bytes n ret' d1 mc ms D (TYS cA) ST wc (.ref q :: As) (gGr D (TYS cA) ok adr Wb)) (G : GC p s m args meth c cc maxL own ret A D (TYS cA) ST) (hP : va_P D vwCl w H) (hD : va_D A w) (hS : va_S A s.heap H locs) (hW : w.Perm (W0 ++ wc))
    (hg : GoodIn BIG (va_wsSU own index y (.code y bytes n ret' :: BIG))) (hd : y.name ≠ "<init>" ∧ (parseMethodDescriptor y.desc).map (fun d => d.parameters.length) = some nA) (hR : d1 + 1 ≤ R.frames ∧ 19 + n + 40 * d1 ≤ R.locals ∧ cells + mc ≤ R.cells ∧ slots + ms ≤ R.slots) (hn : As.length = nA) (hls : ls.size = maxL) (rest : List Value) (hst : st0 = As.reverse ++ .ref q :: rest) (hcat : (rest.map fun v => v.category).sum ≤ 8) (hdg : decode cc pc = .ok (.invokespecial index, 3))
    (kk : ∀ (b : β) (H1 : Heap) (locs1 : List Loc), ok b → va_P D vwCl (W0 ++ Wb b) H1 → va_D A (W0 ++ Wb b) → va_S A s.heap H1 locs1 → W p l e R s m args below meth c H1 locs1 (cells + mc) (slots + ms) Q (F0 m (pc + 3) ls (.ref (adr b) :: rest))) : W p l e R s m args below meth c H locs cells slots Q (F0 m pc ls st0) := by
  obtain ⟨hx, hb, hml, hown, hts, -, hlocks, hA, hK, hN, hX, hT⟩ := G
  have hrecv := va_recv hK hP hc he
  have hat := (hK.1 ci _ hc).2
  have hP := hP.perm hW
  have hD := hD.perm hW
  have hF := fb_free hD hS hA
  have hPc : va_P D vwCl wc H := va_P_mem.mpr fun z hz => va_P_mem.mp hP z (List.mem_append_right _ hz)
  have hDc : va_D (fun _ => True) wc := va_D_nd.mpr ⟨by have h9 := (va_D_nd.mp hD).1; rw [List.map_append, List.nodup_append] at h9; exact h9.2.1, fun _ _ => trivial⟩
  refine va_callr (va_runSU (As := As) (C := C) hat (rest := rest) ⟨hx, hb, hml, hown, hts⟩ (hM H.size) (va_cwSU nA hts hg rfl rfl rfl hd ⟨by show d1 + 1 ≤ R.frames; exact hR.1, by show 8 + (n + 11) + 40 * d1 ≤ R.locals; omega⟩) ⟨gPre_blind hT, hrecv, fun U hU hW => ⟨rfl, by rw [hU], by rw [hU]; exact hPc, va_K.moved hW.alike hK, hDc, hN.warm hW, hT.2 _ _ _ _ _ _ hX hS hU hW hF⟩⟩ rfl hn hls hst (lv_room hcat) hdg ⟨hR.2.2.1, hR.2.2.2⟩) hS (fun q _ h => hF q h) hF (fun b ra t H1 locs1 ht hvm hw hB hz1 hk1 hS1 => ?_)
  obtain ⟨rfl, hP1, hK1, hD1⟩ := hB
  rw [ht] at hP1
  obtain ⟨hP2, hD2⟩ := fb_join hP hD hk1 hF hP1 hD1
  exact kk b H1 locs1 hw hP2 hD2 hS1
theorem c_callPv {β : Type} {ok : β → Prop} {Wb : β → va_W} {y : MethodName} {bytes : ByteArray} {n nA d1 mc ms index : Nat} {ret' : Option FieldType} {As st0 : List Value} {x : MethodName} {owner : String} (W0 wc : va_W) {w : va_W} {C : String} {T : u_T} {M ci : Nat} {fs : List Value} {q : Nat} (q0 : Nat) (hc : vwCl[ci]? = some (C, T, M)) (he : w[q0]? = some (q, .inr (ci, fs))) (hM : gMetG l y bytes n ret' d1 mc ms D (TYS cA) ST wc (.ref q :: As) (gGv D (TYS cA) ok Wb)) (G : GC p s m args meth c cc maxL own ret A D (TYS cA) ST) (hP : va_P D vwCl w H) (hD : va_D A w) (hS : va_S A s.heap H locs) (hW : w.Perm (W0 ++ wc))
    (hg : GoodIn (Cond.selects C x y :: BIG) (va_wsU own index C owner x y (.code y bytes n ret' :: BIG))) (hyx : y = ⟨owner, x.name, x.desc⟩) (hsel : (Cond.selects C x y).before args s = true) (hd : owner ≠ "java/lang/invoke/MethodHandle" ∧ owner ≠ "java/lang/invoke/VarHandle" ∧ (parseMethodDescriptor x.desc).map (fun d => d.parameters.length) = some nA) (hR : d1 + 1 ≤ R.frames ∧ 19 + n + 40 * d1 ≤ R.locals ∧ cells + mc ≤ R.cells ∧ slots + ms ≤ R.slots) (hn : As.length = nA) (hls : ls.size = maxL) (rest : List Value) (hst : st0 = As.reverse ++ .ref q :: rest) (hcat : (rest.map fun v => v.category).sum ≤ 8) (hdg : decode cc pc = .ok (.invokevirtual index, 3))
    (kk : ∀ (b : β) (H1 : Heap) (locs1 : List Loc), ok b → va_P D vwCl (W0 ++ Wb b) H1 → va_D A (W0 ++ Wb b) → va_S A s.heap H1 locs1 → W p l e R s m args below meth c H1 locs1 (cells + mc) (slots + ms) Q (F0 m (pc + 3) ls rest)) : W p l e R s m args below meth c H locs cells slots Q (F0 m pc ls st0) := by
  obtain ⟨hx, hb, hml, hown, hts, -, hlocks, hA, hK, hN, hX, hT⟩ := G
  have hts : ∀ w ∈ (Cond.selects C x y :: BIG), w.before args s = true := List.forall_mem_cons.mpr ⟨hsel, hts⟩
  have hrecv := va_recv hK hP hc he
  have hP := hP.perm hW
  have hD := hD.perm hW
  have hF := fb_free hD hS hA
  have hPc : va_P D vwCl wc H := va_P_mem.mpr fun z hz => va_P_mem.mp hP z (List.mem_append_right _ hz)
  have hDc : va_D (fun _ => True) wc := va_D_nd.mpr ⟨by have h9 := (va_D_nd.mp hD).1; rw [List.map_append, List.nodup_append] at h9; exact h9.2.1, fun _ _ => trivial⟩
  refine va_callv (va_runU (As := As) (C := C) (owner := owner) (x := x) (y := y) (rest := rest) ⟨hx, hb, hml, hown, hts⟩ (hM H.size) (va_cwU nA hts hg rfl rfl rfl hyx hd ⟨by show d1 + 1 ≤ R.frames; exact hR.1, by show 8 + (n + 11) + 40 * d1 ≤ R.locals; omega⟩) ⟨gPre_blind hT, hrecv, fun U hU hW => ⟨rfl, by rw [hU], by rw [hU]; exact hPc, va_K.moved hW.alike hK, hDc, hN.warm hW, hT.2 _ _ _ _ _ _ hX hS hU hW hF⟩⟩ rfl hn hls hst (lv_room hcat) hdg ⟨hR.2.2.1, hR.2.2.2⟩) hS (fun q _ h => hF q h) hF (fun b t H1 locs1 ht hvm hw hB hz1 hk1 hS1 => ?_)
  obtain ⟨hP1, hK1, hD1⟩ := hB
  rw [ht] at hP1
  obtain ⟨hP2, hD2⟩ := fb_join hP hD hk1 hF hP1 hD1
  exact kk b H1 locs1 hw hP2 hD2 hS1
theorem c_callPi {β : Type} {ok : Int32 → β → Prop} {Wb : β → va_W} {y : MethodName} {bytes : ByteArray} {n nA d1 mc ms index : Nat} {ret' : Option FieldType} {As st0 : List Value} {x : MethodName} {owner : String} (W0 wc : va_W) {w : va_W} {C : String} {T : u_T} {M ci : Nat} {fs : List Value} {q : Nat} (q0 : Nat) (hc : vwCl[ci]? = some (C, T, M)) (he : w[q0]? = some (q, .inr (ci, fs))) (hM : gMetG l y bytes n ret' d1 mc ms D (TYS cA) ST wc (.ref q :: As) (gGi D (TYS cA) ok Wb)) (G : GC p s m args meth c cc maxL own ret A D (TYS cA) ST) (hP : va_P D vwCl w H) (hD : va_D A w) (hS : va_S A s.heap H locs) (hW : w.Perm (W0 ++ wc))
    (hg : GoodIn (Cond.selects C x y :: BIG) (va_wsU own index C owner x y (.code y bytes n ret' :: BIG))) (hyx : y = ⟨owner, x.name, x.desc⟩) (hsel : (Cond.selects C x y).before args s = true) (hd : owner ≠ "java/lang/invoke/MethodHandle" ∧ owner ≠ "java/lang/invoke/VarHandle" ∧ (parseMethodDescriptor x.desc).map (fun d => d.parameters.length) = some nA) (hR : d1 + 1 ≤ R.frames ∧ 19 + n + 40 * d1 ≤ R.locals ∧ cells + mc ≤ R.cells ∧ slots + ms ≤ R.slots) (hn : As.length = nA) (hls : ls.size = maxL) (rest : List Value) (hst : st0 = As.reverse ++ .ref q :: rest) (hcat : (rest.map fun v => v.category).sum ≤ 8) (hdg : decode cc pc = .ok (.invokevirtual index, 3))
    (kk : ∀ (r : Int32) (b : β) (H1 : Heap) (locs1 : List Loc), ok r b → va_P D vwCl (W0 ++ Wb b) H1 → va_D A (W0 ++ Wb b) → va_S A s.heap H1 locs1 → W p l e R s m args below meth c H1 locs1 (cells + mc) (slots + ms) Q (F0 m (pc + 3) ls (.int r :: rest))) : W p l e R s m args below meth c H locs cells slots Q (F0 m pc ls st0) := by
  obtain ⟨hx, hb, hml, hown, hts, -, hlocks, hA, hK, hN, hX, hT⟩ := G
  have hts : ∀ w ∈ (Cond.selects C x y :: BIG), w.before args s = true := List.forall_mem_cons.mpr ⟨hsel, hts⟩
  have hrecv := va_recv hK hP hc he
  have hP := hP.perm hW
  have hD := hD.perm hW
  have hF := fb_free hD hS hA
  have hPc : va_P D vwCl wc H := va_P_mem.mpr fun z hz => va_P_mem.mp hP z (List.mem_append_right _ hz)
  have hDc : va_D (fun _ => True) wc := va_D_nd.mpr ⟨by have h9 := (va_D_nd.mp hD).1; rw [List.map_append, List.nodup_append] at h9; exact h9.2.1, fun _ _ => trivial⟩
  refine va_calli (va_runU (As := As) (C := C) (owner := owner) (x := x) (y := y) (rest := rest) ⟨hx, hb, hml, hown, hts⟩ (hM H.size) (va_cwU nA hts hg rfl rfl rfl hyx hd ⟨by show d1 + 1 ≤ R.frames; exact hR.1, by show 8 + (n + 11) + 40 * d1 ≤ R.locals; omega⟩) ⟨gPre_blind hT, hrecv, fun U hU hW => ⟨rfl, by rw [hU], by rw [hU]; exact hPc, va_K.moved hW.alike hK, hDc, hN.warm hW, hT.2 _ _ _ _ _ _ hX hS hU hW hF⟩⟩ rfl hn hls hst (lv_room hcat) hdg ⟨hR.2.2.1, hR.2.2.2⟩) hS (fun q _ h => hF q h) hF (fun r b t H1 locs1 ht hvm hw hB hz1 hk1 hS1 => ?_)
  obtain ⟨hP1, hK1, hD1⟩ := hB
  rw [ht] at hP1
  obtain ⟨hP2, hD2⟩ := fb_join hP hD hk1 hF hP1 hD1
  exact kk r b H1 locs1 hw hP2 hD2 hS1
theorem c_callPr {β : Type} {ok : β → Prop} {adr : β → Nat} {Wb : β → va_W} {y : MethodName} {bytes : ByteArray} {n nA d1 mc ms index : Nat} {ret' : Option FieldType} {As st0 : List Value} {x : MethodName} {owner : String} (W0 wc : va_W) {w : va_W} {C : String} {T : u_T} {M ci : Nat} {fs : List Value} {q : Nat} (q0 : Nat) (hc : vwCl[ci]? = some (C, T, M)) (he : w[q0]? = some (q, .inr (ci, fs))) (hM : gMetG l y bytes n ret' d1 mc ms D (TYS cA) ST wc (.ref q :: As) (gGr D (TYS cA) ok adr Wb)) (G : GC p s m args meth c cc maxL own ret A D (TYS cA) ST) (hP : va_P D vwCl w H) (hD : va_D A w) (hS : va_S A s.heap H locs) (hW : w.Perm (W0 ++ wc))
    (hg : GoodIn (Cond.selects C x y :: BIG) (va_wsU own index C owner x y (.code y bytes n ret' :: BIG))) (hyx : y = ⟨owner, x.name, x.desc⟩) (hsel : (Cond.selects C x y).before args s = true) (hd : owner ≠ "java/lang/invoke/MethodHandle" ∧ owner ≠ "java/lang/invoke/VarHandle" ∧ (parseMethodDescriptor x.desc).map (fun d => d.parameters.length) = some nA) (hR : d1 + 1 ≤ R.frames ∧ 19 + n + 40 * d1 ≤ R.locals ∧ cells + mc ≤ R.cells ∧ slots + ms ≤ R.slots) (hn : As.length = nA) (hls : ls.size = maxL) (rest : List Value) (hst : st0 = As.reverse ++ .ref q :: rest) (hcat : (rest.map fun v => v.category).sum ≤ 8) (hdg : decode cc pc = .ok (.invokevirtual index, 3))
    (kk : ∀ (b : β) (H1 : Heap) (locs1 : List Loc), ok b → va_P D vwCl (W0 ++ Wb b) H1 → va_D A (W0 ++ Wb b) → va_S A s.heap H1 locs1 → W p l e R s m args below meth c H1 locs1 (cells + mc) (slots + ms) Q (F0 m (pc + 3) ls (.ref (adr b) :: rest))) : W p l e R s m args below meth c H locs cells slots Q (F0 m pc ls st0) := by
  obtain ⟨hx, hb, hml, hown, hts, -, hlocks, hA, hK, hN, hX, hT⟩ := G
  have hts : ∀ w ∈ (Cond.selects C x y :: BIG), w.before args s = true := List.forall_mem_cons.mpr ⟨hsel, hts⟩
  have hrecv := va_recv hK hP hc he
  have hP := hP.perm hW
  have hD := hD.perm hW
  have hF := fb_free hD hS hA
  have hPc : va_P D vwCl wc H := va_P_mem.mpr fun z hz => va_P_mem.mp hP z (List.mem_append_right _ hz)
  have hDc : va_D (fun _ => True) wc := va_D_nd.mpr ⟨by have h9 := (va_D_nd.mp hD).1; rw [List.map_append, List.nodup_append] at h9; exact h9.2.1, fun _ _ => trivial⟩
  refine va_callr (va_runU (As := As) (C := C) (owner := owner) (x := x) (y := y) (rest := rest) ⟨hx, hb, hml, hown, hts⟩ (hM H.size) (va_cwU nA hts hg rfl rfl rfl hyx hd ⟨by show d1 + 1 ≤ R.frames; exact hR.1, by show 8 + (n + 11) + 40 * d1 ≤ R.locals; omega⟩) ⟨gPre_blind hT, hrecv, fun U hU hW => ⟨rfl, by rw [hU], by rw [hU]; exact hPc, va_K.moved hW.alike hK, hDc, hN.warm hW, hT.2 _ _ _ _ _ _ hX hS hU hW hF⟩⟩ rfl hn hls hst (lv_room hcat) hdg ⟨hR.2.2.1, hR.2.2.2⟩) hS (fun q _ h => hF q h) hF (fun b ra t H1 locs1 ht hvm hw hB hz1 hk1 hS1 => ?_)
  obtain ⟨rfl, hP1, hK1, hD1⟩ := hB
  rw [ht] at hP1
  obtain ⟨hP2, hD2⟩ := fb_join hP hD hk1 hF hP1 hD1
  exact kk b H1 locs1 hw hP2 hD2 hS1
end S16
theorem q2_48 : Jvm.Cond.superclass "java/lang/StringBuilder" "java/lang/AbstractStringBuilder" ∈ BIG := bg2 (List.mem_of_getElem? (i := 48) rfl) rfl
theorem q3_205 : Jvm.Cond.sameMethod "java/lang/AbstractStringBuilder" "java/lang/AbstractStringBuilder" "length" "()I" ∈ BIG := bg3 (List.mem_of_getElem? (i := 205) rfl) rfl
theorem q3_69 : Jvm.Cond.constant "jdk/internal/util/ArraysSupport" (200 : Nat) (2147483639 : Int32) ∈ BIG := bg3 (List.mem_of_getElem? (i := 69) rfl) rfl
theorem q3_73 : Jvm.Cond.constant "java/lang/AbstractStringBuilder" (39 : Nat) (2147483647 : Int32) ∈ BIG := bg3 (List.mem_of_getElem? (i := 73) rfl) rfl
theorem q3_88 : Jvm.Cond.sameMethod "java/lang/AbstractStringBuilder" "java/lang/AbstractStringBuilder" "isLatin1" "()Z" ∈ BIG := bg3 (List.mem_of_getElem? (i := 88) rfl) rfl
theorem q9_158 : Jvm.Cond.sameMethod "java/lang/AbstractStringBuilder" "java/lang/AbstractStringBuilder" "setLength" "(I)V" ∈ BIG := bg9 (List.mem_of_getElem? (i := 158) rfl) rfl
theorem q9_161 : Jvm.Cond.sameMethod "java/lang/AbstractStringBuilder" "java/lang/AbstractStringBuilder" "ensureCapacityInternal" "(I)V" ∈ BIG := bg9 (List.mem_of_getElem? (i := 161) rfl) rfl
theorem q9_162 : Jvm.Cond.sameMethod "java/lang/AbstractStringBuilder" "java/lang/AbstractStringBuilder" "newCapacity" "(I)I" ∈ BIG := bg9 (List.mem_of_getElem? (i := 162) rfl) rfl
theorem q9_166 : Jvm.Cond.sameMethod "java/lang/AbstractStringBuilder" "java/lang/AbstractStringBuilder" "append" "(I)Ljava/lang/AbstractStringBuilder;" ∈ BIG := bg9 (List.mem_of_getElem? (i := 166) rfl) rfl
theorem q9_168 : Jvm.Cond.sameMethod "java/lang/AbstractStringBuilder" "java/lang/AbstractStringBuilder" "append" "(C)Ljava/lang/AbstractStringBuilder;" ∈ BIG := bg9 (List.mem_of_getElem? (i := 168) rfl) rfl
theorem q9_170 : Jvm.Cond.sameMethod "java/lang/AbstractStringBuilder" "java/lang/AbstractStringBuilder" "charAt" "(I)C" ∈ BIG := bg9 (List.mem_of_getElem? (i := 170) rfl) rfl
theorem i_J4 : ∀ w ∈ u_ws RJ4 TJ4 4, w ∈ BIG := show ∀ w ∈ ([u_lay RJ4 TJ4 0, u_lay RJ4 TJ4 1, u_lay RJ4 TJ4 2, u_lay RJ4 TJ4 3] : List Cond), w ∈ BIG from List.forall_mem_cons.mpr ⟨q2_40, List.forall_mem_cons.mpr ⟨q2_42, List.forall_mem_cons.mpr ⟨q2_44, List.forall_mem_cons.mpr ⟨q2_46, List.forall_mem_nil _⟩⟩⟩⟩
/-- the builder's two private methods -/
def STP (ST : gST) : Prop := ∀ (A : Nat → Prop) (U : State), ST A U → ∀ args : Array Value, (Cond.selects RJ4 yJ5_newCapacity_0f7a4 yJ5_newCapacity_0f7a4).before args U = true ∧ (Cond.selects RJ4 yJ5_ensureCapacityInternal_d00df yJ5_ensureCapacityInternal_d00df).before args U = true
/-- what Integer's code asks of its tables -/
def sb_ones (j : Nat) : Int32 := nI (48 + j % 10)
def sb_tens (j : Nat) : Int32 := nI (48 + j / 10)
def STD (tt : Nat → Nat) (ST : gST) : Prop := ∀ (A : Nat → Prop) (U : State), ST A U →
  (va_Z "java/lang/Integer" "DigitOnes" "[B" (.ref (tt 11)) A U U.heap ∧ va_T .byte (tt 11) 100 (fun j => .int (sb_ones j)) A U U.heap) ∧ (va_Z "java/lang/Integer" "DigitTens" "[B" (.ref (tt 12)) A U U.heap ∧ va_T .byte (tt 12) 100 (fun j => .int (sb_tens j)) A U U.heap)
theorem sb_tb : ∀ j, j < 100 → vp_nar .byte (sb_ones j) = sb_b (48 + j % 10) ∧ vp_nar .byte (sb_tens j) = sb_b (48 + j / 10) := by decide +kernel
abbrev SBb : Type := Nat × Nat × Int32 × (Nat → Int32)
/-- the builder at z, of n letters; its bytes -/
def sbC (cA : Nat → ClassId) (z n : Nat) (b : SBb) : va_W := [(z, .inr (1, [.ref b.1, .int 0, .int b.2.2.1, .int (nI n)])), (b.1, .inl (cA 5, b.2.1, .inl b.2.2.2))]
def SBok (t : Nat → Nat) (n : Nat) (b : SBb) : Prop := (b.2.1 = 16 ∨ b.2.1 = 34) ∧ n ≤ b.2.1 ∧ sb_Lat t n b.2.2.2 ∧ sb_Fit b.2.2.2 ∧ (b.2.2.1 = 0 ∨ b.2.2.1 = 1)

theorem va_P_sl {D : va_G} {cl : List vw_C} {w1 w2 : va_W} {H : Heap} (hs : List.Sublist w2 w1) (h : va_P D cl w1 H) : va_P D cl w2 H := va_P_mem.mpr fun q hq => va_P_mem.mp h q (hs.subset hq)
theorem va_D_sl {A : Nat → Prop} {w1 w2 : va_W} (hs : List.Sublist w2 w1) (h : va_D A w1) : va_D A w2 := by
  obtain ⟨h1, h2⟩ := va_D_nd.mp h
  exact va_D_nd.mpr ⟨h1.sublist (hs.map _), fun q hq => h2 q (hs.subset hq)⟩
theorem nI_h (h : Nat) : nI h = Int32.ofNat h := rfl
theorem dJ6_stringSize_0f7a4_0 : decode cJ6_stringSize_0f7a4 0 = .ok (.iconst 1, 1) := by decide +kernel
theorem dJ6_stringSize_0f7a4_1 : decode cJ6_stringSize_0f7a4 1 = .ok (.istore_n 1, 1) := by decide +kernel
theorem dJ6_stringSize_0f7a4_2 : decode cJ6_stringSize_0f7a4 2 = .ok (.iload_n 0, 1) := by decide +kernel
theorem dJ6_stringSize_0f7a4_3 : decode cJ6_stringSize_0f7a4 3 = .ok (.ifCond .lt 8, 3) := by decide +kernel
theorem dJ6_stringSize_0f7a4_6 : decode cJ6_stringSize_0f7a4 6 = .ok (.iconst 0, 1) := by decide +kernel
theorem dJ6_stringSize_0f7a4_7 : decode cJ6_stringSize_0f7a4 7 = .ok (.istore_n 1, 1) := by decide +kernel
theorem dJ6_stringSize_0f7a4_8 : decode cJ6_stringSize_0f7a4 8 = .ok (.iload_n 0, 1) := by decide +kernel
theorem dJ6_stringSize_0f7a4_9 : decode cJ6_stringSize_0f7a4 9 = .ok (.ineg, 1) := by decide +kernel
theorem dJ6_stringSize_0f7a4_10 : decode cJ6_stringSize_0f7a4 10 = .ok (.istore_n 0, 1) := by decide +kernel
theorem dJ6_stringSize_0f7a4_11 : decode cJ6_stringSize_0f7a4 11 = .ok (.bipush (-10), 2) := by decide +kernel
theorem dJ6_stringSize_0f7a4_13 : decode cJ6_stringSize_0f7a4 13 = .ok (.istore_n 2, 1) := by decide +kernel
theorem dJ6_stringSize_0f7a4_14 : decode cJ6_stringSize_0f7a4 14 = .ok (.iconst 1, 1) := by decide +kernel
theorem dJ6_stringSize_0f7a4_15 : decode cJ6_stringSize_0f7a4 15 = .ok (.istore_n 3, 1) := by decide +kernel
theorem dJ6_stringSize_0f7a4_16 : decode cJ6_stringSize_0f7a4 16 = .ok (.iload_n 3, 1) := by decide +kernel
theorem dJ6_stringSize_0f7a4_17 : decode cJ6_stringSize_0f7a4 17 = .ok (.bipush 10, 2) := by decide +kernel
theorem dJ6_stringSize_0f7a4_19 : decode cJ6_stringSize_0f7a4 19 = .ok (.if_icmp .ge 23, 3) := by decide +kernel
theorem dJ6_stringSize_0f7a4_22 : decode cJ6_stringSize_0f7a4 22 = .ok (.iload_n 0, 1) := by decide +kernel
theorem dJ6_stringSize_0f7a4_23 : decode cJ6_stringSize_0f7a4 23 = .ok (.iload_n 2, 1) := by decide +kernel
theorem dJ6_stringSize_0f7a4_24 : decode cJ6_stringSize_0f7a4 24 = .ok (.if_icmp .le 7, 3) := by decide +kernel
theorem dJ6_stringSize_0f7a4_27 : decode cJ6_stringSize_0f7a4 27 = .ok (.iload_n 3, 1) := by decide +kernel
theorem dJ6_stringSize_0f7a4_28 : decode cJ6_stringSize_0f7a4 28 = .ok (.iload_n 1, 1) := by decide +kernel
theorem dJ6_stringSize_0f7a4_29 : decode cJ6_stringSize_0f7a4 29 = .ok (.iadd, 1) := by decide +kernel
theorem dJ6_stringSize_0f7a4_30 : decode cJ6_stringSize_0f7a4 30 = .ok (.ireturn, 1) := by decide +kernel
theorem dJ6_stringSize_0f7a4_31 : decode cJ6_stringSize_0f7a4 31 = .ok (.bipush 10, 2) := by decide +kernel
theorem dJ6_stringSize_0f7a4_33 : decode cJ6_stringSize_0f7a4 33 = .ok (.iload_n 2, 1) := by decide +kernel
theorem dJ6_stringSize_0f7a4_34 : decode cJ6_stringSize_0f7a4 34 = .ok (.imul, 1) := by decide +kernel
theorem dJ6_stringSize_0f7a4_35 : decode cJ6_stringSize_0f7a4 35 = .ok (.istore_n 2, 1) := by decide +kernel
theorem dJ6_stringSize_0f7a4_36 : decode cJ6_stringSize_0f7a4 36 = .ok (.iinc 3 1, 3) := by decide +kernel
theorem dJ6_stringSize_0f7a4_39 : decode cJ6_stringSize_0f7a4 39 = .ok (.goto (-23), 3) := by decide +kernel
theorem dJ6_stringSize_0f7a4_42 : decode cJ6_stringSize_0f7a4 42 = .ok (.bipush 10, 2) := by decide +kernel
theorem dJ6_stringSize_0f7a4_44 : decode cJ6_stringSize_0f7a4 44 = .ok (.iload_n 1, 1) := by decide +kernel
theorem dJ6_stringSize_0f7a4_45 : decode cJ6_stringSize_0f7a4 45 = .ok (.iadd, 1) := by decide +kernel
theorem dJ6_stringSize_0f7a4_46 : decode cJ6_stringSize_0f7a4 46 = .ok (.ireturn, 1) := by decide +kernel
theorem dJ1_canEncode_fc78d_0 : decode cJ1_canEncode_fc78d 0 = .ok (.iload_n 0, 1) := by decide +kernel
theorem dJ1_canEncode_fc78d_1 : decode cJ1_canEncode_fc78d 1 = .ok (.sipush 255, 3) := by decide +kernel
theorem dJ1_canEncode_fc78d_4 : decode cJ1_canEncode_fc78d 4 = .ok (.if_icmp .gt 7, 3) := by decide +kernel
theorem dJ1_canEncode_fc78d_7 : decode cJ1_canEncode_fc78d 7 = .ok (.iconst 1, 1) := by decide +kernel
theorem dJ1_canEncode_fc78d_8 : decode cJ1_canEncode_fc78d 8 = .ok (.goto 4, 3) := by decide +kernel
theorem dJ1_canEncode_fc78d_11 : decode cJ1_canEncode_fc78d 11 = .ok (.iconst 0, 1) := by decide +kernel
theorem dJ1_canEncode_fc78d_12 : decode cJ1_canEncode_fc78d 12 = .ok (.ireturn, 1) := by decide +kernel
theorem dJ5_isLatin1_aae02_0 : decode cJ5_isLatin1_aae02 0 = .ok (.getstatic 18, 3) := by decide +kernel
theorem dJ5_isLatin1_aae02_3 : decode cJ5_isLatin1_aae02 3 = .ok (.ifCond .eq 14, 3) := by decide +kernel
theorem dJ5_isLatin1_aae02_6 : decode cJ5_isLatin1_aae02 6 = .ok (.aload_n 0, 1) := by decide +kernel
theorem dJ5_isLatin1_aae02_7 : decode cJ5_isLatin1_aae02 7 = .ok (.getfield 22, 3) := by decide +kernel
theorem dJ5_isLatin1_aae02_10 : decode cJ5_isLatin1_aae02 10 = .ok (.ifCond .ne 7, 3) := by decide +kernel
theorem dJ5_isLatin1_aae02_13 : decode cJ5_isLatin1_aae02 13 = .ok (.iconst 1, 1) := by decide +kernel
theorem dJ5_isLatin1_aae02_14 : decode cJ5_isLatin1_aae02 14 = .ok (.goto 4, 3) := by decide +kernel
theorem dJ5_isLatin1_aae02_17 : decode cJ5_isLatin1_aae02 17 = .ok (.iconst 0, 1) := by decide +kernel
theorem dJ5_isLatin1_aae02_18 : decode cJ5_isLatin1_aae02 18 = .ok (.ireturn, 1) := by decide +kernel
theorem dJ5_length_8abf5_0 : decode cJ5_length_8abf5 0 = .ok (.aload_n 0, 1) := by decide +kernel
theorem dJ5_length_8abf5_1 : decode cJ5_length_8abf5 1 = .ok (.getfield 79, 3) := by decide +kernel
theorem dJ5_length_8abf5_4 : decode cJ5_length_8abf5 4 = .ok (.ireturn, 1) := by decide +kernel
theorem dJ4_length_8abf5_0 : decode cJ4_length_8abf5 0 = .ok (.aload_n 0, 1) := by decide +kernel
theorem dJ4_length_8abf5_1 : decode cJ4_length_8abf5 1 = .ok (.invokespecial 343, 3) := by decide +kernel
theorem dJ4_length_8abf5_4 : decode cJ4_length_8abf5 4 = .ok (.ireturn, 1) := by decide +kernel
theorem dJ8_newLength_cabcc_0 : decode cJ8_newLength_cabcc 0 = .ok (.iload_n 0, 1) := by decide +kernel
theorem dJ8_newLength_cabcc_1 : decode cJ8_newLength_cabcc 1 = .ok (.iload_n 1, 1) := by decide +kernel
theorem dJ8_newLength_cabcc_2 : decode cJ8_newLength_cabcc 2 = .ok (.iload_n 2, 1) := by decide +kernel
theorem dJ8_newLength_cabcc_3 : decode cJ8_newLength_cabcc 3 = .ok (.invokestatic 194, 3) := by decide +kernel
theorem dJ8_newLength_cabcc_6 : decode cJ8_newLength_cabcc 6 = .ok (.iadd, 1) := by decide +kernel
theorem dJ8_newLength_cabcc_7 : decode cJ8_newLength_cabcc 7 = .ok (.istore_n 3, 1) := by decide +kernel
theorem dJ8_newLength_cabcc_8 : decode cJ8_newLength_cabcc 8 = .ok (.iconst 0, 1) := by decide +kernel
theorem dJ8_newLength_cabcc_9 : decode cJ8_newLength_cabcc 9 = .ok (.iload_n 3, 1) := by decide +kernel
theorem dJ8_newLength_cabcc_10 : decode cJ8_newLength_cabcc 10 = .ok (.if_icmp .ge 11, 3) := by decide +kernel
theorem dJ8_newLength_cabcc_13 : decode cJ8_newLength_cabcc 13 = .ok (.iload_n 3, 1) := by decide +kernel
theorem dJ8_newLength_cabcc_14 : decode cJ8_newLength_cabcc 14 = .ok (.ldc 200, 2) := by decide +kernel
theorem dJ8_newLength_cabcc_16 : decode cJ8_newLength_cabcc 16 = .ok (.if_icmp .gt 5, 3) := by decide +kernel
theorem dJ8_newLength_cabcc_19 : decode cJ8_newLength_cabcc 19 = .ok (.iload_n 3, 1) := by decide +kernel
theorem dJ8_newLength_cabcc_20 : decode cJ8_newLength_cabcc 20 = .ok (.ireturn, 1) := by decide +kernel
theorem dJ8_newLength_cabcc_21 : decode cJ8_newLength_cabcc 21 = .ok (.iload_n 0, 1) := by decide +kernel
theorem dJ8_newLength_cabcc_22 : decode cJ8_newLength_cabcc 22 = .ok (.iload_n 1, 1) := by decide +kernel
theorem dJ8_newLength_cabcc_23 : decode cJ8_newLength_cabcc 23 = .ok (.invokestatic 201, 3) := by decide +kernel
theorem dJ8_newLength_cabcc_26 : decode cJ8_newLength_cabcc 26 = .ok (.ireturn, 1) := by decide +kernel
theorem dJ5_newCapacity_0f7a4_0 : decode cJ5_newCapacity_0f7a4 0 = .ok (.aload_n 0, 1) := by decide +kernel
theorem dJ5_newCapacity_0f7a4_1 : decode cJ5_newCapacity_0f7a4 1 = .ok (.getfield 15, 3) := by decide +kernel
theorem dJ5_newCapacity_0f7a4_4 : decode cJ5_newCapacity_0f7a4 4 = .ok (.arraylength, 1) := by decide +kernel
theorem dJ5_newCapacity_0f7a4_5 : decode cJ5_newCapacity_0f7a4 5 = .ok (.istore_n 2, 1) := by decide +kernel
theorem dJ5_newCapacity_0f7a4_6 : decode cJ5_newCapacity_0f7a4 6 = .ok (.iload_n 1, 1) := by decide +kernel
theorem dJ5_newCapacity_0f7a4_7 : decode cJ5_newCapacity_0f7a4 7 = .ok (.aload_n 0, 1) := by decide +kernel
theorem dJ5_newCapacity_0f7a4_8 : decode cJ5_newCapacity_0f7a4 8 = .ok (.getfield 22, 3) := by decide +kernel
theorem dJ5_newCapacity_0f7a4_11 : decode cJ5_newCapacity_0f7a4 11 = .ok (.ishl, 1) := by decide +kernel
theorem dJ5_newCapacity_0f7a4_12 : decode cJ5_newCapacity_0f7a4 12 = .ok (.istore_n 3, 1) := by decide +kernel
theorem dJ5_newCapacity_0f7a4_13 : decode cJ5_newCapacity_0f7a4 13 = .ok (.iload_n 3, 1) := by decide +kernel
theorem dJ5_newCapacity_0f7a4_14 : decode cJ5_newCapacity_0f7a4 14 = .ok (.iload_n 2, 1) := by decide +kernel
theorem dJ5_newCapacity_0f7a4_15 : decode cJ5_newCapacity_0f7a4 15 = .ok (.isub, 1) := by decide +kernel
theorem dJ5_newCapacity_0f7a4_16 : decode cJ5_newCapacity_0f7a4 16 = .ok (.istore 4, 2) := by decide +kernel
theorem dJ5_newCapacity_0f7a4_18 : decode cJ5_newCapacity_0f7a4 18 = .ok (.iload_n 2, 1) := by decide +kernel
theorem dJ5_newCapacity_0f7a4_19 : decode cJ5_newCapacity_0f7a4 19 = .ok (.iload 4, 2) := by decide +kernel
theorem dJ5_newCapacity_0f7a4_21 : decode cJ5_newCapacity_0f7a4 21 = .ok (.iload_n 2, 1) := by decide +kernel
theorem dJ5_newCapacity_0f7a4_22 : decode cJ5_newCapacity_0f7a4 22 = .ok (.iconst 2, 1) := by decide +kernel
theorem dJ5_newCapacity_0f7a4_23 : decode cJ5_newCapacity_0f7a4 23 = .ok (.aload_n 0, 1) := by decide +kernel
theorem dJ5_newCapacity_0f7a4_24 : decode cJ5_newCapacity_0f7a4 24 = .ok (.getfield 22, 3) := by decide +kernel
theorem dJ5_newCapacity_0f7a4_27 : decode cJ5_newCapacity_0f7a4 27 = .ok (.ishl, 1) := by decide +kernel
theorem dJ5_newCapacity_0f7a4_28 : decode cJ5_newCapacity_0f7a4 28 = .ok (.iadd, 1) := by decide +kernel
theorem dJ5_newCapacity_0f7a4_29 : decode cJ5_newCapacity_0f7a4 29 = .ok (.invokestatic 114, 3) := by decide +kernel
theorem dJ5_newCapacity_0f7a4_32 : decode cJ5_newCapacity_0f7a4 32 = .ok (.istore 5, 2) := by decide +kernel
theorem dJ5_newCapacity_0f7a4_34 : decode cJ5_newCapacity_0f7a4 34 = .ok (.iload 5, 2) := by decide +kernel
theorem dJ5_newCapacity_0f7a4_36 : decode cJ5_newCapacity_0f7a4 36 = .ok (.ldc 39, 2) := by decide +kernel
theorem dJ5_newCapacity_0f7a4_38 : decode cJ5_newCapacity_0f7a4 38 = .ok (.if_icmp .ne 13, 3) := by decide +kernel
theorem dJ5_newCapacity_0f7a4_41 : decode cJ5_newCapacity_0f7a4 41 = .ok (.new 120, 3) := by decide +kernel
theorem dJ5_newCapacity_0f7a4_44 : decode cJ5_newCapacity_0f7a4 44 = .ok (.dup, 1) := by decide +kernel
theorem dJ5_newCapacity_0f7a4_45 : decode cJ5_newCapacity_0f7a4 45 = .ok (.ldc 122, 2) := by decide +kernel
theorem dJ5_newCapacity_0f7a4_47 : decode cJ5_newCapacity_0f7a4 47 = .ok (.invokespecial 124, 3) := by decide +kernel
theorem dJ5_newCapacity_0f7a4_50 : decode cJ5_newCapacity_0f7a4 50 = .ok (.athrow, 1) := by decide +kernel
theorem dJ5_newCapacity_0f7a4_51 : decode cJ5_newCapacity_0f7a4 51 = .ok (.iload 5, 2) := by decide +kernel
theorem dJ5_newCapacity_0f7a4_53 : decode cJ5_newCapacity_0f7a4 53 = .ok (.aload_n 0, 1) := by decide +kernel
theorem dJ5_newCapacity_0f7a4_54 : decode cJ5_newCapacity_0f7a4 54 = .ok (.getfield 22, 3) := by decide +kernel
theorem dJ5_newCapacity_0f7a4_57 : decode cJ5_newCapacity_0f7a4 57 = .ok (.ishr, 1) := by decide +kernel
theorem dJ5_newCapacity_0f7a4_58 : decode cJ5_newCapacity_0f7a4 58 = .ok (.ireturn, 1) := by decide +kernel
theorem dJ7_copyOf_9075b_0 : decode cJ7_copyOf_9075b 0 = .ok (.iload_n 1, 1) := by decide +kernel
theorem dJ7_copyOf_9075b_1 : decode cJ7_copyOf_9075b 1 = .ok (.aload_n 0, 1) := by decide +kernel
theorem dJ7_copyOf_9075b_2 : decode cJ7_copyOf_9075b 2 = .ok (.arraylength, 1) := by decide +kernel
theorem dJ7_copyOf_9075b_3 : decode cJ7_copyOf_9075b 3 = .ok (.if_icmp .ne 11, 3) := by decide +kernel
theorem dJ7_copyOf_9075b_6 : decode cJ7_copyOf_9075b 6 = .ok (.aload_n 0, 1) := by decide +kernel
theorem dJ7_copyOf_9075b_7 : decode cJ7_copyOf_9075b 7 = .ok (.invokevirtual 310, 3) := by decide +kernel
theorem dJ7_copyOf_9075b_10 : decode cJ7_copyOf_9075b 10 = .ok (.checkcast 311, 3) := by decide +kernel
theorem dJ7_copyOf_9075b_13 : decode cJ7_copyOf_9075b 13 = .ok (.areturn, 1) := by decide +kernel
theorem dJ7_copyOf_9075b_14 : decode cJ7_copyOf_9075b 14 = .ok (.iload_n 1, 1) := by decide +kernel
theorem dJ7_copyOf_9075b_15 : decode cJ7_copyOf_9075b 15 = .ok (.newarray .byte, 2) := by decide +kernel
theorem dJ7_copyOf_9075b_17 : decode cJ7_copyOf_9075b 17 = .ok (.astore_n 2, 1) := by decide +kernel
theorem dJ7_copyOf_9075b_18 : decode cJ7_copyOf_9075b 18 = .ok (.aload_n 0, 1) := by decide +kernel
theorem dJ7_copyOf_9075b_19 : decode cJ7_copyOf_9075b 19 = .ok (.iconst 0, 1) := by decide +kernel
theorem dJ7_copyOf_9075b_20 : decode cJ7_copyOf_9075b 20 = .ok (.aload_n 2, 1) := by decide +kernel
theorem dJ7_copyOf_9075b_21 : decode cJ7_copyOf_9075b 21 = .ok (.iconst 0, 1) := by decide +kernel
theorem dJ7_copyOf_9075b_22 : decode cJ7_copyOf_9075b 22 = .ok (.aload_n 0, 1) := by decide +kernel
theorem dJ7_copyOf_9075b_23 : decode cJ7_copyOf_9075b 23 = .ok (.arraylength, 1) := by decide +kernel
theorem dJ7_copyOf_9075b_24 : decode cJ7_copyOf_9075b 24 = .ok (.iload_n 1, 1) := by decide +kernel
theorem dJ7_copyOf_9075b_25 : decode cJ7_copyOf_9075b 25 = .ok (.invokestatic 304, 3) := by decide +kernel
theorem dJ7_copyOf_9075b_28 : decode cJ7_copyOf_9075b 28 = .ok (.invokestatic 150, 3) := by decide +kernel
theorem dJ7_copyOf_9075b_31 : decode cJ7_copyOf_9075b 31 = .ok (.aload_n 2, 1) := by decide +kernel
theorem dJ7_copyOf_9075b_32 : decode cJ7_copyOf_9075b 32 = .ok (.areturn, 1) := by decide +kernel
theorem dJ5_ensureCapacityInternal_d00df_0 : decode cJ5_ensureCapacityInternal_d00df 0 = .ok (.aload_n 0, 1) := by decide +kernel
theorem dJ5_ensureCapacityInternal_d00df_1 : decode cJ5_ensureCapacityInternal_d00df 1 = .ok (.getfield 15, 3) := by decide +kernel
theorem dJ5_ensureCapacityInternal_d00df_4 : decode cJ5_ensureCapacityInternal_d00df 4 = .ok (.arraylength, 1) := by decide +kernel
theorem dJ5_ensureCapacityInternal_d00df_5 : decode cJ5_ensureCapacityInternal_d00df 5 = .ok (.aload_n 0, 1) := by decide +kernel
theorem dJ5_ensureCapacityInternal_d00df_6 : decode cJ5_ensureCapacityInternal_d00df 6 = .ok (.getfield 22, 3) := by decide +kernel
theorem dJ5_ensureCapacityInternal_d00df_9 : decode cJ5_ensureCapacityInternal_d00df 9 = .ok (.ishr, 1) := by decide +kernel
theorem dJ5_ensureCapacityInternal_d00df_10 : decode cJ5_ensureCapacityInternal_d00df 10 = .ok (.istore_n 2, 1) := by decide +kernel
theorem dJ5_ensureCapacityInternal_d00df_11 : decode cJ5_ensureCapacityInternal_d00df 11 = .ok (.iload_n 1, 1) := by decide +kernel
theorem dJ5_ensureCapacityInternal_d00df_12 : decode cJ5_ensureCapacityInternal_d00df 12 = .ok (.iload_n 2, 1) := by decide +kernel
theorem dJ5_ensureCapacityInternal_d00df_13 : decode cJ5_ensureCapacityInternal_d00df 13 = .ok (.isub, 1) := by decide +kernel
theorem dJ5_ensureCapacityInternal_d00df_14 : decode cJ5_ensureCapacityInternal_d00df 14 = .ok (.ifCond .le 24, 3) := by decide +kernel
theorem dJ5_ensureCapacityInternal_d00df_17 : decode cJ5_ensureCapacityInternal_d00df 17 = .ok (.aload_n 0, 1) := by decide +kernel
theorem dJ5_ensureCapacityInternal_d00df_18 : decode cJ5_ensureCapacityInternal_d00df 18 = .ok (.aload_n 0, 1) := by decide +kernel
theorem dJ5_ensureCapacityInternal_d00df_19 : decode cJ5_ensureCapacityInternal_d00df 19 = .ok (.getfield 15, 3) := by decide +kernel
theorem dJ5_ensureCapacityInternal_d00df_22 : decode cJ5_ensureCapacityInternal_d00df 22 = .ok (.aload_n 0, 1) := by decide +kernel
theorem dJ5_ensureCapacityInternal_d00df_23 : decode cJ5_ensureCapacityInternal_d00df 23 = .ok (.iload_n 1, 1) := by decide +kernel
theorem dJ5_ensureCapacityInternal_d00df_24 : decode cJ5_ensureCapacityInternal_d00df 24 = .ok (.invokevirtual 104, 3) := by decide +kernel
theorem dJ5_ensureCapacityInternal_d00df_27 : decode cJ5_ensureCapacityInternal_d00df 27 = .ok (.aload_n 0, 1) := by decide +kernel
theorem dJ5_ensureCapacityInternal_d00df_28 : decode cJ5_ensureCapacityInternal_d00df 28 = .ok (.getfield 22, 3) := by decide +kernel
theorem dJ5_ensureCapacityInternal_d00df_31 : decode cJ5_ensureCapacityInternal_d00df 31 = .ok (.ishl, 1) := by decide +kernel
theorem dJ5_ensureCapacityInternal_d00df_32 : decode cJ5_ensureCapacityInternal_d00df 32 = .ok (.invokestatic 108, 3) := by decide +kernel
theorem dJ5_ensureCapacityInternal_d00df_35 : decode cJ5_ensureCapacityInternal_d00df 35 = .ok (.putfield 15, 3) := by decide +kernel
theorem dJ5_ensureCapacityInternal_d00df_38 : decode cJ5_ensureCapacityInternal_d00df 38 = .ok (.return_, 1) := by decide +kernel
theorem dJ5_append_3fe6f_0 : decode cJ5_append_3fe6f 0 = .ok (.aload_n 0, 1) := by decide +kernel
theorem dJ5_append_3fe6f_1 : decode cJ5_append_3fe6f 1 = .ok (.aload_n 0, 1) := by decide +kernel
theorem dJ5_append_3fe6f_2 : decode cJ5_append_3fe6f 2 = .ok (.getfield 79, 3) := by decide +kernel
theorem dJ5_append_3fe6f_5 : decode cJ5_append_3fe6f 5 = .ok (.iconst 1, 1) := by decide +kernel
theorem dJ5_append_3fe6f_6 : decode cJ5_append_3fe6f 6 = .ok (.iadd, 1) := by decide +kernel
theorem dJ5_append_3fe6f_7 : decode cJ5_append_3fe6f 7 = .ok (.invokevirtual 100, 3) := by decide +kernel
theorem dJ5_append_3fe6f_10 : decode cJ5_append_3fe6f 10 = .ok (.aload_n 0, 1) := by decide +kernel
theorem dJ5_append_3fe6f_11 : decode cJ5_append_3fe6f 11 = .ok (.invokevirtual 83, 3) := by decide +kernel
theorem dJ5_append_3fe6f_14 : decode cJ5_append_3fe6f 14 = .ok (.ifCond .eq 31, 3) := by decide +kernel
theorem dJ5_append_3fe6f_17 : decode cJ5_append_3fe6f 17 = .ok (.iload_n 1, 1) := by decide +kernel
theorem dJ5_append_3fe6f_18 : decode cJ5_append_3fe6f 18 = .ok (.invokestatic 191, 3) := by decide +kernel
theorem dJ5_append_3fe6f_21 : decode cJ5_append_3fe6f 21 = .ok (.ifCond .eq 24, 3) := by decide +kernel
theorem dJ5_append_3fe6f_24 : decode cJ5_append_3fe6f 24 = .ok (.aload_n 0, 1) := by decide +kernel
theorem dJ5_append_3fe6f_25 : decode cJ5_append_3fe6f 25 = .ok (.getfield 15, 3) := by decide +kernel
theorem dJ5_append_3fe6f_28 : decode cJ5_append_3fe6f 28 = .ok (.aload_n 0, 1) := by decide +kernel
theorem dJ5_append_3fe6f_29 : decode cJ5_append_3fe6f 29 = .ok (.dup, 1) := by decide +kernel
theorem dJ5_append_3fe6f_30 : decode cJ5_append_3fe6f 30 = .ok (.getfield 79, 3) := by decide +kernel
theorem dJ5_append_3fe6f_33 : decode cJ5_append_3fe6f 33 = .ok (.dup_x1, 1) := by decide +kernel
theorem dJ5_append_3fe6f_34 : decode cJ5_append_3fe6f 34 = .ok (.iconst 1, 1) := by decide +kernel
theorem dJ5_append_3fe6f_35 : decode cJ5_append_3fe6f 35 = .ok (.iadd, 1) := by decide +kernel
theorem dJ5_append_3fe6f_36 : decode cJ5_append_3fe6f 36 = .ok (.putfield 79, 3) := by decide +kernel
theorem dJ5_append_3fe6f_39 : decode cJ5_append_3fe6f 39 = .ok (.iload_n 1, 1) := by decide +kernel
theorem dJ5_append_3fe6f_40 : decode cJ5_append_3fe6f 40 = .ok (.i2b, 1) := by decide +kernel
theorem dJ5_append_3fe6f_41 : decode cJ5_append_3fe6f 41 = .ok (.bastore, 1) := by decide +kernel
theorem dJ5_append_3fe6f_42 : decode cJ5_append_3fe6f 42 = .ok (.goto 33, 3) := by decide +kernel
theorem dJ5_append_3fe6f_45 : decode cJ5_append_3fe6f 45 = .ok (.aload_n 0, 1) := by decide +kernel
theorem dJ5_append_3fe6f_46 : decode cJ5_append_3fe6f 46 = .ok (.invokevirtual 83, 3) := by decide +kernel
theorem dJ5_append_3fe6f_49 : decode cJ5_append_3fe6f 49 = .ok (.ifCond .eq 7, 3) := by decide +kernel
theorem dJ5_append_3fe6f_52 : decode cJ5_append_3fe6f 52 = .ok (.aload_n 0, 1) := by decide +kernel
theorem dJ5_append_3fe6f_53 : decode cJ5_append_3fe6f 53 = .ok (.invokevirtual 195, 3) := by decide +kernel
theorem dJ5_append_3fe6f_56 : decode cJ5_append_3fe6f 56 = .ok (.aload_n 0, 1) := by decide +kernel
theorem dJ5_append_3fe6f_57 : decode cJ5_append_3fe6f 57 = .ok (.getfield 15, 3) := by decide +kernel
theorem dJ5_append_3fe6f_60 : decode cJ5_append_3fe6f 60 = .ok (.aload_n 0, 1) := by decide +kernel
theorem dJ5_append_3fe6f_61 : decode cJ5_append_3fe6f 61 = .ok (.dup, 1) := by decide +kernel
theorem dJ5_append_3fe6f_62 : decode cJ5_append_3fe6f 62 = .ok (.getfield 79, 3) := by decide +kernel
theorem dJ5_append_3fe6f_65 : decode cJ5_append_3fe6f 65 = .ok (.dup_x1, 1) := by decide +kernel
theorem dJ5_append_3fe6f_66 : decode cJ5_append_3fe6f 66 = .ok (.iconst 1, 1) := by decide +kernel
theorem dJ5_append_3fe6f_67 : decode cJ5_append_3fe6f 67 = .ok (.iadd, 1) := by decide +kernel
theorem dJ5_append_3fe6f_68 : decode cJ5_append_3fe6f 68 = .ok (.putfield 79, 3) := by decide +kernel
theorem dJ5_append_3fe6f_71 : decode cJ5_append_3fe6f 71 = .ok (.iload_n 1, 1) := by decide +kernel
theorem dJ5_append_3fe6f_72 : decode cJ5_append_3fe6f 72 = .ok (.invokestatic 197, 3) := by decide +kernel
theorem dJ5_append_3fe6f_75 : decode cJ5_append_3fe6f 75 = .ok (.aload_n 0, 1) := by decide +kernel
theorem dJ5_append_3fe6f_76 : decode cJ5_append_3fe6f 76 = .ok (.areturn, 1) := by decide +kernel
theorem dJ4_append_cf468_0 : decode cJ4_append_cf468 0 = .ok (.aload_n 0, 1) := by decide +kernel
theorem dJ4_append_cf468_1 : decode cJ4_append_cf468 1 = .ok (.iload_n 1, 1) := by decide +kernel
theorem dJ4_append_cf468_2 : decode cJ4_append_cf468 2 = .ok (.invokespecial 50, 3) := by decide +kernel
theorem dJ4_append_cf468_5 : decode cJ4_append_cf468 5 = .ok (.pop, 1) := by decide +kernel
theorem dJ4_append_cf468_6 : decode cJ4_append_cf468 6 = .ok (.aload_n 0, 1) := by decide +kernel
theorem dJ4_append_cf468_7 : decode cJ4_append_cf468 7 = .ok (.areturn, 1) := by decide +kernel
theorem dJ6_getChars_ba4f3_0 : decode cJ6_getChars_ba4f3 0 = .ok (.iload_n 1, 1) := by decide +kernel
theorem dJ6_getChars_ba4f3_1 : decode cJ6_getChars_ba4f3 1 = .ok (.istore 5, 2) := by decide +kernel
theorem dJ6_getChars_ba4f3_3 : decode cJ6_getChars_ba4f3 3 = .ok (.iload_n 0, 1) := by decide +kernel
theorem dJ6_getChars_ba4f3_4 : decode cJ6_getChars_ba4f3 4 = .ok (.ifCond .ge 7, 3) := by decide +kernel
theorem dJ6_getChars_ba4f3_7 : decode cJ6_getChars_ba4f3 7 = .ok (.iconst 1, 1) := by decide +kernel
theorem dJ6_getChars_ba4f3_8 : decode cJ6_getChars_ba4f3 8 = .ok (.goto 4, 3) := by decide +kernel
theorem dJ6_getChars_ba4f3_11 : decode cJ6_getChars_ba4f3 11 = .ok (.iconst 0, 1) := by decide +kernel
theorem dJ6_getChars_ba4f3_12 : decode cJ6_getChars_ba4f3 12 = .ok (.istore 6, 2) := by decide +kernel
theorem dJ6_getChars_ba4f3_14 : decode cJ6_getChars_ba4f3 14 = .ok (.iload 6, 2) := by decide +kernel
theorem dJ6_getChars_ba4f3_16 : decode cJ6_getChars_ba4f3 16 = .ok (.ifCond .ne 6, 3) := by decide +kernel
theorem dJ6_getChars_ba4f3_19 : decode cJ6_getChars_ba4f3 19 = .ok (.iload_n 0, 1) := by decide +kernel
theorem dJ6_getChars_ba4f3_20 : decode cJ6_getChars_ba4f3 20 = .ok (.ineg, 1) := by decide +kernel
theorem dJ6_getChars_ba4f3_21 : decode cJ6_getChars_ba4f3 21 = .ok (.istore_n 0, 1) := by decide +kernel
theorem dJ6_getChars_ba4f3_22 : decode cJ6_getChars_ba4f3 22 = .ok (.iload_n 0, 1) := by decide +kernel
theorem dJ6_getChars_ba4f3_23 : decode cJ6_getChars_ba4f3 23 = .ok (.bipush (-100), 2) := by decide +kernel
theorem dJ6_getChars_ba4f3_25 : decode cJ6_getChars_ba4f3 25 = .ok (.if_icmp .gt 47, 3) := by decide +kernel
theorem dJ6_getChars_ba4f3_28 : decode cJ6_getChars_ba4f3 28 = .ok (.iload_n 0, 1) := by decide +kernel
theorem dJ6_getChars_ba4f3_29 : decode cJ6_getChars_ba4f3 29 = .ok (.bipush 100, 2) := by decide +kernel
theorem dJ6_getChars_ba4f3_31 : decode cJ6_getChars_ba4f3 31 = .ok (.idiv, 1) := by decide +kernel
theorem dJ6_getChars_ba4f3_32 : decode cJ6_getChars_ba4f3 32 = .ok (.istore_n 3, 1) := by decide +kernel
theorem dJ6_getChars_ba4f3_33 : decode cJ6_getChars_ba4f3 33 = .ok (.iload_n 3, 1) := by decide +kernel
theorem dJ6_getChars_ba4f3_34 : decode cJ6_getChars_ba4f3 34 = .ok (.bipush 100, 2) := by decide +kernel
theorem dJ6_getChars_ba4f3_36 : decode cJ6_getChars_ba4f3 36 = .ok (.imul, 1) := by decide +kernel
theorem dJ6_getChars_ba4f3_37 : decode cJ6_getChars_ba4f3 37 = .ok (.iload_n 0, 1) := by decide +kernel
theorem dJ6_getChars_ba4f3_38 : decode cJ6_getChars_ba4f3 38 = .ok (.isub, 1) := by decide +kernel
theorem dJ6_getChars_ba4f3_39 : decode cJ6_getChars_ba4f3 39 = .ok (.istore 4, 2) := by decide +kernel
theorem dJ6_getChars_ba4f3_41 : decode cJ6_getChars_ba4f3 41 = .ok (.iload_n 3, 1) := by decide +kernel
theorem dJ6_getChars_ba4f3_42 : decode cJ6_getChars_ba4f3 42 = .ok (.istore_n 0, 1) := by decide +kernel
theorem dJ6_getChars_ba4f3_43 : decode cJ6_getChars_ba4f3 43 = .ok (.aload_n 2, 1) := by decide +kernel
theorem dJ6_getChars_ba4f3_44 : decode cJ6_getChars_ba4f3 44 = .ok (.iinc 5 (-1), 3) := by decide +kernel
theorem dJ6_getChars_ba4f3_47 : decode cJ6_getChars_ba4f3 47 = .ok (.iload 5, 2) := by decide +kernel
theorem dJ6_getChars_ba4f3_49 : decode cJ6_getChars_ba4f3 49 = .ok (.getstatic 83, 3) := by decide +kernel
theorem dJ6_getChars_ba4f3_52 : decode cJ6_getChars_ba4f3 52 = .ok (.iload 4, 2) := by decide +kernel
theorem dJ6_getChars_ba4f3_54 : decode cJ6_getChars_ba4f3 54 = .ok (.baload, 1) := by decide +kernel
theorem dJ6_getChars_ba4f3_55 : decode cJ6_getChars_ba4f3 55 = .ok (.bastore, 1) := by decide +kernel
theorem dJ6_getChars_ba4f3_56 : decode cJ6_getChars_ba4f3 56 = .ok (.aload_n 2, 1) := by decide +kernel
theorem dJ6_getChars_ba4f3_57 : decode cJ6_getChars_ba4f3 57 = .ok (.iinc 5 (-1), 3) := by decide +kernel
theorem dJ6_getChars_ba4f3_60 : decode cJ6_getChars_ba4f3 60 = .ok (.iload 5, 2) := by decide +kernel
theorem dJ6_getChars_ba4f3_62 : decode cJ6_getChars_ba4f3 62 = .ok (.getstatic 87, 3) := by decide +kernel
theorem dJ6_getChars_ba4f3_65 : decode cJ6_getChars_ba4f3 65 = .ok (.iload 4, 2) := by decide +kernel
theorem dJ6_getChars_ba4f3_67 : decode cJ6_getChars_ba4f3 67 = .ok (.baload, 1) := by decide +kernel
theorem dJ6_getChars_ba4f3_68 : decode cJ6_getChars_ba4f3 68 = .ok (.bastore, 1) := by decide +kernel
theorem dJ6_getChars_ba4f3_69 : decode cJ6_getChars_ba4f3 69 = .ok (.goto (-47), 3) := by decide +kernel
theorem dJ6_getChars_ba4f3_72 : decode cJ6_getChars_ba4f3 72 = .ok (.aload_n 2, 1) := by decide +kernel
theorem dJ6_getChars_ba4f3_73 : decode cJ6_getChars_ba4f3 73 = .ok (.iinc 5 (-1), 3) := by decide +kernel
theorem dJ6_getChars_ba4f3_76 : decode cJ6_getChars_ba4f3 76 = .ok (.iload 5, 2) := by decide +kernel
theorem dJ6_getChars_ba4f3_78 : decode cJ6_getChars_ba4f3 78 = .ok (.getstatic 83, 3) := by decide +kernel
theorem dJ6_getChars_ba4f3_81 : decode cJ6_getChars_ba4f3 81 = .ok (.iload_n 0, 1) := by decide +kernel
theorem dJ6_getChars_ba4f3_82 : decode cJ6_getChars_ba4f3 82 = .ok (.ineg, 1) := by decide +kernel
theorem dJ6_getChars_ba4f3_83 : decode cJ6_getChars_ba4f3 83 = .ok (.baload, 1) := by decide +kernel
theorem dJ6_getChars_ba4f3_84 : decode cJ6_getChars_ba4f3 84 = .ok (.bastore, 1) := by decide +kernel
theorem dJ6_getChars_ba4f3_85 : decode cJ6_getChars_ba4f3 85 = .ok (.iload_n 0, 1) := by decide +kernel
theorem dJ6_getChars_ba4f3_86 : decode cJ6_getChars_ba4f3 86 = .ok (.bipush (-9), 2) := by decide +kernel
theorem dJ6_getChars_ba4f3_88 : decode cJ6_getChars_ba4f3 88 = .ok (.if_icmp .ge 16, 3) := by decide +kernel
theorem dJ6_getChars_ba4f3_91 : decode cJ6_getChars_ba4f3 91 = .ok (.aload_n 2, 1) := by decide +kernel
theorem dJ6_getChars_ba4f3_92 : decode cJ6_getChars_ba4f3 92 = .ok (.iinc 5 (-1), 3) := by decide +kernel
theorem dJ6_getChars_ba4f3_95 : decode cJ6_getChars_ba4f3 95 = .ok (.iload 5, 2) := by decide +kernel
theorem dJ6_getChars_ba4f3_97 : decode cJ6_getChars_ba4f3 97 = .ok (.getstatic 87, 3) := by decide +kernel
theorem dJ6_getChars_ba4f3_100 : decode cJ6_getChars_ba4f3 100 = .ok (.iload_n 0, 1) := by decide +kernel
theorem dJ6_getChars_ba4f3_101 : decode cJ6_getChars_ba4f3 101 = .ok (.ineg, 1) := by decide +kernel
theorem dJ6_getChars_ba4f3_102 : decode cJ6_getChars_ba4f3 102 = .ok (.baload, 1) := by decide +kernel
theorem dJ6_getChars_ba4f3_103 : decode cJ6_getChars_ba4f3 103 = .ok (.bastore, 1) := by decide +kernel
theorem dJ6_getChars_ba4f3_104 : decode cJ6_getChars_ba4f3 104 = .ok (.iload 6, 2) := by decide +kernel
theorem dJ6_getChars_ba4f3_106 : decode cJ6_getChars_ba4f3 106 = .ok (.ifCond .eq 12, 3) := by decide +kernel
theorem dJ6_getChars_ba4f3_109 : decode cJ6_getChars_ba4f3 109 = .ok (.aload_n 2, 1) := by decide +kernel
theorem dJ6_getChars_ba4f3_110 : decode cJ6_getChars_ba4f3 110 = .ok (.iinc 5 (-1), 3) := by decide +kernel
theorem dJ6_getChars_ba4f3_113 : decode cJ6_getChars_ba4f3 113 = .ok (.iload 5, 2) := by decide +kernel
theorem dJ6_getChars_ba4f3_115 : decode cJ6_getChars_ba4f3 115 = .ok (.bipush 45, 2) := by decide +kernel
theorem dJ6_getChars_ba4f3_117 : decode cJ6_getChars_ba4f3 117 = .ok (.bastore, 1) := by decide +kernel
theorem dJ6_getChars_ba4f3_118 : decode cJ6_getChars_ba4f3 118 = .ok (.iload 5, 2) := by decide +kernel
theorem dJ6_getChars_ba4f3_120 : decode cJ6_getChars_ba4f3 120 = .ok (.ireturn, 1) := by decide +kernel
theorem dJ5_append_c97b9_0 : decode cJ5_append_c97b9 0 = .ok (.aload_n 0, 1) := by decide +kernel
theorem dJ5_append_c97b9_1 : decode cJ5_append_c97b9 1 = .ok (.getfield 79, 3) := by decide +kernel
theorem dJ5_append_c97b9_4 : decode cJ5_append_c97b9 4 = .ok (.istore_n 2, 1) := by decide +kernel
theorem dJ5_append_c97b9_5 : decode cJ5_append_c97b9 5 = .ok (.iload_n 2, 1) := by decide +kernel
theorem dJ5_append_c97b9_6 : decode cJ5_append_c97b9 6 = .ok (.iload_n 1, 1) := by decide +kernel
theorem dJ5_append_c97b9_7 : decode cJ5_append_c97b9 7 = .ok (.invokestatic 245, 3) := by decide +kernel
theorem dJ5_append_c97b9_10 : decode cJ5_append_c97b9 10 = .ok (.iadd, 1) := by decide +kernel
theorem dJ5_append_c97b9_11 : decode cJ5_append_c97b9 11 = .ok (.istore_n 3, 1) := by decide +kernel
theorem dJ5_append_c97b9_12 : decode cJ5_append_c97b9 12 = .ok (.aload_n 0, 1) := by decide +kernel
theorem dJ5_append_c97b9_13 : decode cJ5_append_c97b9 13 = .ok (.iload_n 3, 1) := by decide +kernel
theorem dJ5_append_c97b9_14 : decode cJ5_append_c97b9 14 = .ok (.invokevirtual 100, 3) := by decide +kernel
theorem dJ5_append_c97b9_17 : decode cJ5_append_c97b9 17 = .ok (.aload_n 0, 1) := by decide +kernel
theorem dJ5_append_c97b9_18 : decode cJ5_append_c97b9 18 = .ok (.invokevirtual 83, 3) := by decide +kernel
theorem dJ5_append_c97b9_21 : decode cJ5_append_c97b9 21 = .ok (.ifCond .eq 16, 3) := by decide +kernel
theorem dJ5_append_c97b9_24 : decode cJ5_append_c97b9 24 = .ok (.iload_n 1, 1) := by decide +kernel
theorem dJ5_append_c97b9_25 : decode cJ5_append_c97b9 25 = .ok (.iload_n 3, 1) := by decide +kernel
theorem dJ5_append_c97b9_26 : decode cJ5_append_c97b9 26 = .ok (.aload_n 0, 1) := by decide +kernel
theorem dJ5_append_c97b9_27 : decode cJ5_append_c97b9 27 = .ok (.getfield 15, 3) := by decide +kernel
theorem dJ5_append_c97b9_30 : decode cJ5_append_c97b9 30 = .ok (.invokestatic 248, 3) := by decide +kernel
theorem dJ5_append_c97b9_33 : decode cJ5_append_c97b9 33 = .ok (.pop, 1) := by decide +kernel
theorem dJ5_append_c97b9_34 : decode cJ5_append_c97b9 34 = .ok (.goto 14, 3) := by decide +kernel
theorem dJ5_append_c97b9_37 : decode cJ5_append_c97b9 37 = .ok (.iload_n 1, 1) := by decide +kernel
theorem dJ5_append_c97b9_38 : decode cJ5_append_c97b9 38 = .ok (.iload_n 2, 1) := by decide +kernel
theorem dJ5_append_c97b9_39 : decode cJ5_append_c97b9 39 = .ok (.iload_n 3, 1) := by decide +kernel
theorem dJ5_append_c97b9_40 : decode cJ5_append_c97b9 40 = .ok (.aload_n 0, 1) := by decide +kernel
theorem dJ5_append_c97b9_41 : decode cJ5_append_c97b9 41 = .ok (.getfield 15, 3) := by decide +kernel
theorem dJ5_append_c97b9_44 : decode cJ5_append_c97b9 44 = .ok (.invokestatic 251, 3) := by decide +kernel
theorem dJ5_append_c97b9_47 : decode cJ5_append_c97b9 47 = .ok (.pop, 1) := by decide +kernel
theorem dJ5_append_c97b9_48 : decode cJ5_append_c97b9 48 = .ok (.aload_n 0, 1) := by decide +kernel
theorem dJ5_append_c97b9_49 : decode cJ5_append_c97b9 49 = .ok (.iload_n 3, 1) := by decide +kernel
theorem dJ5_append_c97b9_50 : decode cJ5_append_c97b9 50 = .ok (.putfield 79, 3) := by decide +kernel
theorem dJ5_append_c97b9_53 : decode cJ5_append_c97b9 53 = .ok (.aload_n 0, 1) := by decide +kernel
theorem dJ5_append_c97b9_54 : decode cJ5_append_c97b9 54 = .ok (.areturn, 1) := by decide +kernel
theorem dJ4_append_bf812_0 : decode cJ4_append_bf812 0 = .ok (.aload_n 0, 1) := by decide +kernel
theorem dJ4_append_bf812_1 : decode cJ4_append_bf812 1 = .ok (.iload_n 1, 1) := by decide +kernel
theorem dJ4_append_bf812_2 : decode cJ4_append_bf812 2 = .ok (.invokespecial 53, 3) := by decide +kernel
theorem dJ4_append_bf812_5 : decode cJ4_append_bf812 5 = .ok (.pop, 1) := by decide +kernel
theorem dJ4_append_bf812_6 : decode cJ4_append_bf812 6 = .ok (.aload_n 0, 1) := by decide +kernel
theorem dJ4_append_bf812_7 : decode cJ4_append_bf812 7 = .ok (.areturn, 1) := by decide +kernel
theorem dJ5_setLength_d00df_0 : decode cJ5_setLength_d00df 0 = .ok (.iload_n 1, 1) := by decide +kernel
theorem dJ5_setLength_d00df_1 : decode cJ5_setLength_d00df 1 = .ok (.ifCond .ge 12, 3) := by decide +kernel
theorem dJ5_setLength_d00df_4 : decode cJ5_setLength_d00df 4 = .ok (.new 129, 3) := by decide +kernel
theorem dJ5_setLength_d00df_7 : decode cJ5_setLength_d00df 7 = .ok (.dup, 1) := by decide +kernel
theorem dJ5_setLength_d00df_8 : decode cJ5_setLength_d00df 8 = .ok (.iload_n 1, 1) := by decide +kernel
theorem dJ5_setLength_d00df_9 : decode cJ5_setLength_d00df 9 = .ok (.invokespecial 131, 3) := by decide +kernel
theorem dJ5_setLength_d00df_12 : decode cJ5_setLength_d00df 12 = .ok (.athrow, 1) := by decide +kernel
theorem dJ5_setLength_d00df_13 : decode cJ5_setLength_d00df 13 = .ok (.aload_n 0, 1) := by decide +kernel
theorem dJ5_setLength_d00df_14 : decode cJ5_setLength_d00df 14 = .ok (.iload_n 1, 1) := by decide +kernel
theorem dJ5_setLength_d00df_15 : decode cJ5_setLength_d00df 15 = .ok (.invokevirtual 100, 3) := by decide +kernel
theorem dJ5_setLength_d00df_18 : decode cJ5_setLength_d00df 18 = .ok (.aload_n 0, 1) := by decide +kernel
theorem dJ5_setLength_d00df_19 : decode cJ5_setLength_d00df 19 = .ok (.getfield 79, 3) := by decide +kernel
theorem dJ5_setLength_d00df_22 : decode cJ5_setLength_d00df 22 = .ok (.iload_n 1, 1) := by decide +kernel
theorem dJ5_setLength_d00df_23 : decode cJ5_setLength_d00df 23 = .ok (.if_icmp .ge 40, 3) := by decide +kernel
theorem dJ5_setLength_d00df_26 : decode cJ5_setLength_d00df 26 = .ok (.aload_n 0, 1) := by decide +kernel
theorem dJ5_setLength_d00df_27 : decode cJ5_setLength_d00df 27 = .ok (.invokevirtual 83, 3) := by decide +kernel
theorem dJ5_setLength_d00df_30 : decode cJ5_setLength_d00df 30 = .ok (.ifCond .eq 18, 3) := by decide +kernel
theorem dJ5_setLength_d00df_33 : decode cJ5_setLength_d00df 33 = .ok (.aload_n 0, 1) := by decide +kernel
theorem dJ5_setLength_d00df_34 : decode cJ5_setLength_d00df 34 = .ok (.getfield 15, 3) := by decide +kernel
theorem dJ5_setLength_d00df_37 : decode cJ5_setLength_d00df 37 = .ok (.aload_n 0, 1) := by decide +kernel
theorem dJ5_setLength_d00df_38 : decode cJ5_setLength_d00df 38 = .ok (.getfield 79, 3) := by decide +kernel
theorem dJ5_setLength_d00df_41 : decode cJ5_setLength_d00df 41 = .ok (.iload_n 1, 1) := by decide +kernel
theorem dJ5_setLength_d00df_42 : decode cJ5_setLength_d00df 42 = .ok (.invokestatic 133, 3) := by decide +kernel
theorem dJ5_setLength_d00df_45 : decode cJ5_setLength_d00df 45 = .ok (.goto 31, 3) := by decide +kernel
theorem dJ5_setLength_d00df_48 : decode cJ5_setLength_d00df 48 = .ok (.aload_n 0, 1) := by decide +kernel
theorem dJ5_setLength_d00df_49 : decode cJ5_setLength_d00df 49 = .ok (.getfield 15, 3) := by decide +kernel
theorem dJ5_setLength_d00df_52 : decode cJ5_setLength_d00df 52 = .ok (.aload_n 0, 1) := by decide +kernel
theorem dJ5_setLength_d00df_53 : decode cJ5_setLength_d00df 53 = .ok (.getfield 79, 3) := by decide +kernel
theorem dJ5_setLength_d00df_56 : decode cJ5_setLength_d00df 56 = .ok (.iload_n 1, 1) := by decide +kernel
theorem dJ5_setLength_d00df_57 : decode cJ5_setLength_d00df 57 = .ok (.invokestatic 137, 3) := by decide +kernel
theorem dJ5_setLength_d00df_60 : decode cJ5_setLength_d00df 60 = .ok (.goto 16, 3) := by decide +kernel
theorem dJ5_setLength_d00df_63 : decode cJ5_setLength_d00df 63 = .ok (.aload_n 0, 1) := by decide +kernel
theorem dJ5_setLength_d00df_64 : decode cJ5_setLength_d00df 64 = .ok (.getfield 79, 3) := by decide +kernel
theorem dJ5_setLength_d00df_67 : decode cJ5_setLength_d00df 67 = .ok (.iload_n 1, 1) := by decide +kernel
theorem dJ5_setLength_d00df_68 : decode cJ5_setLength_d00df 68 = .ok (.if_icmp .le 8, 3) := by decide +kernel
theorem dJ5_setLength_d00df_71 : decode cJ5_setLength_d00df 71 = .ok (.aload_n 0, 1) := by decide +kernel
theorem dJ5_setLength_d00df_72 : decode cJ5_setLength_d00df 72 = .ok (.iconst 1, 1) := by decide +kernel
theorem dJ5_setLength_d00df_73 : decode cJ5_setLength_d00df 73 = .ok (.putfield 73, 3) := by decide +kernel
theorem dJ5_setLength_d00df_76 : decode cJ5_setLength_d00df 76 = .ok (.aload_n 0, 1) := by decide +kernel
theorem dJ5_setLength_d00df_77 : decode cJ5_setLength_d00df 77 = .ok (.iload_n 1, 1) := by decide +kernel
theorem dJ5_setLength_d00df_78 : decode cJ5_setLength_d00df 78 = .ok (.putfield 79, 3) := by decide +kernel
theorem dJ5_setLength_d00df_81 : decode cJ5_setLength_d00df 81 = .ok (.return_, 1) := by decide +kernel
theorem dJ4_setLength_d00df_0 : decode cJ4_setLength_d00df 0 = .ok (.aload_n 0, 1) := by decide +kernel
theorem dJ4_setLength_d00df_1 : decode cJ4_setLength_d00df 1 = .ok (.iload_n 1, 1) := by decide +kernel
theorem dJ4_setLength_d00df_2 : decode cJ4_setLength_d00df 2 = .ok (.invokespecial 333, 3) := by decide +kernel
theorem dJ4_setLength_d00df_5 : decode cJ4_setLength_d00df 5 = .ok (.return_, 1) := by decide +kernel
theorem dJ5_charAt_5068e_0 : decode cJ5_charAt_5068e 0 = .ok (.aload_n 0, 1) := by decide +kernel
theorem dJ5_charAt_5068e_1 : decode cJ5_charAt_5068e 1 = .ok (.getfield 22, 3) := by decide +kernel
theorem dJ5_charAt_5068e_4 : decode cJ5_charAt_5068e 4 = .ok (.istore_n 2, 1) := by decide +kernel
theorem dJ5_charAt_5068e_5 : decode cJ5_charAt_5068e 5 = .ok (.aload_n 0, 1) := by decide +kernel
theorem dJ5_charAt_5068e_6 : decode cJ5_charAt_5068e 6 = .ok (.getfield 15, 3) := by decide +kernel
theorem dJ5_charAt_5068e_9 : decode cJ5_charAt_5068e 9 = .ok (.astore_n 3, 1) := by decide +kernel
theorem dJ5_charAt_5068e_10 : decode cJ5_charAt_5068e 10 = .ok (.aload_n 0, 1) := by decide +kernel
theorem dJ5_charAt_5068e_11 : decode cJ5_charAt_5068e 11 = .ok (.getfield 79, 3) := by decide +kernel
theorem dJ5_charAt_5068e_14 : decode cJ5_charAt_5068e 14 = .ok (.aload_n 3, 1) := by decide +kernel
theorem dJ5_charAt_5068e_15 : decode cJ5_charAt_5068e 15 = .ok (.arraylength, 1) := by decide +kernel
theorem dJ5_charAt_5068e_16 : decode cJ5_charAt_5068e 16 = .ok (.iload_n 2, 1) := by decide +kernel
theorem dJ5_charAt_5068e_17 : decode cJ5_charAt_5068e 17 = .ok (.ishr, 1) := by decide +kernel
theorem dJ5_charAt_5068e_18 : decode cJ5_charAt_5068e 18 = .ok (.invokestatic 138, 3) := by decide +kernel
theorem dJ5_charAt_5068e_21 : decode cJ5_charAt_5068e 21 = .ok (.istore 4, 2) := by decide +kernel
theorem dJ5_charAt_5068e_23 : decode cJ5_charAt_5068e 23 = .ok (.iload_n 1, 1) := by decide +kernel
theorem dJ5_charAt_5068e_24 : decode cJ5_charAt_5068e 24 = .ok (.iload 4, 2) := by decide +kernel
theorem dJ5_charAt_5068e_26 : decode cJ5_charAt_5068e 26 = .ok (.invokestatic 144, 3) := by decide +kernel
theorem dJ5_charAt_5068e_29 : decode cJ5_charAt_5068e 29 = .ok (.iload_n 2, 1) := by decide +kernel
theorem dJ5_charAt_5068e_30 : decode cJ5_charAt_5068e 30 = .ok (.ifCond .ne 12, 3) := by decide +kernel
theorem dJ5_charAt_5068e_33 : decode cJ5_charAt_5068e 33 = .ok (.aload_n 3, 1) := by decide +kernel
theorem dJ5_charAt_5068e_34 : decode cJ5_charAt_5068e 34 = .ok (.iload_n 1, 1) := by decide +kernel
theorem dJ5_charAt_5068e_35 : decode cJ5_charAt_5068e 35 = .ok (.baload, 1) := by decide +kernel
theorem dJ5_charAt_5068e_36 : decode cJ5_charAt_5068e 36 = .ok (.sipush 255, 3) := by decide +kernel
theorem dJ5_charAt_5068e_39 : decode cJ5_charAt_5068e 39 = .ok (.iand, 1) := by decide +kernel
theorem dJ5_charAt_5068e_40 : decode cJ5_charAt_5068e 40 = .ok (.i2c, 1) := by decide +kernel
theorem dJ5_charAt_5068e_41 : decode cJ5_charAt_5068e 41 = .ok (.ireturn, 1) := by decide +kernel
theorem dJ5_charAt_5068e_42 : decode cJ5_charAt_5068e 42 = .ok (.aload_n 3, 1) := by decide +kernel
theorem dJ5_charAt_5068e_43 : decode cJ5_charAt_5068e 43 = .ok (.iload_n 1, 1) := by decide +kernel
theorem dJ5_charAt_5068e_44 : decode cJ5_charAt_5068e 44 = .ok (.invokestatic 148, 3) := by decide +kernel
theorem dJ5_charAt_5068e_47 : decode cJ5_charAt_5068e 47 = .ok (.ireturn, 1) := by decide +kernel
theorem dJ4_charAt_5068e_0 : decode cJ4_charAt_5068e 0 = .ok (.aload_n 0, 1) := by decide +kernel
theorem dJ4_charAt_5068e_1 : decode cJ4_charAt_5068e 1 = .ok (.iload_n 1, 1) := by decide +kernel
theorem dJ4_charAt_5068e_2 : decode cJ4_charAt_5068e 2 = .ok (.invokespecial 329, 3) := by decide +kernel
theorem dJ4_charAt_5068e_5 : decode cJ4_charAt_5068e 5 = .ok (.ireturn, 1) := by decide +kernel
theorem dJ5_init_d00df_0 : decode cJ5_init_d00df 0 = .ok (.aload_n 0, 1) := by decide +kernel
theorem dJ5_init_d00df_1 : decode cJ5_init_d00df 1 = .ok (.invokespecial 3, 3) := by decide +kernel
theorem dJ5_init_d00df_4 : decode cJ5_init_d00df 4 = .ok (.getstatic 18, 3) := by decide +kernel
theorem dJ5_init_d00df_7 : decode cJ5_init_d00df 7 = .ok (.ifCond .eq 18, 3) := by decide +kernel
theorem dJ5_init_d00df_10 : decode cJ5_init_d00df 10 = .ok (.aload_n 0, 1) := by decide +kernel
theorem dJ5_init_d00df_11 : decode cJ5_init_d00df 11 = .ok (.iload_n 1, 1) := by decide +kernel
theorem dJ5_init_d00df_12 : decode cJ5_init_d00df 12 = .ok (.newarray .byte, 2) := by decide +kernel
theorem dJ5_init_d00df_14 : decode cJ5_init_d00df 14 = .ok (.putfield 15, 3) := by decide +kernel
theorem dJ5_init_d00df_17 : decode cJ5_init_d00df 17 = .ok (.aload_n 0, 1) := by decide +kernel
theorem dJ5_init_d00df_18 : decode cJ5_init_d00df 18 = .ok (.iconst 0, 1) := by decide +kernel
theorem dJ5_init_d00df_19 : decode cJ5_init_d00df 19 = .ok (.putfield 22, 3) := by decide +kernel
theorem dJ5_init_d00df_22 : decode cJ5_init_d00df 22 = .ok (.goto 16, 3) := by decide +kernel
theorem dJ5_init_d00df_25 : decode cJ5_init_d00df 25 = .ok (.aload_n 0, 1) := by decide +kernel
theorem dJ5_init_d00df_26 : decode cJ5_init_d00df 26 = .ok (.iload_n 1, 1) := by decide +kernel
theorem dJ5_init_d00df_27 : decode cJ5_init_d00df 27 = .ok (.invokestatic 26, 3) := by decide +kernel
theorem dJ5_init_d00df_30 : decode cJ5_init_d00df 30 = .ok (.putfield 15, 3) := by decide +kernel
theorem dJ5_init_d00df_33 : decode cJ5_init_d00df 33 = .ok (.aload_n 0, 1) := by decide +kernel
theorem dJ5_init_d00df_34 : decode cJ5_init_d00df 34 = .ok (.iconst 1, 1) := by decide +kernel
theorem dJ5_init_d00df_35 : decode cJ5_init_d00df 35 = .ok (.putfield 22, 3) := by decide +kernel
theorem dJ5_init_d00df_38 : decode cJ5_init_d00df 38 = .ok (.return_, 1) := by decide +kernel
theorem dJ4_init_da8c8_0 : decode cJ4_init_da8c8 0 = .ok (.aload_n 0, 1) := by decide +kernel
theorem dJ4_init_da8c8_1 : decode cJ4_init_da8c8 1 = .ok (.bipush 16, 2) := by decide +kernel
theorem dJ4_init_da8c8_3 : decode cJ4_init_da8c8 3 = .ok (.invokespecial 1, 3) := by decide +kernel
theorem dJ4_init_da8c8_6 : decode cJ4_init_da8c8 6 = .ok (.return_, 1) := by decide +kernel
set_option maxHeartbeats 4000000 in
set_option maxRecDepth 100000 in
theorem mJ6_stringSize_0f7a4 (l : Launch) (D : va_G) (cA : Nat → ClassId) (ad adF adW tt : Nat → Nat) (ST : gST) (hT : STE ad adF adW tt ST) (hW : STW adW tt ST) (hSP : STP ST) (v : Nat) (hv : v < 2 ^ 31) : gMetG l yJ6_stringSize_0f7a4 cJ6_stringSize_0f7a4 4 (some .int) 0 0 0 D (TYS cA) ST ([]) [.int (nI v)] (gGi D (TYS cA) (fun r (_ : Unit) => r = nI (sb_dg v)) (fun _ => [])) := by
  refine g_ofWG hT.1 (by decide +kernel) (Nat.le_of_ble_eq_true rfl) ?_
  intro p e s m args below meth c ls A G hP hD hl
  have G : GC p s m args meth c cJ6_stringSize_0f7a4 4 RJ6 (some .int) A D (TYS cA) ST := G
  have hx := G.1
  have hb := G.2.1
  have hS : va_S A s.heap s.heap [] := va_S.rf
  have hP : va_P D vwCl ([]) s.heap := hP
  have hD : va_D A ([]) := hD
  have hl : lv_has ls 4 [(0, .int (nI v))] := hl
  refine lv_iconst (v := 1) hx hb dJ6_stringSize_0f7a4_0 (by decide) ?_
  refine lv_istore_n (lv' := [(1, .int 1), (0, .int (nI v))]) hx hb dJ6_stringSize_0f7a4_1 rfl hl (by decide) rfl (fun ls hl => ?_)
  refine lv_iload_n hx hb dJ6_stringSize_0f7a4_2 rfl (lv_at hl 1 rfl) ?_
  refine lv_if_lt (tgt := 11) hx hb dJ6_stringSize_0f7a4_3 (by decide) (fun c9 => absurd c9 (nI_pos hv)) (fun c9 => ?_)
  refine lv_iconst (v := 0) hx hb dJ6_stringSize_0f7a4_6 (by decide) ?_
  refine lv_istore_n (lv' := [(1, .int 0), (0, .int (nI v))]) hx hb dJ6_stringSize_0f7a4_7 rfl hl (by decide) rfl (fun ls hl => ?_)
  refine lv_iload_n hx hb dJ6_stringSize_0f7a4_8 rfl (lv_at hl 1 rfl) ?_
  refine lv_ineg hx hb dJ6_stringSize_0f7a4_9 ?_
  rw [show -(nI v) = (-nI v) from rfl]
  refine lv_istore_n (lv' := [(0, .int (-nI v)), (1, .int 0)]) hx hb dJ6_stringSize_0f7a4_10 rfl hl (by decide) rfl (fun ls hl => ?_)
  refine lv_bipush (v := (-10)) hx hb dJ6_stringSize_0f7a4_11 (by decide) ?_
  refine lv_istore_n (lv' := [(2, .int (-10)), (0, .int (-nI v)), (1, .int 0)]) hx hb dJ6_stringSize_0f7a4_13 rfl hl (by decide) rfl (fun ls hl => ?_)
  refine lv_iconst (v := 1) hx hb dJ6_stringSize_0f7a4_14 (by decide) ?_
  refine lv_istore_n (lv' := [(3, .int 1), (2, .int (-10)), (0, .int (-nI v)), (1, .int 0)]) hx hb dJ6_stringSize_0f7a4_15 rfl hl (by decide) rfl (fun ls hl => ?_)
  refine lv_iload_n hx hb dJ6_stringSize_0f7a4_16 rfl (lv_at hl 0 rfl) ?_
  refine lv_bipush (v := 10) hx hb dJ6_stringSize_0f7a4_17 (by decide) ?_
  refine lv_icmp_ge (tgt := 42) hx hb dJ6_stringSize_0f7a4_19 (by decide) (fun c9 => absurd c9 (by decide)) (fun c9 => ?_)
  refine lv_iload_n hx hb dJ6_stringSize_0f7a4_22 rfl (lv_at hl 2 rfl) ?_
  refine lv_iload_n hx hb dJ6_stringSize_0f7a4_23 rfl (lv_at hl 1 rfl) ?_
  by_cases h1 : v < 10
  · skip
    refine lv_icmp_le (tgt := 31) hx hb dJ6_stringSize_0f7a4_24 (by decide) (fun c9 => absurd c9 (fun z => by have := (sb_nle hv (by decide)).mp (show -nI v ≤ -nI 10 from z); omega)) (fun c9 => ?_)
    refine lv_iload_n hx hb dJ6_stringSize_0f7a4_27 rfl (lv_at hl 0 rfl) ?_
    refine lv_iload_n hx hb dJ6_stringSize_0f7a4_28 rfl (lv_at hl 3 rfl) ?_
    refine lv_iadd hx hb dJ6_stringSize_0f7a4_29 ?_
    rw [show (1 : Int32) + 0 = (nI 1) from by decide]
    exact c_reti (()) (congrArg nI (show 1 = sb_dg v by unfold sb_dg; (repeat' split) <;> omega)) (rfl) G hP hD hS (by decide) dJ6_stringSize_0f7a4_30
  refine lv_icmp_le (tgt := 31) hx hb dJ6_stringSize_0f7a4_24 (by decide) (fun c9 => ?_) (fun c9 => absurd (show -nI v ≤ -nI 10 from (sb_nle hv (by decide)).mpr (by omega)) c9)
  refine lv_bipush (v := 10) hx hb dJ6_stringSize_0f7a4_31 (by decide) ?_
  refine lv_iload_n hx hb dJ6_stringSize_0f7a4_33 rfl (lv_at hl 1 rfl) ?_
  refine lv_imul hx hb dJ6_stringSize_0f7a4_34 ?_
  rw [show (10 : Int32) * (-10) = (-100) from by decide]
  refine lv_istore_n (lv' := [(2, .int (-100)), (3, .int 1), (0, .int (-nI v)), (1, .int 0)]) hx hb dJ6_stringSize_0f7a4_35 rfl hl (by decide) rfl (fun ls hl => ?_)
  refine lv_iinc (v := 2) (lv' := [(3, .int 2), (2, .int (-100)), (0, .int (-nI v)), (1, .int 0)]) hx hb dJ6_stringSize_0f7a4_36 hl (k := 1) rfl (by decide) (by decide) rfl (fun ls hl => ?_)
  refine lv_goto (tgt := 16) hx hb dJ6_stringSize_0f7a4_39 (by decide) ?_
  refine lv_iload_n hx hb dJ6_stringSize_0f7a4_16 rfl (lv_at hl 0 rfl) ?_
  refine lv_bipush (v := 10) hx hb dJ6_stringSize_0f7a4_17 (by decide) ?_
  refine lv_icmp_ge (tgt := 42) hx hb dJ6_stringSize_0f7a4_19 (by decide) (fun c9 => absurd c9 (by decide)) (fun c9 => ?_)
  refine lv_iload_n hx hb dJ6_stringSize_0f7a4_22 rfl (lv_at hl 2 rfl) ?_
  refine lv_iload_n hx hb dJ6_stringSize_0f7a4_23 rfl (lv_at hl 1 rfl) ?_
  by_cases h2 : v < 100
  · skip
    refine lv_icmp_le (tgt := 31) hx hb dJ6_stringSize_0f7a4_24 (by decide) (fun c9 => absurd c9 (fun z => by have := (sb_nle hv (by decide)).mp (show -nI v ≤ -nI 100 from z); omega)) (fun c9 => ?_)
    refine lv_iload_n hx hb dJ6_stringSize_0f7a4_27 rfl (lv_at hl 0 rfl) ?_
    refine lv_iload_n hx hb dJ6_stringSize_0f7a4_28 rfl (lv_at hl 3 rfl) ?_
    refine lv_iadd hx hb dJ6_stringSize_0f7a4_29 ?_
    rw [show (2 : Int32) + 0 = (nI 2) from by decide]
    exact c_reti (()) (congrArg nI (show 2 = sb_dg v by unfold sb_dg; (repeat' split) <;> omega)) (rfl) G hP hD hS (by decide) dJ6_stringSize_0f7a4_30
  refine lv_icmp_le (tgt := 31) hx hb dJ6_stringSize_0f7a4_24 (by decide) (fun c9 => ?_) (fun c9 => absurd (show -nI v ≤ -nI 100 from (sb_nle hv (by decide)).mpr (by omega)) c9)
  refine lv_bipush (v := 10) hx hb dJ6_stringSize_0f7a4_31 (by decide) ?_
  refine lv_iload_n hx hb dJ6_stringSize_0f7a4_33 rfl (lv_at hl 1 rfl) ?_
  refine lv_imul hx hb dJ6_stringSize_0f7a4_34 ?_
  rw [show (10 : Int32) * (-100) = (-1000) from by decide]
  refine lv_istore_n (lv' := [(2, .int (-1000)), (3, .int 2), (0, .int (-nI v)), (1, .int 0)]) hx hb dJ6_stringSize_0f7a4_35 rfl hl (by decide) rfl (fun ls hl => ?_)
  refine lv_iinc (v := 3) (lv' := [(3, .int 3), (2, .int (-1000)), (0, .int (-nI v)), (1, .int 0)]) hx hb dJ6_stringSize_0f7a4_36 hl (k := 1) rfl (by decide) (by decide) rfl (fun ls hl => ?_)
  refine lv_goto (tgt := 16) hx hb dJ6_stringSize_0f7a4_39 (by decide) ?_
  refine lv_iload_n hx hb dJ6_stringSize_0f7a4_16 rfl (lv_at hl 0 rfl) ?_
  refine lv_bipush (v := 10) hx hb dJ6_stringSize_0f7a4_17 (by decide) ?_
  refine lv_icmp_ge (tgt := 42) hx hb dJ6_stringSize_0f7a4_19 (by decide) (fun c9 => absurd c9 (by decide)) (fun c9 => ?_)
  refine lv_iload_n hx hb dJ6_stringSize_0f7a4_22 rfl (lv_at hl 2 rfl) ?_
  refine lv_iload_n hx hb dJ6_stringSize_0f7a4_23 rfl (lv_at hl 1 rfl) ?_
  by_cases h3 : v < 1000
  · skip
    refine lv_icmp_le (tgt := 31) hx hb dJ6_stringSize_0f7a4_24 (by decide) (fun c9 => absurd c9 (fun z => by have := (sb_nle hv (by decide)).mp (show -nI v ≤ -nI 1000 from z); omega)) (fun c9 => ?_)
    refine lv_iload_n hx hb dJ6_stringSize_0f7a4_27 rfl (lv_at hl 0 rfl) ?_
    refine lv_iload_n hx hb dJ6_stringSize_0f7a4_28 rfl (lv_at hl 3 rfl) ?_
    refine lv_iadd hx hb dJ6_stringSize_0f7a4_29 ?_
    rw [show (3 : Int32) + 0 = (nI 3) from by decide]
    exact c_reti (()) (congrArg nI (show 3 = sb_dg v by unfold sb_dg; (repeat' split) <;> omega)) (rfl) G hP hD hS (by decide) dJ6_stringSize_0f7a4_30
  refine lv_icmp_le (tgt := 31) hx hb dJ6_stringSize_0f7a4_24 (by decide) (fun c9 => ?_) (fun c9 => absurd (show -nI v ≤ -nI 1000 from (sb_nle hv (by decide)).mpr (by omega)) c9)
  refine lv_bipush (v := 10) hx hb dJ6_stringSize_0f7a4_31 (by decide) ?_
  refine lv_iload_n hx hb dJ6_stringSize_0f7a4_33 rfl (lv_at hl 1 rfl) ?_
  refine lv_imul hx hb dJ6_stringSize_0f7a4_34 ?_
  rw [show (10 : Int32) * (-1000) = (-10000) from by decide]
  refine lv_istore_n (lv' := [(2, .int (-10000)), (3, .int 3), (0, .int (-nI v)), (1, .int 0)]) hx hb dJ6_stringSize_0f7a4_35 rfl hl (by decide) rfl (fun ls hl => ?_)
  refine lv_iinc (v := 4) (lv' := [(3, .int 4), (2, .int (-10000)), (0, .int (-nI v)), (1, .int 0)]) hx hb dJ6_stringSize_0f7a4_36 hl (k := 1) rfl (by decide) (by decide) rfl (fun ls hl => ?_)
  refine lv_goto (tgt := 16) hx hb dJ6_stringSize_0f7a4_39 (by decide) ?_
  refine lv_iload_n hx hb dJ6_stringSize_0f7a4_16 rfl (lv_at hl 0 rfl) ?_
  refine lv_bipush (v := 10) hx hb dJ6_stringSize_0f7a4_17 (by decide) ?_
  refine lv_icmp_ge (tgt := 42) hx hb dJ6_stringSize_0f7a4_19 (by decide) (fun c9 => absurd c9 (by decide)) (fun c9 => ?_)
  refine lv_iload_n hx hb dJ6_stringSize_0f7a4_22 rfl (lv_at hl 2 rfl) ?_
  refine lv_iload_n hx hb dJ6_stringSize_0f7a4_23 rfl (lv_at hl 1 rfl) ?_
  by_cases h4 : v < 10000
  · skip
    refine lv_icmp_le (tgt := 31) hx hb dJ6_stringSize_0f7a4_24 (by decide) (fun c9 => absurd c9 (fun z => by have := (sb_nle hv (by decide)).mp (show -nI v ≤ -nI 10000 from z); omega)) (fun c9 => ?_)
    refine lv_iload_n hx hb dJ6_stringSize_0f7a4_27 rfl (lv_at hl 0 rfl) ?_
    refine lv_iload_n hx hb dJ6_stringSize_0f7a4_28 rfl (lv_at hl 3 rfl) ?_
    refine lv_iadd hx hb dJ6_stringSize_0f7a4_29 ?_
    rw [show (4 : Int32) + 0 = (nI 4) from by decide]
    exact c_reti (()) (congrArg nI (show 4 = sb_dg v by unfold sb_dg; (repeat' split) <;> omega)) (rfl) G hP hD hS (by decide) dJ6_stringSize_0f7a4_30
  refine lv_icmp_le (tgt := 31) hx hb dJ6_stringSize_0f7a4_24 (by decide) (fun c9 => ?_) (fun c9 => absurd (show -nI v ≤ -nI 10000 from (sb_nle hv (by decide)).mpr (by omega)) c9)
  refine lv_bipush (v := 10) hx hb dJ6_stringSize_0f7a4_31 (by decide) ?_
  refine lv_iload_n hx hb dJ6_stringSize_0f7a4_33 rfl (lv_at hl 1 rfl) ?_
  refine lv_imul hx hb dJ6_stringSize_0f7a4_34 ?_
  rw [show (10 : Int32) * (-10000) = (-100000) from by decide]
  refine lv_istore_n (lv' := [(2, .int (-100000)), (3, .int 4), (0, .int (-nI v)), (1, .int 0)]) hx hb dJ6_stringSize_0f7a4_35 rfl hl (by decide) rfl (fun ls hl => ?_)
  refine lv_iinc (v := 5) (lv' := [(3, .int 5), (2, .int (-100000)), (0, .int (-nI v)), (1, .int 0)]) hx hb dJ6_stringSize_0f7a4_36 hl (k := 1) rfl (by decide) (by decide) rfl (fun ls hl => ?_)
  refine lv_goto (tgt := 16) hx hb dJ6_stringSize_0f7a4_39 (by decide) ?_
  refine lv_iload_n hx hb dJ6_stringSize_0f7a4_16 rfl (lv_at hl 0 rfl) ?_
  refine lv_bipush (v := 10) hx hb dJ6_stringSize_0f7a4_17 (by decide) ?_
  refine lv_icmp_ge (tgt := 42) hx hb dJ6_stringSize_0f7a4_19 (by decide) (fun c9 => absurd c9 (by decide)) (fun c9 => ?_)
  refine lv_iload_n hx hb dJ6_stringSize_0f7a4_22 rfl (lv_at hl 2 rfl) ?_
  refine lv_iload_n hx hb dJ6_stringSize_0f7a4_23 rfl (lv_at hl 1 rfl) ?_
  by_cases h5 : v < 100000
  · skip
    refine lv_icmp_le (tgt := 31) hx hb dJ6_stringSize_0f7a4_24 (by decide) (fun c9 => absurd c9 (fun z => by have := (sb_nle hv (by decide)).mp (show -nI v ≤ -nI 100000 from z); omega)) (fun c9 => ?_)
    refine lv_iload_n hx hb dJ6_stringSize_0f7a4_27 rfl (lv_at hl 0 rfl) ?_
    refine lv_iload_n hx hb dJ6_stringSize_0f7a4_28 rfl (lv_at hl 3 rfl) ?_
    refine lv_iadd hx hb dJ6_stringSize_0f7a4_29 ?_
    rw [show (5 : Int32) + 0 = (nI 5) from by decide]
    exact c_reti (()) (congrArg nI (show 5 = sb_dg v by unfold sb_dg; (repeat' split) <;> omega)) (rfl) G hP hD hS (by decide) dJ6_stringSize_0f7a4_30
  refine lv_icmp_le (tgt := 31) hx hb dJ6_stringSize_0f7a4_24 (by decide) (fun c9 => ?_) (fun c9 => absurd (show -nI v ≤ -nI 100000 from (sb_nle hv (by decide)).mpr (by omega)) c9)
  refine lv_bipush (v := 10) hx hb dJ6_stringSize_0f7a4_31 (by decide) ?_
  refine lv_iload_n hx hb dJ6_stringSize_0f7a4_33 rfl (lv_at hl 1 rfl) ?_
  refine lv_imul hx hb dJ6_stringSize_0f7a4_34 ?_
  rw [show (10 : Int32) * (-100000) = (-1000000) from by decide]
  refine lv_istore_n (lv' := [(2, .int (-1000000)), (3, .int 5), (0, .int (-nI v)), (1, .int 0)]) hx hb dJ6_stringSize_0f7a4_35 rfl hl (by decide) rfl (fun ls hl => ?_)
  refine lv_iinc (v := 6) (lv' := [(3, .int 6), (2, .int (-1000000)), (0, .int (-nI v)), (1, .int 0)]) hx hb dJ6_stringSize_0f7a4_36 hl (k := 1) rfl (by decide) (by decide) rfl (fun ls hl => ?_)
  refine lv_goto (tgt := 16) hx hb dJ6_stringSize_0f7a4_39 (by decide) ?_
  refine lv_iload_n hx hb dJ6_stringSize_0f7a4_16 rfl (lv_at hl 0 rfl) ?_
  refine lv_bipush (v := 10) hx hb dJ6_stringSize_0f7a4_17 (by decide) ?_
  refine lv_icmp_ge (tgt := 42) hx hb dJ6_stringSize_0f7a4_19 (by decide) (fun c9 => absurd c9 (by decide)) (fun c9 => ?_)
  refine lv_iload_n hx hb dJ6_stringSize_0f7a4_22 rfl (lv_at hl 2 rfl) ?_
  refine lv_iload_n hx hb dJ6_stringSize_0f7a4_23 rfl (lv_at hl 1 rfl) ?_
  by_cases h6 : v < 1000000
  · skip
    refine lv_icmp_le (tgt := 31) hx hb dJ6_stringSize_0f7a4_24 (by decide) (fun c9 => absurd c9 (fun z => by have := (sb_nle hv (by decide)).mp (show -nI v ≤ -nI 1000000 from z); omega)) (fun c9 => ?_)
    refine lv_iload_n hx hb dJ6_stringSize_0f7a4_27 rfl (lv_at hl 0 rfl) ?_
    refine lv_iload_n hx hb dJ6_stringSize_0f7a4_28 rfl (lv_at hl 3 rfl) ?_
    refine lv_iadd hx hb dJ6_stringSize_0f7a4_29 ?_
    rw [show (6 : Int32) + 0 = (nI 6) from by decide]
    exact c_reti (()) (congrArg nI (show 6 = sb_dg v by unfold sb_dg; (repeat' split) <;> omega)) (rfl) G hP hD hS (by decide) dJ6_stringSize_0f7a4_30
  refine lv_icmp_le (tgt := 31) hx hb dJ6_stringSize_0f7a4_24 (by decide) (fun c9 => ?_) (fun c9 => absurd (show -nI v ≤ -nI 1000000 from (sb_nle hv (by decide)).mpr (by omega)) c9)
  refine lv_bipush (v := 10) hx hb dJ6_stringSize_0f7a4_31 (by decide) ?_
  refine lv_iload_n hx hb dJ6_stringSize_0f7a4_33 rfl (lv_at hl 1 rfl) ?_
  refine lv_imul hx hb dJ6_stringSize_0f7a4_34 ?_
  rw [show (10 : Int32) * (-1000000) = (-10000000) from by decide]
  refine lv_istore_n (lv' := [(2, .int (-10000000)), (3, .int 6), (0, .int (-nI v)), (1, .int 0)]) hx hb dJ6_stringSize_0f7a4_35 rfl hl (by decide) rfl (fun ls hl => ?_)
  refine lv_iinc (v := 7) (lv' := [(3, .int 7), (2, .int (-10000000)), (0, .int (-nI v)), (1, .int 0)]) hx hb dJ6_stringSize_0f7a4_36 hl (k := 1) rfl (by decide) (by decide) rfl (fun ls hl => ?_)
  refine lv_goto (tgt := 16) hx hb dJ6_stringSize_0f7a4_39 (by decide) ?_
  refine lv_iload_n hx hb dJ6_stringSize_0f7a4_16 rfl (lv_at hl 0 rfl) ?_
  refine lv_bipush (v := 10) hx hb dJ6_stringSize_0f7a4_17 (by decide) ?_
  refine lv_icmp_ge (tgt := 42) hx hb dJ6_stringSize_0f7a4_19 (by decide) (fun c9 => absurd c9 (by decide)) (fun c9 => ?_)
  refine lv_iload_n hx hb dJ6_stringSize_0f7a4_22 rfl (lv_at hl 2 rfl) ?_
  refine lv_iload_n hx hb dJ6_stringSize_0f7a4_23 rfl (lv_at hl 1 rfl) ?_
  by_cases h7 : v < 10000000
  · skip
    refine lv_icmp_le (tgt := 31) hx hb dJ6_stringSize_0f7a4_24 (by decide) (fun c9 => absurd c9 (fun z => by have := (sb_nle hv (by decide)).mp (show -nI v ≤ -nI 10000000 from z); omega)) (fun c9 => ?_)
    refine lv_iload_n hx hb dJ6_stringSize_0f7a4_27 rfl (lv_at hl 0 rfl) ?_
    refine lv_iload_n hx hb dJ6_stringSize_0f7a4_28 rfl (lv_at hl 3 rfl) ?_
    refine lv_iadd hx hb dJ6_stringSize_0f7a4_29 ?_
    rw [show (7 : Int32) + 0 = (nI 7) from by decide]
    exact c_reti (()) (congrArg nI (show 7 = sb_dg v by unfold sb_dg; (repeat' split) <;> omega)) (rfl) G hP hD hS (by decide) dJ6_stringSize_0f7a4_30
  refine lv_icmp_le (tgt := 31) hx hb dJ6_stringSize_0f7a4_24 (by decide) (fun c9 => ?_) (fun c9 => absurd (show -nI v ≤ -nI 10000000 from (sb_nle hv (by decide)).mpr (by omega)) c9)
  refine lv_bipush (v := 10) hx hb dJ6_stringSize_0f7a4_31 (by decide) ?_
  refine lv_iload_n hx hb dJ6_stringSize_0f7a4_33 rfl (lv_at hl 1 rfl) ?_
  refine lv_imul hx hb dJ6_stringSize_0f7a4_34 ?_
  rw [show (10 : Int32) * (-10000000) = (-100000000) from by decide]
  refine lv_istore_n (lv' := [(2, .int (-100000000)), (3, .int 7), (0, .int (-nI v)), (1, .int 0)]) hx hb dJ6_stringSize_0f7a4_35 rfl hl (by decide) rfl (fun ls hl => ?_)
  refine lv_iinc (v := 8) (lv' := [(3, .int 8), (2, .int (-100000000)), (0, .int (-nI v)), (1, .int 0)]) hx hb dJ6_stringSize_0f7a4_36 hl (k := 1) rfl (by decide) (by decide) rfl (fun ls hl => ?_)
  refine lv_goto (tgt := 16) hx hb dJ6_stringSize_0f7a4_39 (by decide) ?_
  refine lv_iload_n hx hb dJ6_stringSize_0f7a4_16 rfl (lv_at hl 0 rfl) ?_
  refine lv_bipush (v := 10) hx hb dJ6_stringSize_0f7a4_17 (by decide) ?_
  refine lv_icmp_ge (tgt := 42) hx hb dJ6_stringSize_0f7a4_19 (by decide) (fun c9 => absurd c9 (by decide)) (fun c9 => ?_)
  refine lv_iload_n hx hb dJ6_stringSize_0f7a4_22 rfl (lv_at hl 2 rfl) ?_
  refine lv_iload_n hx hb dJ6_stringSize_0f7a4_23 rfl (lv_at hl 1 rfl) ?_
  by_cases h8 : v < 100000000
  · skip
    refine lv_icmp_le (tgt := 31) hx hb dJ6_stringSize_0f7a4_24 (by decide) (fun c9 => absurd c9 (fun z => by have := (sb_nle hv (by decide)).mp (show -nI v ≤ -nI 100000000 from z); omega)) (fun c9 => ?_)
    refine lv_iload_n hx hb dJ6_stringSize_0f7a4_27 rfl (lv_at hl 0 rfl) ?_
    refine lv_iload_n hx hb dJ6_stringSize_0f7a4_28 rfl (lv_at hl 3 rfl) ?_
    refine lv_iadd hx hb dJ6_stringSize_0f7a4_29 ?_
    rw [show (8 : Int32) + 0 = (nI 8) from by decide]
    exact c_reti (()) (congrArg nI (show 8 = sb_dg v by unfold sb_dg; (repeat' split) <;> omega)) (rfl) G hP hD hS (by decide) dJ6_stringSize_0f7a4_30
  refine lv_icmp_le (tgt := 31) hx hb dJ6_stringSize_0f7a4_24 (by decide) (fun c9 => ?_) (fun c9 => absurd (show -nI v ≤ -nI 100000000 from (sb_nle hv (by decide)).mpr (by omega)) c9)
  refine lv_bipush (v := 10) hx hb dJ6_stringSize_0f7a4_31 (by decide) ?_
  refine lv_iload_n hx hb dJ6_stringSize_0f7a4_33 rfl (lv_at hl 1 rfl) ?_
  refine lv_imul hx hb dJ6_stringSize_0f7a4_34 ?_
  rw [show (10 : Int32) * (-100000000) = (-1000000000) from by decide]
  refine lv_istore_n (lv' := [(2, .int (-1000000000)), (3, .int 8), (0, .int (-nI v)), (1, .int 0)]) hx hb dJ6_stringSize_0f7a4_35 rfl hl (by decide) rfl (fun ls hl => ?_)
  refine lv_iinc (v := 9) (lv' := [(3, .int 9), (2, .int (-1000000000)), (0, .int (-nI v)), (1, .int 0)]) hx hb dJ6_stringSize_0f7a4_36 hl (k := 1) rfl (by decide) (by decide) rfl (fun ls hl => ?_)
  refine lv_goto (tgt := 16) hx hb dJ6_stringSize_0f7a4_39 (by decide) ?_
  refine lv_iload_n hx hb dJ6_stringSize_0f7a4_16 rfl (lv_at hl 0 rfl) ?_
  refine lv_bipush (v := 10) hx hb dJ6_stringSize_0f7a4_17 (by decide) ?_
  refine lv_icmp_ge (tgt := 42) hx hb dJ6_stringSize_0f7a4_19 (by decide) (fun c9 => absurd c9 (by decide)) (fun c9 => ?_)
  refine lv_iload_n hx hb dJ6_stringSize_0f7a4_22 rfl (lv_at hl 2 rfl) ?_
  refine lv_iload_n hx hb dJ6_stringSize_0f7a4_23 rfl (lv_at hl 1 rfl) ?_
  by_cases h9 : v < 1000000000
  · skip
    refine lv_icmp_le (tgt := 31) hx hb dJ6_stringSize_0f7a4_24 (by decide) (fun c9 => absurd c9 (fun z => by have := (sb_nle hv (by decide)).mp (show -nI v ≤ -nI 1000000000 from z); omega)) (fun c9 => ?_)
    refine lv_iload_n hx hb dJ6_stringSize_0f7a4_27 rfl (lv_at hl 0 rfl) ?_
    refine lv_iload_n hx hb dJ6_stringSize_0f7a4_28 rfl (lv_at hl 3 rfl) ?_
    refine lv_iadd hx hb dJ6_stringSize_0f7a4_29 ?_
    rw [show (9 : Int32) + 0 = (nI 9) from by decide]
    exact c_reti (()) (congrArg nI (show 9 = sb_dg v by unfold sb_dg; (repeat' split) <;> omega)) (rfl) G hP hD hS (by decide) dJ6_stringSize_0f7a4_30
  refine lv_icmp_le (tgt := 31) hx hb dJ6_stringSize_0f7a4_24 (by decide) (fun c9 => ?_) (fun c9 => absurd (show -nI v ≤ -nI 1000000000 from (sb_nle hv (by decide)).mpr (by omega)) c9)
  refine lv_bipush (v := 10) hx hb dJ6_stringSize_0f7a4_31 (by decide) ?_
  refine lv_iload_n hx hb dJ6_stringSize_0f7a4_33 rfl (lv_at hl 1 rfl) ?_
  refine lv_imul hx hb dJ6_stringSize_0f7a4_34 ?_
  rw [show (10 : Int32) * (-1000000000) = (-1410065408) from by decide]
  refine lv_istore_n (lv' := [(2, .int (-1410065408)), (3, .int 9), (0, .int (-nI v)), (1, .int 0)]) hx hb dJ6_stringSize_0f7a4_35 rfl hl (by decide) rfl (fun ls hl => ?_)
  refine lv_iinc (v := 10) (lv' := [(3, .int 10), (2, .int (-1410065408)), (0, .int (-nI v)), (1, .int 0)]) hx hb dJ6_stringSize_0f7a4_36 hl (k := 1) rfl (by decide) (by decide) rfl (fun ls hl => ?_)
  refine lv_goto (tgt := 16) hx hb dJ6_stringSize_0f7a4_39 (by decide) ?_
  refine lv_iload_n hx hb dJ6_stringSize_0f7a4_16 rfl (lv_at hl 0 rfl) ?_
  refine lv_bipush (v := 10) hx hb dJ6_stringSize_0f7a4_17 (by decide) ?_
  refine lv_icmp_ge (tgt := 42) hx hb dJ6_stringSize_0f7a4_19 (by decide) (fun c9 => ?_) (fun c9 => absurd (by decide) c9)
  refine lv_bipush (v := 10) hx hb dJ6_stringSize_0f7a4_42 (by decide) ?_
  refine lv_iload_n hx hb dJ6_stringSize_0f7a4_44 rfl (lv_at hl 3 rfl) ?_
  refine lv_iadd hx hb dJ6_stringSize_0f7a4_45 ?_
  rw [show (10 : Int32) + 0 = (nI 10) from by decide]
  exact c_reti (()) (congrArg nI (show 10 = sb_dg v by unfold sb_dg; (repeat' split) <;> omega)) (rfl) G hP hD hS (by decide) dJ6_stringSize_0f7a4_46
set_option maxHeartbeats 4000000 in
set_option maxRecDepth 100000 in
theorem mJ1_canEncode_fc78d (l : Launch) (D : va_G) (cA : Nat → ClassId) (ad adF adW tt : Nat → Nat) (ST : gST) (hT : STE ad adF adW tt ST) (hW : STW adW tt ST) (hSP : STP ST) (v : Nat) (hv : v < 256) : gMetG l yJ1_canEncode_fc78d cJ1_canEncode_fc78d 1 (some .boolean) 0 0 0 D (TYS cA) ST ([]) [.int (nI v)] (gGi D (TYS cA) (fun r (_ : Unit) => r = 1) (fun _ => [])) := by
  refine g_ofWG hT.1 (by decide +kernel) (Nat.le_of_ble_eq_true rfl) ?_
  intro p e s m args below meth c ls A G hP hD hl
  have G : GC p s m args meth c cJ1_canEncode_fc78d 1 RJ1 (some .boolean) A D (TYS cA) ST := G
  have hx := G.1
  have hb := G.2.1
  have hS : va_S A s.heap s.heap [] := va_S.rf
  have hP : va_P D vwCl ([]) s.heap := hP
  have hD : va_D A ([]) := hD
  have hl : lv_has ls 1 [(0, .int (nI v))] := hl
  refine lv_iload_n hx hb dJ1_canEncode_fc78d_0 rfl (lv_at hl 0 rfl) ?_
  refine lv_sipush (v := 255) hx hb dJ1_canEncode_fc78d_1 (by decide) ?_
  refine lv_icmp_gt (tgt := 11) hx hb dJ1_canEncode_fc78d_4 (by decide) (fun c9 => absurd c9 (show ¬ nI 255 < nI v from nI_nlt (by omega) (by omega))) (fun c9 => ?_)
  refine lv_iconst (v := 1) hx hb dJ1_canEncode_fc78d_7 (by decide) ?_
  refine lv_goto (tgt := 12) hx hb dJ1_canEncode_fc78d_8 (by decide) ?_
  exact c_reti (()) (rfl) (rfl) G hP hD hS (by decide) dJ1_canEncode_fc78d_12
set_option maxHeartbeats 4000000 in
set_option maxRecDepth 100000 in
theorem mJ5_isLatin1_aae02 (l : Launch) (D : va_G) (cA : Nat → ClassId) (ad adF adW tt : Nat → Nat) (ST : gST) (hT : STE ad adF adW tt ST) (hW : STW adW tt ST) (hSP : STP ST) (z n : Nat) (b : SBb) : gMetG l yJ5_isLatin1_aae02 cJ5_isLatin1_aae02 1 (some .boolean) 0 0 0 D (TYS cA) ST (sbC cA z n b) [.ref z] (gGi D (TYS cA) (fun r (_ : Unit) => r = 1) (fun _ => sbC cA z n b)) := by
  refine g_ofWG hT.1 (by decide +kernel) (Nat.le_of_ble_eq_true rfl) ?_
  intro p e s m args below meth c ls A G hP hD hl
  have G : GC p s m args meth c cJ5_isLatin1_aae02 1 RJ5 (some .boolean) A D (TYS cA) ST := G
  have hx := G.1
  have hb := G.2.1
  have hS : va_S A s.heap s.heap [] := va_S.rf
  have hP : va_P D vwCl ([(z, .inr (1, [.ref b.1, .int 0, .int b.2.2.1, .int (nI n)])), (b.1, .inl (cA 5, b.2.1, .inl b.2.2.2))]) s.heap := hP
  have hD : va_D A ([(z, .inr (1, [.ref b.1, .int 0, .int b.2.2.1, .int (nI n)])), (b.1, .inl (cA 5, b.2.1, .inl b.2.2.2))]) := hD
  have hl : lv_has ls 1 [(0, .ref z)] := hl
  refine va_gets hx hb (hW _ _ G.2.2.2.2.2.2.2.2.2.2.1).1 hS G.2.2.2.1 (G.2.2.2.2.1 _ q2_26) (fun _ h9 => h9) dJ5_isLatin1_aae02_0 ?_
  refine lv_if_eq (tgt := 17) hx hb dJ5_isLatin1_aae02_3 (by decide) (fun c9 => absurd c9 (by decide)) (fun c9 => ?_)
  refine lv_aload_n hx hb dJ5_isLatin1_aae02_6 rfl (lv_at hl 0 rfl) ?_
  refine c_get (F := [(z, .inr (1, [.ref b.1, .int 0, .int b.2.2.1, .int (nI n)])), (b.1, .inl (cA 5, b.2.1, .inl b.2.2.2))]) (B := []) (C := RJ4) (T := TJ4) (M := 4) (ci := 1) G hP 0 1 i_J4 rfl rfl (by decide) q2_36 rfl dJ5_isLatin1_aae02_7 ?_
  refine lv_if_ne (tgt := 17) hx hb dJ5_isLatin1_aae02_10 (by decide) (fun c9 => absurd (rfl) c9) (fun c9 => ?_)
  refine lv_iconst (v := 1) hx hb dJ5_isLatin1_aae02_13 (by decide) ?_
  refine lv_goto (tgt := 18) hx hb dJ5_isLatin1_aae02_14 (by decide) ?_
  exact c_reti (()) (rfl) (rfl) G hP hD hS (by decide) dJ5_isLatin1_aae02_18
set_option maxHeartbeats 4000000 in
set_option maxRecDepth 100000 in
theorem mJ5_length_8abf5 (l : Launch) (D : va_G) (cA : Nat → ClassId) (ad adF adW tt : Nat → Nat) (ST : gST) (hT : STE ad adF adW tt ST) (hW : STW adW tt ST) (hSP : STP ST) (z n : Nat) (b : SBb) : gMetG l yJ5_length_8abf5 cJ5_length_8abf5 1 (some .int) 0 0 0 D (TYS cA) ST (sbC cA z n b) [.ref z] (gGi D (TYS cA) (fun r (_ : Unit) => r = nI n) (fun _ => sbC cA z n b)) := by
  refine g_ofWG hT.1 (by decide +kernel) (Nat.le_of_ble_eq_true rfl) ?_
  intro p e s m args below meth c ls A G hP hD hl
  have G : GC p s m args meth c cJ5_length_8abf5 1 RJ5 (some .int) A D (TYS cA) ST := G
  have hx := G.1
  have hb := G.2.1
  have hS : va_S A s.heap s.heap [] := va_S.rf
  have hP : va_P D vwCl ([(z, .inr (1, [.ref b.1, .int 0, .int b.2.2.1, .int (nI n)])), (b.1, .inl (cA 5, b.2.1, .inl b.2.2.2))]) s.heap := hP
  have hD : va_D A ([(z, .inr (1, [.ref b.1, .int 0, .int b.2.2.1, .int (nI n)])), (b.1, .inl (cA 5, b.2.1, .inl b.2.2.2))]) := hD
  have hl : lv_has ls 1 [(0, .ref z)] := hl
  refine lv_aload_n hx hb dJ5_length_8abf5_0 rfl (lv_at hl 0 rfl) ?_
  refine c_get (F := [(z, .inr (1, [.ref b.1, .int 0, .int b.2.2.1, .int (nI n)])), (b.1, .inl (cA 5, b.2.1, .inl b.2.2.2))]) (B := []) (C := RJ4) (T := TJ4) (M := 4) (ci := 1) G hP 0 3 i_J4 rfl rfl (by decide) q2_39 rfl dJ5_length_8abf5_1 ?_
  exact c_reti (()) (rfl) (rfl) G hP hD hS (by decide) dJ5_length_8abf5_4
set_option maxHeartbeats 4000000 in
set_option maxRecDepth 100000 in
theorem mJ4_length_8abf5 (l : Launch) (D : va_G) (cA : Nat → ClassId) (ad adF adW tt : Nat → Nat) (ST : gST) (hT : STE ad adF adW tt ST) (hW : STW adW tt ST) (hSP : STP ST) (z n : Nat) (b : SBb) : gMetG l yJ4_length_8abf5 cJ4_length_8abf5 1 (some .int) 1 0 0 D (TYS cA) ST (sbC cA z n b) [.ref z] (gGi D (TYS cA) (fun r (_ : Unit) => r = nI n) (fun _ => sbC cA z n b)) := by
  refine g_ofWG hT.1 (by decide +kernel) (Nat.le_of_ble_eq_true rfl) ?_
  intro p e s m args below meth c ls A G hP hD hl
  have G : GC p s m args meth c cJ4_length_8abf5 1 RJ4 (some .int) A D (TYS cA) ST := G
  have hx := G.1
  have hb := G.2.1
  have hS : va_S A s.heap s.heap [] := va_S.rf
  have hP : va_P D vwCl ([(z, .inr (1, [.ref b.1, .int 0, .int b.2.2.1, .int (nI n)])), (b.1, .inl (cA 5, b.2.1, .inl b.2.2.2))]) s.heap := hP
  have hD : va_D A ([(z, .inr (1, [.ref b.1, .int 0, .int b.2.2.1, .int (nI n)])), (b.1, .inl (cA 5, b.2.1, .inl b.2.2.2))]) := hD
  have hl : lv_has ls 1 [(0, .ref z)] := hl
  refine lv_aload_n hx hb dJ4_length_8abf5_0 rfl (lv_at hl 0 rfl) ?_
  refine c_callSUi (nA := 0) (C := RJ4) (T := TJ4) (M := 4) (ci := 1) ([]) (sbC cA z n b) 0 rfl rfl (mJ5_length_8abf5 l D cA ad adF adW tt ST hT hW hSP z n b) G hP hD hS (List.Perm.of_eq rfl) (g_goodSU q3_209 q3_205 q2_48 q3_204 q1_12 q3_210) (by decide +kernel) (by decide) rfl hl.1 [] rfl (Nat.le_of_ble_eq_true rfl) dJ4_length_8abf5_1 (fun r b9 H locs hok hP hD hS => ?_)
  have hP : va_P D vwCl ([(z, .inr (1, [.ref b.1, .int 0, .int b.2.2.1, .int (nI n)])), (b.1, .inl (cA 5, b.2.1, .inl b.2.2.2))]) H := hP
  have hD : va_D A ([(z, .inr (1, [.ref b.1, .int 0, .int b.2.2.1, .int (nI n)])), (b.1, .inl (cA 5, b.2.1, .inl b.2.2.2))]) := hD
  subst hok
  exact c_reti (()) (rfl) (rfl) G hP hD hS (by decide) dJ4_length_8abf5_4
set_option maxHeartbeats 4000000 in
set_option maxRecDepth 100000 in
theorem mS_min (l : Launch) (D : va_G) (cA : Nat → ClassId) (ad adF adW tt : Nat → Nat) (ST : gST) (hT : STE ad adF adW tt ST) (hW : STW adW tt ST) (hSP : STP ST) (x y : Nat) (hxy : x ≤ y) (hy : y < 2 ^ 31) : gMetG l yJ9_min_7cf53 cJ9_min_7cf53 2 (some .int) 0 0 0 D (TYS cA) ST ([]) [.int (nI x), .int (nI y)] (gGi D (TYS cA) (fun r (_ : Unit) => r = nI x) (fun _ => [])) := by
  refine g_ofWG hT.1 (by decide +kernel) (Nat.le_of_ble_eq_true rfl) ?_
  intro p e s m args below meth c ls A G hP hD hl
  have G : GC p s m args meth c cJ9_min_7cf53 2 RJ9 (some .int) A D (TYS cA) ST := G
  have hx := G.1
  have hb := G.2.1
  have hS : va_S A s.heap s.heap [] := va_S.rf
  have hP : va_P D vwCl ([]) s.heap := hP
  have hD : va_D A ([]) := hD
  have hl : lv_has ls 2 [(0, .int (nI x)), (1, .int (nI y))] := hl
  refine lv_iload_n hx hb dJ9_min_7cf53_0 rfl (lv_at hl 0 rfl) ?_
  refine lv_iload_n hx hb dJ9_min_7cf53_1 rfl (lv_at hl 1 rfl) ?_
  refine lv_icmp_gt (tgt := 9) hx hb dJ9_min_7cf53_2 (by decide) (fun c9 => absurd c9 (nI_nlt hxy hy)) (fun c9 => ?_)
  refine lv_iload_n hx hb dJ9_min_7cf53_5 rfl (lv_at hl 0 rfl) ?_
  refine lv_goto (tgt := 10) hx hb dJ9_min_7cf53_6 (by decide) ?_
  exact c_reti (()) (rfl) (rfl) G hP hD hS (by decide) dJ9_min_7cf53_10
set_option maxHeartbeats 4000000 in
set_option maxRecDepth 100000 in
theorem mS_max (l : Launch) (D : va_G) (cA : Nat → ClassId) (ad adF adW tt : Nat → Nat) (ST : gST) (hT : STE ad adF adW tt ST) (hW : STW adW tt ST) (hSP : STP ST) (x y : Nat) (hxy : x ≤ y) (hy : y < 2 ^ 31) : gMetG l yJ9_max_7cf53 cJ9_max_7cf53 2 (some .int) 0 0 0 D (TYS cA) ST ([]) [.int (nI x), .int (nI y)] (gGi D (TYS cA) (fun r (_ : Unit) => r = nI y) (fun _ => [])) := by
  refine g_ofWG hT.1 (by decide +kernel) (Nat.le_of_ble_eq_true rfl) ?_
  intro p e s m args below meth c ls A G hP hD hl
  have G : GC p s m args meth c cJ9_max_7cf53 2 RJ9 (some .int) A D (TYS cA) ST := G
  have hx := G.1
  have hb := G.2.1
  have hS : va_S A s.heap s.heap [] := va_S.rf
  have hP : va_P D vwCl ([]) s.heap := hP
  have hD : va_D A ([]) := hD
  have hl : lv_has ls 2 [(0, .int (nI x)), (1, .int (nI y))] := hl
  refine lv_iload_n hx hb dJ9_max_7cf53_0 rfl (lv_at hl 0 rfl) ?_
  refine lv_iload_n hx hb dJ9_max_7cf53_1 rfl (lv_at hl 1 rfl) ?_
  by_cases h1 : x < y
  · skip
    refine lv_icmp_lt (tgt := 9) hx hb dJ9_max_7cf53_2 (by decide) (fun c9 => ?_) (fun c9 => absurd (nI_lt h1 hy) c9)
    refine lv_iload_n hx hb dJ9_max_7cf53_9 rfl (lv_at hl 1 rfl) ?_
    exact c_reti (()) (rfl) (rfl) G hP hD hS (by decide) dJ9_max_7cf53_10
  refine lv_icmp_lt (tgt := 9) hx hb dJ9_max_7cf53_2 (by decide) (fun c9 => absurd c9 (nI_nlt (by omega) (by omega))) (fun c9 => ?_)
  refine lv_iload_n hx hb dJ9_max_7cf53_5 rfl (lv_at hl 0 rfl) ?_
  refine lv_goto (tgt := 10) hx hb dJ9_max_7cf53_6 (by decide) ?_
  exact c_reti (()) (congrArg nI (by omega)) (rfl) G hP hD hS (by decide) dJ9_max_7cf53_10
set_option maxHeartbeats 4000000 in
set_option maxRecDepth 100000 in
theorem mJ8_newLength_cabcc (l : Launch) (D : va_G) (cA : Nat → ClassId) (ad adF adW tt : Nat → Nat) (ST : gST) (hT : STE ad adF adW tt ST) (hW : STW adW tt ST) (hSP : STP ST) (k : Nat) (hk : k ≤ 18) : gMetG l yJ8_newLength_cabcc cJ8_newLength_cabcc 4 (some .int) 1 0 0 D (TYS cA) ST ([]) [.int (nI 16), .int (nI k), .int (nI 18)] (gGi D (TYS cA) (fun r (_ : Unit) => r = nI 34) (fun _ => [])) := by
  refine g_ofWG hT.1 (by decide +kernel) (Nat.le_of_ble_eq_true rfl) ?_
  intro p e s m args below meth c ls A G hP hD hl
  have G : GC p s m args meth c cJ8_newLength_cabcc 4 RJ8 (some .int) A D (TYS cA) ST := G
  have hx := G.1
  have hb := G.2.1
  have hS : va_S A s.heap s.heap [] := va_S.rf
  have hP : va_P D vwCl ([]) s.heap := hP
  have hD : va_D A ([]) := hD
  have hl : lv_has ls 4 [(0, .int (nI 16)), (1, .int (nI k)), (2, .int (nI 18))] := hl
  refine lv_iload_n hx hb dJ8_newLength_cabcc_0 rfl (lv_at hl 0 rfl) ?_
  refine lv_iload_n hx hb dJ8_newLength_cabcc_1 rfl (lv_at hl 1 rfl) ?_
  refine lv_iload_n hx hb dJ8_newLength_cabcc_2 rfl (lv_at hl 2 rfl) ?_
  refine c_callSi (nA := 2) ([]) ([]) (mS_max l D cA ad adF adW tt ST hT hW hSP k 18 hk (by decide)) G hP hD hS (List.Perm.of_eq rfl) (g_goodSX q3_66 q3_67 q1_28 q3_68) (by decide +kernel) (by decide) rfl hl.1 [.int (nI 16)] rfl (Nat.le_of_ble_eq_true rfl) dJ8_newLength_cabcc_3 (fun r b9 H locs hok hP hD hS => ?_)
  have hP : va_P D vwCl ([]) H := hP
  have hD : va_D A ([]) := hD
  subst hok
  refine lv_iadd hx hb dJ8_newLength_cabcc_6 ?_
  rw [show (nI 16) + (nI 18) = (nI 34) from by decide]
  refine lv_istore_n (lv' := [(3, .int (nI 34)), (0, .int (nI 16)), (1, .int (nI k)), (2, .int (nI 18))]) hx hb dJ8_newLength_cabcc_7 rfl hl (by decide) rfl (fun ls hl => ?_)
  refine lv_iconst (v := 0) hx hb dJ8_newLength_cabcc_8 (by decide) ?_
  refine lv_iload_n hx hb dJ8_newLength_cabcc_9 rfl (lv_at hl 0 rfl) ?_
  refine lv_icmp_ge (tgt := 21) hx hb dJ8_newLength_cabcc_10 (by decide) (fun c9 => absurd c9 (by decide)) (fun c9 => ?_)
  refine lv_iload_n hx hb dJ8_newLength_cabcc_13 rfl (lv_at hl 0 rfl) ?_
  refine lv_ldc (v := 2147483639) hx hb G.2.2.2.1 (G.2.2.2.2.1 _ q3_69) dJ8_newLength_cabcc_14 ?_
  refine lv_icmp_gt (tgt := 21) hx hb dJ8_newLength_cabcc_16 (by decide) (fun c9 => absurd c9 (by decide)) (fun c9 => ?_)
  refine lv_iload_n hx hb dJ8_newLength_cabcc_19 rfl (lv_at hl 0 rfl) ?_
  exact c_reti (()) (rfl) (rfl) G hP hD hS (by decide) dJ8_newLength_cabcc_20
set_option maxHeartbeats 4000000 in
set_option maxRecDepth 100000 in
theorem mJ5_newCapacity_0f7a4 (l : Launch) (D : va_G) (cA : Nat → ClassId) (ad adF adW tt : Nat → Nat) (ST : gST) (hT : STE ad adF adW tt ST) (hW : STW adW tt ST) (hSP : STP ST) (z n q k : Nat) (ml : Int32) (f : Nat → Int32) (h1 : 16 < k) (h2 : k ≤ 34) : gMetG l yJ5_newCapacity_0f7a4 cJ5_newCapacity_0f7a4 6 (some .int) 2 0 0 D (TYS cA) ST (sbC cA z n (q, 16, ml, f)) [.ref z, .int (nI k)] (gGi D (TYS cA) (fun r (_ : Unit) => r = nI 34) (fun _ => sbC cA z n (q, 16, ml, f))) := by
  refine g_ofWG hT.1 (by decide +kernel) (Nat.le_of_ble_eq_true rfl) ?_
  intro p e s m args below meth c ls A G hP hD hl
  have G : GC p s m args meth c cJ5_newCapacity_0f7a4 6 RJ5 (some .int) A D (TYS cA) ST := G
  have hx := G.1
  have hb := G.2.1
  have hS : va_S A s.heap s.heap [] := va_S.rf
  have hP : va_P D vwCl ([(z, .inr (1, [.ref q, .int 0, .int ml, .int (nI n)])), (q, .inl (cA 5, 16, .inl f))]) s.heap := hP
  have hD : va_D A ([(z, .inr (1, [.ref q, .int 0, .int ml, .int (nI n)])), (q, .inl (cA 5, 16, .inl f))]) := hD
  have hl : lv_has ls 6 [(0, .ref z), (1, .int (nI k))] := hl
  refine lv_aload_n hx hb dJ5_newCapacity_0f7a4_0 rfl (lv_at hl 0 rfl) ?_
  refine c_get (F := [(z, .inr (1, [.ref q, .int 0, .int ml, .int (nI n)])), (q, .inl (cA 5, 16, .inl f))]) (B := []) (C := RJ4) (T := TJ4) (M := 4) (ci := 1) G hP 0 0 i_J4 rfl rfl (by decide) q2_35 rfl dJ5_newCapacity_0f7a4_1 ?_
  refine va_alen (v := (nI 16)) hx hb G.2.2.2.2.2.2.2.2.1 hP 1 5 rfl rfl rfl dJ5_newCapacity_0f7a4_4 ?_
  refine lv_istore_n (lv' := [(2, .int (nI 16)), (0, .ref z), (1, .int (nI k))]) hx hb dJ5_newCapacity_0f7a4_5 rfl hl (by decide) rfl (fun ls hl => ?_)
  refine lv_iload_n hx hb dJ5_newCapacity_0f7a4_6 rfl (lv_at hl 2 rfl) ?_
  refine lv_aload_n hx hb dJ5_newCapacity_0f7a4_7 rfl (lv_at hl 1 rfl) ?_
  refine c_get (F := [(z, .inr (1, [.ref q, .int 0, .int ml, .int (nI n)])), (q, .inl (cA 5, 16, .inl f))]) (B := []) (C := RJ4) (T := TJ4) (M := 4) (ci := 1) G hP 0 1 i_J4 rfl rfl (by decide) q2_36 rfl dJ5_newCapacity_0f7a4_8 ?_
  refine lv_ishl hx hb dJ5_newCapacity_0f7a4_11 ?_
  rw [show (nI k) <<< (0 &&& 31) = (nI k) from sb_shl0 _]
  refine lv_istore_n (lv' := [(3, .int (nI k)), (2, .int (nI 16)), (0, .ref z), (1, .int (nI k))]) hx hb dJ5_newCapacity_0f7a4_12 rfl hl (by decide) rfl (fun ls hl => ?_)
  refine lv_iload_n hx hb dJ5_newCapacity_0f7a4_13 rfl (lv_at hl 0 rfl) ?_
  refine lv_iload_n hx hb dJ5_newCapacity_0f7a4_14 rfl (lv_at hl 1 rfl) ?_
  refine lv_isub hx hb dJ5_newCapacity_0f7a4_15 ?_
  rw [show (nI k) - (nI 16) = (nI (k - 16)) from pk_sub (by omega)]
  refine lv_istore (lv' := [(4, .int (nI (k - 16))), (3, .int (nI k)), (2, .int (nI 16)), (0, .ref z), (1, .int (nI k))]) hx hb dJ5_newCapacity_0f7a4_16 hl (by decide) rfl (fun ls hl => ?_)
  refine lv_iload_n hx hb dJ5_newCapacity_0f7a4_18 rfl (lv_at hl 2 rfl) ?_
  refine lv_iload hx hb dJ5_newCapacity_0f7a4_19 (lv_at hl 0 rfl) ?_
  refine lv_iload_n hx hb dJ5_newCapacity_0f7a4_21 rfl (lv_at hl 2 rfl) ?_
  refine lv_iconst (v := 2) hx hb dJ5_newCapacity_0f7a4_22 (by decide) ?_
  refine lv_aload_n hx hb dJ5_newCapacity_0f7a4_23 rfl (lv_at hl 3 rfl) ?_
  refine c_get (F := [(z, .inr (1, [.ref q, .int 0, .int ml, .int (nI n)])), (q, .inl (cA 5, 16, .inl f))]) (B := []) (C := RJ4) (T := TJ4) (M := 4) (ci := 1) G hP 0 1 i_J4 rfl rfl (by decide) q2_36 rfl dJ5_newCapacity_0f7a4_24 ?_
  refine lv_ishl hx hb dJ5_newCapacity_0f7a4_27 ?_
  rw [show (2 : Int32) <<< (0 &&& 31) = 2 from sb_shl0 _]
  refine lv_iadd hx hb dJ5_newCapacity_0f7a4_28 ?_
  rw [show (nI 16) + 2 = (nI 18) from by decide]
  refine c_callSi (nA := 3) (sbC cA z n (q, 16, ml, f)) ([]) (mJ8_newLength_cabcc l D cA ad adF adW tt ST hT hW hSP (k - 16) (by omega)) G hP hD hS (List.Perm.of_eq (List.append_nil _).symm) (g_goodSX q3_63 q3_64 q1_32 q3_65) (by decide +kernel) (by decide) rfl hl.1 [] rfl (Nat.le_of_ble_eq_true rfl) dJ5_newCapacity_0f7a4_29 (fun r b9 H locs hok hP hD hS => ?_)
  have hP : va_P D vwCl ([(z, .inr (1, [.ref q, .int 0, .int ml, .int (nI n)])), (q, .inl (cA 5, 16, .inl f))]) H := hP
  have hD : va_D A ([(z, .inr (1, [.ref q, .int 0, .int ml, .int (nI n)])), (q, .inl (cA 5, 16, .inl f))]) := hD
  subst hok
  refine lv_istore (lv' := [(5, .int (nI 34)), (4, .int (nI (k - 16))), (3, .int (nI k)), (2, .int (nI 16)), (0, .ref z), (1, .int (nI k))]) hx hb dJ5_newCapacity_0f7a4_32 hl (by decide) rfl (fun ls hl => ?_)
  refine lv_iload hx hb dJ5_newCapacity_0f7a4_34 (lv_at hl 0 rfl) ?_
  refine lv_ldc (v := 2147483647) hx hb G.2.2.2.1 (G.2.2.2.2.1 _ q3_73) dJ5_newCapacity_0f7a4_36 ?_
  refine lv_icmp_ne (tgt := 51) hx hb dJ5_newCapacity_0f7a4_38 (by decide) (fun c9 => ?_) (fun c9 => absurd c9 (by decide))
  refine lv_iload hx hb dJ5_newCapacity_0f7a4_51 (lv_at hl 0 rfl) ?_
  refine lv_aload_n hx hb dJ5_newCapacity_0f7a4_53 rfl (lv_at hl 4 rfl) ?_
  refine c_get (F := [(z, .inr (1, [.ref q, .int 0, .int ml, .int (nI n)])), (q, .inl (cA 5, 16, .inl f))]) (B := []) (C := RJ4) (T := TJ4) (M := 4) (ci := 1) G hP 0 1 i_J4 rfl rfl (by decide) q2_36 rfl dJ5_newCapacity_0f7a4_54 ?_
  refine lv_ishr hx hb dJ5_newCapacity_0f7a4_57 ?_
  rw [show (nI 34) >>> (0 &&& 31) = (nI 34) from sb_shr0 _]
  exact c_reti (()) (rfl) (rfl) G hP hD hS (by decide) dJ5_newCapacity_0f7a4_58
set_option maxHeartbeats 4000000 in
set_option maxRecDepth 100000 in
theorem mJ7_copyOf_9075b (l : Launch) (D : va_G) (cA : Nat → ClassId) (ad adF adW tt : Nat → Nat) (ST : gST) (hT : STE ad adF adW tt ST) (hW : STW adW tt ST) (hSP : STP ST) (q : Nat) (f : Nat → Int32) (hf : sb_Fit f) : gMetG l yJ7_copyOf_9075b cJ7_copyOf_9075b 3 (some (.array .byte)) 3 1 34 D (TYS cA) ST ([(q, .inl (cA 5, 16, .inl f))]) [.ref q, .int (nI 34)] (gGr D (TYS cA) (fun _ : Nat => True) (fun q9 => q9) (fun q9 => [(q, .inl (cA 5, 16, .inl f)), (q9, .inl (cA 5, 34, .inl (va_cpy f (fun _ => 0) 0 0 16)))])) := by
  refine g_ofWG hT.1 (by decide +kernel) (Nat.le_of_ble_eq_true rfl) ?_
  intro p e s m args below meth c ls A G hP hD hl
  have G : GC p s m args meth c cJ7_copyOf_9075b 3 RJ7 (some (.array .byte)) A D (TYS cA) ST := G
  have hx := G.1
  have hb := G.2.1
  have hS : va_S A s.heap s.heap [] := va_S.rf
  have hP : va_P D vwCl ([(q, .inl (cA 5, 16, .inl f))]) s.heap := hP
  have hD : va_D A ([(q, .inl (cA 5, 16, .inl f))]) := hD
  have hl : lv_has ls 3 [(0, .ref q), (1, .int (nI 34))] := hl
  refine lv_iload_n hx hb dJ7_copyOf_9075b_0 rfl (lv_at hl 1 rfl) ?_
  refine lv_aload_n hx hb dJ7_copyOf_9075b_1 rfl (lv_at hl 0 rfl) ?_
  refine va_alen (v := (nI 16)) hx hb G.2.2.2.2.2.2.2.2.1 hP 0 5 rfl rfl rfl dJ7_copyOf_9075b_2 ?_
  refine lv_icmp_ne (tgt := 14) hx hb dJ7_copyOf_9075b_3 (by decide) (fun c9 => ?_) (fun c9 => absurd c9 (by decide))
  refine lv_iload_n hx hb dJ7_copyOf_9075b_14 rfl (lv_at hl 1 rfl) ?_
  refine c_newa (atype := .byte) (ty := .byte) (F := [(q, .inl (cA 5, 16, .inl f))]) (B := []) (N' := 34) 5 rfl (fun _ h => by cases h) G hP hD hS q2_49 rfl (34, .inl (fun _ => 0)) (fun _ => rfl) (by decide) rfl (by decide) (Nat.le_of_ble_eq_true rfl) (Nat.le_of_ble_eq_true rfl) dJ7_copyOf_9075b_15 (fun q9 H hP hD hS => ?_)
  have hP : va_P D vwCl ([(q, .inl (cA 5, 16, .inl f)), (q9, .inl (cA 5, 34, .inl (fun _ => 0)))]) H := hP
  have hD : va_D A ([(q, .inl (cA 5, 16, .inl f)), (q9, .inl (cA 5, 34, .inl (fun _ => 0)))]) := hD
  refine lv_astore_n (lv' := [(2, .ref q9), (0, .ref q), (1, .int (nI 34))]) hx hb dJ7_copyOf_9075b_17 rfl hl (by decide) rfl (fun ls hl => ?_)
  refine lv_aload_n hx hb dJ7_copyOf_9075b_18 rfl (lv_at hl 1 rfl) ?_
  refine lv_iconst (v := 0) hx hb dJ7_copyOf_9075b_19 (by decide) ?_
  refine lv_aload_n hx hb dJ7_copyOf_9075b_20 rfl (lv_at hl 0 rfl) ?_
  refine lv_iconst (v := 0) hx hb dJ7_copyOf_9075b_21 (by decide) ?_
  refine lv_aload_n hx hb dJ7_copyOf_9075b_22 rfl (lv_at hl 1 rfl) ?_
  refine va_alen (v := (nI 16)) hx hb G.2.2.2.2.2.2.2.2.1 hP 0 5 rfl rfl rfl dJ7_copyOf_9075b_23 ?_
  refine lv_iload_n hx hb dJ7_copyOf_9075b_24 rfl (lv_at hl 2 rfl) ?_
  refine c_callSi (nA := 2) ([(q, .inl (cA 5, 16, .inl f)), (q9, .inl (cA 5, 34, .inl (fun _ => 0)))]) ([]) (mS_min l D cA ad adF adW tt ST hT hW hSP 16 34 (by decide) (by decide)) G hP hD hS (List.Perm.of_eq (List.append_nil _).symm) (g_goodSX q3_84 q2_221 q1_28 q2_222) (by decide +kernel) (by decide) rfl hl.1 [.int 0, .ref q9, .int 0, .ref q] rfl (Nat.le_of_ble_eq_true rfl) dJ7_copyOf_9075b_25 (fun r b9 H locs hok hP hD hS => ?_)
  have hP : va_P D vwCl ([(q, .inl (cA 5, 16, .inl f)), (q9, .inl (cA 5, 34, .inl (fun _ => 0)))]) H := hP
  have hD : va_D A ([(q, .inl (cA 5, 16, .inl f)), (q9, .inl (cA 5, 34, .inl (fun _ => 0)))]) := hD
  subst hok
  have hw9 : nativeFrameWords "java/lang/System" "arraycopy" 5 ≤ 60 := by decide +kernel
  refine va_copyi hx hb (G.2.2.1.trans hl.1.symm) G.2.2.2.1 (G.2.2.2.2.1 _ q3_85) (G.2.2.2.2.1 _ q2_173) (G.2.2.2.2.1 _ q2_172) (G.2.2.2.2.1 _ q1_27) G.2.2.2.2.2.2.2.2.1 hP hD hS 0 1 5 5 rfl rfl rfl rfl rfl (by decide) (by decide) (by decide) (by decide) (by decide) (fun i _ => hf _) (by decide) (by show _ ≤ 40 * 3; simp only [List.map_nil, List.sum_nil]; omega) dJ7_copyOf_9075b_28 (fun H locs hP hD hS => ?_)
  have hP : va_P D vwCl ([(q, .inl (cA 5, 16, .inl f)), (q9, .inl (cA 5, 34, .inl (va_cpy f (fun _ => 0) 0 0 16)))]) H := hP
  have hD : va_D A ([(q, .inl (cA 5, 16, .inl f)), (q9, .inl (cA 5, 34, .inl (va_cpy f (fun _ => 0) 0 0 16)))]) := hD
  refine lv_aload_n hx hb dJ7_copyOf_9075b_31 rfl (lv_at hl 0 rfl) ?_
  exact c_reta q9 trivial rfl (Or.inr ⟨_, rfl⟩) G hP hD hS (by decide) dJ7_copyOf_9075b_32
set_option maxHeartbeats 4000000 in
set_option maxRecDepth 100000 in
theorem mJ5_ensureCapacityInternal_d00df (l : Launch) (D : va_G) (cA : Nat → ClassId) (ad adF adW tt : Nat → Nat) (ST : gST) (hT : STE ad adF adW tt ST) (hW : STW adW tt ST) (hSP : STP ST) (t : Nat → Nat) (z n k : Nat) (b : SBb) (hok0 : SBok t n b) (hk : k ≤ 34) : gMetG l yJ5_ensureCapacityInternal_d00df cJ5_ensureCapacityInternal_d00df 3 none 4 1 34 D (TYS cA) ST (sbC cA z n b) [.ref z, .int (nI k)] (gGv D (TYS cA) (fun b9 : SBb => SBok t n b9 ∧ k ≤ b9.2.1) (fun b9 => sbC cA z n b9)) := by
  refine g_ofWG hT.1 (by decide +kernel) (Nat.le_of_ble_eq_true rfl) ?_
  intro p e s m args below meth c ls A G hP hD hl
  have G : GC p s m args meth c cJ5_ensureCapacityInternal_d00df 3 RJ5 none A D (TYS cA) ST := G
  have hx := G.1
  have hb := G.2.1
  have hS : va_S A s.heap s.heap [] := va_S.rf
  have hP : va_P D vwCl ([(z, .inr (1, [.ref b.1, .int 0, .int b.2.2.1, .int (nI n)])), (b.1, .inl (cA 5, b.2.1, .inl b.2.2.2))]) s.heap := hP
  have hD : va_D A ([(z, .inr (1, [.ref b.1, .int 0, .int b.2.2.1, .int (nI n)])), (b.1, .inl (cA 5, b.2.1, .inl b.2.2.2))]) := hD
  have hl : lv_has ls 3 [(0, .ref z), (1, .int (nI k))] := hl
  obtain ⟨q, L, ml, f⟩ := b
  obtain ⟨hL, hn, hLat, hFit, hml⟩ := hok0
  have hL : L = 16 ∨ L = 34 := hL
  have hn : n ≤ L := hn
  have hP : va_P D vwCl ([(z, .inr (1, [.ref q, .int 0, .int ml, .int (nI n)])), (q, .inl (cA 5, L, .inl f))]) s.heap := hP
  have hD : va_D A ([(z, .inr (1, [.ref q, .int 0, .int ml, .int (nI n)])), (q, .inl (cA 5, L, .inl f))]) := hD
  refine lv_aload_n hx hb dJ5_ensureCapacityInternal_d00df_0 rfl (lv_at hl 0 rfl) ?_
  refine c_get (F := [(z, .inr (1, [.ref q, .int 0, .int ml, .int (nI n)])), (q, .inl (cA 5, L, .inl f))]) (B := []) (C := RJ4) (T := TJ4) (M := 4) (ci := 1) G hP 0 0 i_J4 rfl rfl (by decide) q2_35 rfl dJ5_ensureCapacityInternal_d00df_1 ?_
  refine va_alen (v := (nI L)) hx hb G.2.2.2.2.2.2.2.2.1 hP 1 5 rfl rfl rfl dJ5_ensureCapacityInternal_d00df_4 ?_
  refine lv_aload_n hx hb dJ5_ensureCapacityInternal_d00df_5 rfl (lv_at hl 0 rfl) ?_
  refine c_get (F := [(z, .inr (1, [.ref q, .int 0, .int ml, .int (nI n)])), (q, .inl (cA 5, L, .inl f))]) (B := []) (C := RJ4) (T := TJ4) (M := 4) (ci := 1) G hP 0 1 i_J4 rfl rfl (by decide) q2_36 rfl dJ5_ensureCapacityInternal_d00df_6 ?_
  refine lv_ishr hx hb dJ5_ensureCapacityInternal_d00df_9 ?_
  rw [show (nI L) >>> (0 &&& 31) = (nI L) from sb_shr0 _]
  refine lv_istore_n (lv' := [(2, .int (nI L)), (0, .ref z), (1, .int (nI k))]) hx hb dJ5_ensureCapacityInternal_d00df_10 rfl hl (by decide) rfl (fun ls hl => ?_)
  refine lv_iload_n hx hb dJ5_ensureCapacityInternal_d00df_11 rfl (lv_at hl 2 rfl) ?_
  refine lv_iload_n hx hb dJ5_ensureCapacityInternal_d00df_12 rfl (lv_at hl 0 rfl) ?_
  refine lv_isub hx hb dJ5_ensureCapacityInternal_d00df_13 ?_
  have e1 : (nI k - nI L).toInt = (k : Int) - L := pk_sub_toInt (by omega) (by omega)
  by_cases h1 : k ≤ L
  · skip
    refine lv_if_le (tgt := 38) hx hb dJ5_ensureCapacityInternal_d00df_14 (by decide) (fun c9 => ?_) (fun c9 => absurd (by rw [Int32.le_iff_toInt_le, e1, Int32.toInt_zero]; omega) c9)
    exact c_retv (q, L, ml, f) ⟨⟨hL, hn, hLat, hFit, hml⟩, h1⟩ G hP hD hS (by decide) dJ5_ensureCapacityInternal_d00df_38
  obtain rfl : L = 16 := by omega
  refine lv_if_le (tgt := 38) hx hb dJ5_ensureCapacityInternal_d00df_14 (by decide) (fun c9 => absurd c9 (fun z9 => by rw [Int32.le_iff_toInt_le, e1, Int32.toInt_zero] at z9; omega)) (fun c9 => ?_)
  refine lv_aload_n hx hb dJ5_ensureCapacityInternal_d00df_17 rfl (lv_at hl 1 rfl) ?_
  refine lv_aload_n hx hb dJ5_ensureCapacityInternal_d00df_18 rfl (lv_at hl 1 rfl) ?_
  refine c_get (F := [(z, .inr (1, [.ref q, .int 0, .int ml, .int (nI n)])), (q, .inl (cA 5, 16, .inl f))]) (B := []) (C := RJ4) (T := TJ4) (M := 4) (ci := 1) G hP 0 0 i_J4 rfl rfl (by decide) q2_35 rfl dJ5_ensureCapacityInternal_d00df_19 ?_
  refine lv_aload_n hx hb dJ5_ensureCapacityInternal_d00df_22 rfl (lv_at hl 1 rfl) ?_
  refine lv_iload_n hx hb dJ5_ensureCapacityInternal_d00df_23 rfl (lv_at hl 2 rfl) ?_
  refine c_callPi (nA := 1) (x := ⟨RJ5, "newCapacity", "(I)I"⟩) (owner := RJ5) (C := RJ4) (T := TJ4) (M := 4) (ci := 1) ([]) (sbC cA z n (q, 16, ml, f)) 0 rfl rfl (mJ5_newCapacity_0f7a4 l D cA ad adF adW tt ST hT hW hSP z n q k ml f (by omega) hk) G hP hD hS (List.Perm.of_eq rfl) (g_goodP q3_59 q9_162 rfl q3_61 q1_12 q3_62) rfl (hSP _ _ G.2.2.2.2.2.2.2.2.2.2.1 args).1 (by decide +kernel) (by decide) rfl hl.1 [.ref q, .ref z] rfl (Nat.le_of_ble_eq_true rfl) dJ5_ensureCapacityInternal_d00df_24 (fun r b9 H locs hok hP hD hS => ?_)
  have hP : va_P D vwCl ([(z, .inr (1, [.ref q, .int 0, .int ml, .int (nI n)])), (q, .inl (cA 5, 16, .inl f))]) H := hP
  have hD : va_D A ([(z, .inr (1, [.ref q, .int 0, .int ml, .int (nI n)])), (q, .inl (cA 5, 16, .inl f))]) := hD
  subst hok
  refine lv_aload_n hx hb dJ5_ensureCapacityInternal_d00df_27 rfl (lv_at hl 1 rfl) ?_
  refine c_get (F := [(z, .inr (1, [.ref q, .int 0, .int ml, .int (nI n)])), (q, .inl (cA 5, 16, .inl f))]) (B := []) (C := RJ4) (T := TJ4) (M := 4) (ci := 1) G hP 0 1 i_J4 rfl rfl (by decide) q2_36 rfl dJ5_ensureCapacityInternal_d00df_28 ?_
  refine lv_ishl hx hb dJ5_ensureCapacityInternal_d00df_31 ?_
  rw [show (nI 34) <<< (0 &&& 31) = (nI 34) from sb_shl0 _]
  refine c_callSr (nA := 2) ([(z, .inr (1, [.ref q, .int 0, .int ml, .int (nI n)]))]) ([(q, .inl (cA 5, 16, .inl f))]) (mJ7_copyOf_9075b l D cA ad adF adW tt ST hT hW hSP q f hFit) G hP hD hS (List.Perm.of_eq rfl) (g_goodSX q3_74 q3_75 q1_33 q3_76) (by decide +kernel) (by decide) rfl hl.1 [.ref z] rfl (Nat.le_of_ble_eq_true rfl) dJ5_ensureCapacityInternal_d00df_32 (fun q9 H locs hok hP hD hS => ?_)
  have hP : va_P D vwCl ([(z, .inr (1, [.ref q, .int 0, .int ml, .int (nI n)])), (q, .inl (cA 5, 16, .inl f)), (q9, .inl (cA 5, 34, .inl (va_cpy f (fun _ => 0) 0 0 16)))]) H := hP
  have hD : va_D A ([(z, .inr (1, [.ref q, .int 0, .int ml, .int (nI n)])), (q, .inl (cA 5, 16, .inl f)), (q9, .inl (cA 5, 34, .inl (va_cpy f (fun _ => 0) 0 0 16)))]) := hD
  refine c_putJ (F := [(z, .inr (1, [.ref q, .int 0, .int ml, .int (nI n)])), (q, .inl (cA 5, 16, .inl f)), (q9, .inl (cA 5, 34, .inl (va_cpy f (fun _ => 0) 0 0 16)))]) (B := []) (C := RJ4) (T := TJ4) (M := 4) (ci := 1) (v := .ref q9) G hP hD hS 0 0 i_J4 rfl tyJ4 tyJ4_ok nmJ4 rfl (by decide) q2_35 rfl rfl rfl (Nat.le_of_ble_eq_true rfl) dJ5_ensureCapacityInternal_d00df_35 (fun H locs hP hD hS => ?_)
  have hP : va_P D vwCl ([(z, .inr (1, [.ref q9, .int 0, .int ml, .int (nI n)])), (q, .inl (cA 5, 16, .inl f)), (q9, .inl (cA 5, 34, .inl (va_cpy f (fun _ => 0) 0 0 16)))]) H := hP
  have hD : va_D A ([(z, .inr (1, [.ref q9, .int 0, .int ml, .int (nI n)])), (q, .inl (cA 5, 16, .inl f)), (q9, .inl (cA 5, 34, .inl (va_cpy f (fun _ => 0) 0 0 16)))]) := hD
  refine c_retv (q9, 34, ml, va_cpy f (fun _ => 0) 0 0 16) ⟨⟨Or.inr rfl, (show n ≤ 34 by omega), sb_latKeep hLat (fun j hj => sb_cpy0 (f := f) (g := fun _ => 0) (n := 16) (show j < 16 from Nat.lt_of_lt_of_le hj hn)), sb_fitC hFit sb_fit0, hml⟩, hk⟩ G (va_P_sl ?_ hP) (va_D_sl ?_ hD) hS (by decide) dJ5_ensureCapacityInternal_d00df_38
  · exact List.Sublist.cons₂ _ (List.Sublist.cons _ (List.Sublist.refl _))
  · exact List.Sublist.cons₂ _ (List.Sublist.cons _ (List.Sublist.refl _))
set_option maxHeartbeats 4000000 in
set_option maxRecDepth 100000 in
theorem mJ5_append_3fe6f (l : Launch) (D : va_G) (cA : Nat → ClassId) (ad adF adW tt : Nat → Nat) (ST : gST) (hT : STE ad adF adW tt ST) (hW : STW adW tt ST) (hSP : STP ST) (t : Nat → Nat) (z n v : Nat) (b : SBb) (hok0 : SBok t n b) (hn1 : n + 1 ≤ 34) (hv : v < 256) : gMetG l yJ5_append_3fe6f cJ5_append_3fe6f 2 (some (.object "java/lang/AbstractStringBuilder")) 5 1 34 D (TYS cA) ST (sbC cA z n b) [.ref z, .int (nI v)] (gGr D (TYS cA) (fun b9 : SBb => SBok (sb_cat t n (fun _ => v)) (n + 1) b9) (fun _ => z) (fun b9 => sbC cA z (n + 1) b9)) := by
  refine g_ofWG hT.1 (by decide +kernel) (Nat.le_of_ble_eq_true rfl) ?_
  intro p e s m args below meth c ls A G hP hD hl
  have G : GC p s m args meth c cJ5_append_3fe6f 2 RJ5 (some (.object "java/lang/AbstractStringBuilder")) A D (TYS cA) ST := G
  have hx := G.1
  have hb := G.2.1
  have hS : va_S A s.heap s.heap [] := va_S.rf
  have hP : va_P D vwCl ([(z, .inr (1, [.ref b.1, .int 0, .int b.2.2.1, .int (nI n)])), (b.1, .inl (cA 5, b.2.1, .inl b.2.2.2))]) s.heap := hP
  have hD : va_D A ([(z, .inr (1, [.ref b.1, .int 0, .int b.2.2.1, .int (nI n)])), (b.1, .inl (cA 5, b.2.1, .inl b.2.2.2))]) := hD
  have hl : lv_has ls 2 [(0, .ref z), (1, .int (nI v))] := hl
  have hL0 : b.2.1 = 16 ∨ b.2.1 = 34 := hok0.1
  refine lv_aload_n hx hb dJ5_append_3fe6f_0 rfl (lv_at hl 0 rfl) ?_
  refine lv_aload_n hx hb dJ5_append_3fe6f_1 rfl (lv_at hl 0 rfl) ?_
  refine c_get (F := [(z, .inr (1, [.ref b.1, .int 0, .int b.2.2.1, .int (nI n)])), (b.1, .inl (cA 5, b.2.1, .inl b.2.2.2))]) (B := []) (C := RJ4) (T := TJ4) (M := 4) (ci := 1) G hP 0 3 i_J4 rfl rfl (by decide) q2_39 rfl dJ5_append_3fe6f_2 ?_
  refine lv_iconst (v := 1) hx hb dJ5_append_3fe6f_5 (by decide) ?_
  refine lv_iadd hx hb dJ5_append_3fe6f_6 ?_
  rw [show (nI n) + 1 = (nI (n + 1)) from nI_1 n]
  refine c_callPv (nA := 1) (x := ⟨RJ5, "ensureCapacityInternal", "(I)V"⟩) (owner := RJ5) (C := RJ4) (T := TJ4) (M := 4) (ci := 1) ([]) (sbC cA z n b) 0 rfl rfl (mJ5_ensureCapacityInternal_d00df l D cA ad adF adW tt ST hT hW hSP t z n (n + 1) b hok0 hn1) G hP hD hS (List.Perm.of_eq rfl) (g_goodP q3_55 q9_161 rfl q3_57 q1_12 q3_58) rfl (hSP _ _ G.2.2.2.2.2.2.2.2.2.2.1 args).2 (by decide +kernel) (by decide) rfl hl.1 [] rfl (Nat.le_of_ble_eq_true rfl) dJ5_append_3fe6f_7 (fun b1 H locs hok hP hD hS => ?_)
  have hP : va_P D vwCl ([(z, .inr (1, [.ref b1.1, .int 0, .int b1.2.2.1, .int (nI n)])), (b1.1, .inl (cA 5, b1.2.1, .inl b1.2.2.2))]) H := hP
  have hD : va_D A ([(z, .inr (1, [.ref b1.1, .int 0, .int b1.2.2.1, .int (nI n)])), (b1.1, .inl (cA 5, b1.2.1, .inl b1.2.2.2))]) := hD
  obtain ⟨⟨hL, hn, hLat, hFit, hml⟩, hk⟩ := hok
  refine lv_aload_n hx hb dJ5_append_3fe6f_10 rfl (lv_at hl 0 rfl) ?_
  refine c_callUi (nA := 0) (x := ⟨RJ5, "isLatin1", "()Z"⟩) (owner := RJ5) (C := RJ4) (T := TJ4) (M := 4) (ci := 1) ([]) (sbC cA z n b1) 0 rfl rfl (mJ5_isLatin1_aae02 l D cA ad adF adW tt ST hT hW hSP z n b1) G hP hD hS (List.Perm.of_eq rfl) (g_goodU q3_86 q3_88 q3_89 q3_87 q1_12 q3_90) rfl (by decide +kernel) (by decide) rfl hl.1 [] rfl (Nat.le_of_ble_eq_true rfl) dJ5_append_3fe6f_11 (fun r b9 H locs hok hP hD hS => ?_)
  have hP : va_P D vwCl ([(z, .inr (1, [.ref b1.1, .int 0, .int b1.2.2.1, .int (nI n)])), (b1.1, .inl (cA 5, b1.2.1, .inl b1.2.2.2))]) H := hP
  have hD : va_D A ([(z, .inr (1, [.ref b1.1, .int 0, .int b1.2.2.1, .int (nI n)])), (b1.1, .inl (cA 5, b1.2.1, .inl b1.2.2.2))]) := hD
  subst hok
  refine lv_if_eq (tgt := 45) hx hb dJ5_append_3fe6f_14 (by decide) (fun c9 => absurd c9 (by decide)) (fun c9 => ?_)
  refine lv_iload_n hx hb dJ5_append_3fe6f_17 rfl (lv_at hl 1 rfl) ?_
  refine c_callSi (nA := 1) (sbC cA z n b1) ([]) (mJ1_canEncode_fc78d l D cA ad adF adW tt ST hT hW hSP v hv) G hP hD hS (List.Perm.of_eq (List.append_nil _).symm) (g_goodSX q4_139 q4_140 q1_35 q4_141) (by decide +kernel) (by decide) rfl hl.1 [] rfl (Nat.le_of_ble_eq_true rfl) dJ5_append_3fe6f_18 (fun r b9 H locs hok hP hD hS => ?_)
  have hP : va_P D vwCl ([(z, .inr (1, [.ref b1.1, .int 0, .int b1.2.2.1, .int (nI n)])), (b1.1, .inl (cA 5, b1.2.1, .inl b1.2.2.2))]) H := hP
  have hD : va_D A ([(z, .inr (1, [.ref b1.1, .int 0, .int b1.2.2.1, .int (nI n)])), (b1.1, .inl (cA 5, b1.2.1, .inl b1.2.2.2))]) := hD
  subst hok
  refine lv_if_eq (tgt := 45) hx hb dJ5_append_3fe6f_21 (by decide) (fun c9 => absurd c9 (by decide)) (fun c9 => ?_)
  refine lv_aload_n hx hb dJ5_append_3fe6f_24 rfl (lv_at hl 0 rfl) ?_
  refine c_get (F := [(z, .inr (1, [.ref b1.1, .int 0, .int b1.2.2.1, .int (nI n)])), (b1.1, .inl (cA 5, b1.2.1, .inl b1.2.2.2))]) (B := []) (C := RJ4) (T := TJ4) (M := 4) (ci := 1) G hP 0 0 i_J4 rfl rfl (by decide) q2_35 rfl dJ5_append_3fe6f_25 ?_
  refine lv_aload_n hx hb dJ5_append_3fe6f_28 rfl (lv_at hl 0 rfl) ?_
  refine lv_dup hx hb dJ5_append_3fe6f_29 rfl ?_
  refine c_get (F := [(z, .inr (1, [.ref b1.1, .int 0, .int b1.2.2.1, .int (nI n)])), (b1.1, .inl (cA 5, b1.2.1, .inl b1.2.2.2))]) (B := []) (C := RJ4) (T := TJ4) (M := 4) (ci := 1) G hP 0 3 i_J4 rfl rfl (by decide) q2_39 rfl dJ5_append_3fe6f_30 ?_
  refine lv_dup_x1 hx hb dJ5_append_3fe6f_33 rfl rfl ?_
  refine lv_iconst (v := 1) hx hb dJ5_append_3fe6f_34 (by decide) ?_
  refine lv_iadd hx hb dJ5_append_3fe6f_35 ?_
  rw [show (nI n) + 1 = (nI (n + 1)) from nI_1 n]
  refine c_putJ (F := [(z, .inr (1, [.ref b1.1, .int 0, .int b1.2.2.1, .int (nI n)])), (b1.1, .inl (cA 5, b1.2.1, .inl b1.2.2.2))]) (B := []) (C := RJ4) (T := TJ4) (M := 4) (ci := 1) (v := .int (nI (n + 1))) G hP hD hS 0 3 i_J4 rfl tyJ4 tyJ4_ok nmJ4 rfl (by decide) q2_39 rfl rfl rfl (Nat.le_of_ble_eq_true rfl) dJ5_append_3fe6f_36 (fun H locs hP hD hS => ?_)
  have hP : va_P D vwCl ([(z, .inr (1, [.ref b1.1, .int 0, .int b1.2.2.1, .int (nI (n + 1))])), (b1.1, .inl (cA 5, b1.2.1, .inl b1.2.2.2))]) H := hP
  have hD : va_D A ([(z, .inr (1, [.ref b1.1, .int 0, .int b1.2.2.1, .int (nI (n + 1))])), (b1.1, .inl (cA 5, b1.2.1, .inl b1.2.2.2))]) := hD
  refine lv_iload_n hx hb dJ5_append_3fe6f_39 rfl (lv_at hl 1 rfl) ?_
  refine lv_i2b (v := (sb_b v)) hx hb dJ5_append_3fe6f_40 (rfl) ?_
  refine va_bast hx hb G.2.2.2.2.2.2.2.2.1 hP hD hS 1 5 rfl rfl (vp_in_nI (by omega) (by omega)) dJ5_append_3fe6f_41 (fun H locs hP hD hS => ?_)
  rw [show upd b1.2.2.2 (nI n).toNatClampNeg (vp_nar .byte (sb_b v)) = (upd b1.2.2.2 n (sb_b v)) from by rw [nI_clamp (by omega), show vp_nar .byte (sb_b v) = sb_b v from pk_vb _]] at hP hD
  have hP : va_P D vwCl ([(z, .inr (1, [.ref b1.1, .int 0, .int b1.2.2.1, .int (nI (n + 1))])), (b1.1, .inl (cA 5, b1.2.1, .inl (upd b1.2.2.2 n (sb_b v))))]) H := hP
  have hD : va_D A ([(z, .inr (1, [.ref b1.1, .int 0, .int b1.2.2.1, .int (nI (n + 1))])), (b1.1, .inl (cA 5, b1.2.1, .inl (upd b1.2.2.2 n (sb_b v))))]) := hD
  refine lv_goto (tgt := 75) hx hb dJ5_append_3fe6f_42 (by decide) ?_
  refine lv_aload_n hx hb dJ5_append_3fe6f_75 rfl (lv_at hl 0 rfl) ?_
  refine c_reta (b1.1, b1.2.1, b1.2.2.1, upd b1.2.2.2 n (sb_b v)) ⟨hL, by show n + 1 ≤ b1.2.1; omega, sb_latPut hLat (fun j hj => pk_un (by omega)) (fun i hi => ?_), sb_fitU hFit (sb_fitB v), hml⟩ rfl (Or.inl ⟨_, rfl⟩) G hP hD hS (by decide) dJ5_append_3fe6f_76
  obtain rfl : i = 0 := by omega
  exact ⟨hv, pk_us⟩
set_option maxHeartbeats 4000000 in
set_option maxRecDepth 100000 in
theorem mJ4_append_cf468 (l : Launch) (D : va_G) (cA : Nat → ClassId) (ad adF adW tt : Nat → Nat) (ST : gST) (hT : STE ad adF adW tt ST) (hW : STW adW tt ST) (hSP : STP ST) (t : Nat → Nat) (z n v : Nat) (b : SBb) (hok0 : SBok t n b) (hn1 : n + 1 ≤ 34) (hv : v < 256) : gMetG l yJ4_append_cf468 cJ4_append_cf468 2 (some (.object "java/lang/StringBuilder")) 6 1 34 D (TYS cA) ST (sbC cA z n b) [.ref z, .int (nI v)] (gGr D (TYS cA) (fun b9 : SBb => SBok (sb_cat t n (fun _ => v)) (n + 1) b9) (fun _ => z) (fun b9 => sbC cA z (n + 1) b9)) := by
  refine g_ofWG hT.1 (by decide +kernel) (Nat.le_of_ble_eq_true rfl) ?_
  intro p e s m args below meth c ls A G hP hD hl
  have G : GC p s m args meth c cJ4_append_cf468 2 RJ4 (some (.object "java/lang/StringBuilder")) A D (TYS cA) ST := G
  have hx := G.1
  have hb := G.2.1
  have hS : va_S A s.heap s.heap [] := va_S.rf
  have hP : va_P D vwCl ([(z, .inr (1, [.ref b.1, .int 0, .int b.2.2.1, .int (nI n)])), (b.1, .inl (cA 5, b.2.1, .inl b.2.2.2))]) s.heap := hP
  have hD : va_D A ([(z, .inr (1, [.ref b.1, .int 0, .int b.2.2.1, .int (nI n)])), (b.1, .inl (cA 5, b.2.1, .inl b.2.2.2))]) := hD
  have hl : lv_has ls 2 [(0, .ref z), (1, .int (nI v))] := hl
  refine lv_aload_n hx hb dJ4_append_cf468_0 rfl (lv_at hl 0 rfl) ?_
  refine lv_iload_n hx hb dJ4_append_cf468_1 rfl (lv_at hl 1 rfl) ?_
  refine c_callSUr (nA := 1) (C := RJ4) (T := TJ4) (M := 4) (ci := 1) ([]) (sbC cA z n b) 0 rfl rfl (mJ5_append_3fe6f l D cA ad adF adW tt ST hT hW hSP t z n v b hok0 hn1 hv) G hP hD hS (List.Perm.of_eq rfl) (g_goodSU q4_136 q9_168 q2_48 q4_137 q1_12 q4_138) (by decide +kernel) (by decide) rfl hl.1 [] rfl (Nat.le_of_ble_eq_true rfl) dJ4_append_cf468_2 (fun b1 H locs hok hP hD hS => ?_)
  have hP : va_P D vwCl ([(z, .inr (1, [.ref b1.1, .int 0, .int b1.2.2.1, .int (nI (n + 1))])), (b1.1, .inl (cA 5, b1.2.1, .inl b1.2.2.2))]) H := hP
  have hD : va_D A ([(z, .inr (1, [.ref b1.1, .int 0, .int b1.2.2.1, .int (nI (n + 1))])), (b1.1, .inl (cA 5, b1.2.1, .inl b1.2.2.2))]) := hD
  refine lv_pop hx hb dJ4_append_cf468_5 rfl ?_
  refine lv_aload_n hx hb dJ4_append_cf468_6 rfl (lv_at hl 0 rfl) ?_
  exact c_reta b1 hok rfl (Or.inl ⟨_, rfl⟩) G hP hD hS (by decide) dJ4_append_cf468_7
set_option maxHeartbeats 4000000 in
set_option maxRecDepth 100000 in
theorem mJ6_getChars_ba4f3 (l : Launch) (D : va_G) (cA : Nat → ClassId) (ad adF adW tt : Nat → Nat) (ST : gST) (hT : STE ad adF adW tt ST) (hW : STW adW tt ST) (hSP : STP ST) (hSD : STD tt ST) (q L n v : Nat) (f : Nat → Int32) (hv : v < 2 ^ 31) (hpL : n + sb_dg v ≤ L) (hL9 : L ≤ 34) : gMetG l yJ6_getChars_ba4f3 cJ6_getChars_ba4f3 7 (some .int) 0 0 0 D (TYS cA) ST ([(q, .inl (cA 5, L, .inl f))]) [.int (nI v), .int (nI (n + sb_dg v)), .ref q] (gGi D (TYS cA) (fun _ (a9 : Nat → Int32) => (∀ j, j < n ∨ n + sb_dg v ≤ j → a9 j = f j) ∧ (∀ i, i < sb_dg v → a9 (n + sb_dg v - 1 - i) = sb_b (48 + v / 10 ^ i % 10)) ∧ (sb_Fit f → sb_Fit a9)) (fun a9 => [(q, .inl (cA 5, L, .inl a9))])) := by
  refine g_ofWG hT.1 (by decide +kernel) (Nat.le_of_ble_eq_true rfl) ?_
  intro p e s m args below meth c ls A G hP hD hl
  have G : GC p s m args meth c cJ6_getChars_ba4f3 7 RJ6 (some .int) A D (TYS cA) ST := G
  have hx := G.1
  have hb := G.2.1
  have hS : va_S A s.heap s.heap [] := va_S.rf
  have hP : va_P D vwCl ([(q, .inl (cA 5, L, .inl f))]) s.heap := hP
  have hD : va_D A ([(q, .inl (cA 5, L, .inl f))]) := hD
  have hl : lv_has ls 7 [(0, .int (nI v)), (1, .int (nI (n + sb_dg v))), (2, .ref q)] := hl
  have hL : ∀ (k w p0 : Nat) (f0 : Nat → Int32) (H : Heap) (locs : List Loc) (ls : Array Slot), w < k → w < 2 ^ 31 → p0 = n + sb_dg w → p0 ≤ L → (∀ a9 : Nat → Int32, (∀ j, j < n ∨ p0 ≤ j → a9 j = f0 j) → (∀ i, i < sb_dg w → a9 (p0 - 1 - i) = sb_b (48 + w / 10 ^ i % 10)) → (sb_Fit f0 → sb_Fit a9) → (∀ j, j < n ∨ n + sb_dg v ≤ j → a9 j = f j) ∧ (∀ i, i < sb_dg v → a9 (n + sb_dg v - 1 - i) = sb_b (48 + v / 10 ^ i % 10)) ∧ (sb_Fit f → sb_Fit a9)) → va_P D vwCl [(q, .inl (cA 5, L, .inl f0))] H → va_D A [(q, .inl (cA 5, L, .inl f0))] → va_S A s.heap H locs → lv_has ls 7 [(0, .int (-nI w)), (2, .ref q), (5, .int (nI p0)), (6, .int 0)] → W p l e (RMC 0 0 0) s m args below meth c H locs 0 0 (MQ below (gGi D (TYS cA) (fun _ (a9 : Nat → Int32) => (∀ j, j < n ∨ n + sb_dg v ≤ j → a9 j = f j) ∧ (∀ i, i < sb_dg v → a9 (n + sb_dg v - 1 - i) = sb_b (48 + v / 10 ^ i % 10)) ∧ (sb_Fit f → sb_Fit a9)) (fun a9 => [(q, .inl (cA 5, L, .inl a9))]) A) args s 0 0 A) (F0 m 22 ls []) := by
    intro k
    induction k with
    | zero => intro w p0 f0 H locs ls h; omega
    | succ k ih =>
      intro w p0 f0 H locs ls hwk hw hp hpm hQ hP hD hS hl
      have hd1 := (sb_dg_in w).1
      have ew : (nI w).toNatClampNeg = w := nI_clamp hw
      have hSD := hSD _ _ G.2.2.2.2.2.2.2.2.2.2.1
      by_cases h100 : w < 100
      · skip
        refine lv_iload_n hx hb dJ6_getChars_ba4f3_22 rfl (lv_at hl 0 rfl) ?_
        refine lv_bipush (v := (-100)) hx hb dJ6_getChars_ba4f3_23 (by decide) ?_
        refine lv_icmp_gt (tgt := 72) hx hb dJ6_getChars_ba4f3_25 (by decide) (fun c9 => ?_) (fun c9 => absurd (show -nI 100 < -nI w from (sb_nlt (by decide) hw).mpr h100) c9)
        refine lv_aload_n hx hb dJ6_getChars_ba4f3_72 rfl (lv_at hl 1 rfl) ?_
        refine lv_iinc (v := (nI (p0 - 1))) (lv' := [(5, .int (nI (p0 - 1))), (0, .int (-nI w)), (2, .ref q), (6, .int 0)]) hx hb dJ6_getChars_ba4f3_73 hl (k := 2) rfl (by rw [show Int32.ofInt (-1) = -1 from by decide]; exact sb_m1 (by omega)) (by decide) rfl (fun ls hl => ?_)
        refine lv_iload hx hb dJ6_getChars_ba4f3_76 (lv_at hl 0 rfl) ?_
        refine va_gets hx hb hSD.1.1 hS G.2.2.2.1 (G.2.2.2.2.1 _ q3_173) (fun _ h9 => h9) dJ6_getChars_ba4f3_78 ?_
        refine lv_iload_n hx hb dJ6_getChars_ba4f3_81 rfl (lv_at hl 1 rfl) ?_
        refine lv_ineg hx hb dJ6_getChars_ba4f3_82 ?_
        rw [show -(-nI w) = (nI w) from Int32.neg_neg]
        refine va_tb (v := .int (sb_ones w)) hx hb hSD.1.2 hS (vp_in_nI h100 (by decide)) (by rw [ew]) dJ6_getChars_ba4f3_83 ?_
        refine va_bast hx hb G.2.2.2.2.2.2.2.2.1 hP hD hS 0 5 rfl rfl (vp_in_nI (by omega) (by omega)) dJ6_getChars_ba4f3_84 (fun H locs hP hD hS => ?_)
        rw [show upd f0 (nI (p0 - 1)).toNatClampNeg (vp_nar .byte (sb_ones w)) = (upd f0 (p0 - 1) (sb_b (48 + w % 10))) from by rw [nI_clamp (by omega), (sb_tb w h100).1]] at hP hD
        have hP : va_P D vwCl ([(q, .inl (cA 5, L, .inl (upd f0 (p0 - 1) (sb_b (48 + w % 10)))))]) H := hP
        have hD : va_D A ([(q, .inl (cA 5, L, .inl (upd f0 (p0 - 1) (sb_b (48 + w % 10)))))]) := hD
        refine lv_iload_n hx hb dJ6_getChars_ba4f3_85 rfl (lv_at hl 1 rfl) ?_
        refine lv_bipush (v := (-9)) hx hb dJ6_getChars_ba4f3_86 (by decide) ?_
        by_cases h9 : w < 10
        · skip
          have hd : sb_dg w = 1 := if_pos h9
          refine lv_icmp_ge (tgt := 104) hx hb dJ6_getChars_ba4f3_88 (by decide) (fun c9 => ?_) (fun c9 => absurd (show -nI 9 ≤ -nI w from (sb_nle (by decide) hw).mpr (by omega)) c9)
          refine lv_iload hx hb dJ6_getChars_ba4f3_104 (lv_at hl 3 rfl) ?_
          refine lv_if_eq (tgt := 118) hx hb dJ6_getChars_ba4f3_106 (by decide) (fun c9 => ?_) (fun c9 => absurd (rfl) c9)
          refine lv_iload hx hb dJ6_getChars_ba4f3_118 (lv_at hl 0 rfl) ?_
          refine c_reti (upd f0 (p0 - 1) (sb_b (48 + w % 10))) (hQ _ (fun j hj => pk_un (by omega)) (fun i hi => ?_) (fun hf => sb_fitU hf (sb_fitB _))) rfl G hP hD hS (by decide) dJ6_getChars_ba4f3_120
          obtain rfl : i = 0 := by omega
          rw [Nat.sub_zero, pk_us, Nat.pow_zero, Nat.div_one]
        have hd : sb_dg w = 2 := by rw [sb_dg, if_neg h9, if_pos h100]
        have d2 : w / 10 % 10 = w / 10 := by omega
        refine lv_icmp_ge (tgt := 104) hx hb dJ6_getChars_ba4f3_88 (by decide) (fun c9 => absurd c9 (fun z9 => by have := (sb_nle (by decide) hw).mp (show -nI 9 ≤ -nI w from z9); omega)) (fun c9 => ?_)
        refine lv_aload_n hx hb dJ6_getChars_ba4f3_91 rfl (lv_at hl 2 rfl) ?_
        refine lv_iinc (v := (nI (p0 - 1 - 1))) (lv' := [(5, .int (nI (p0 - 1 - 1))), (0, .int (-nI w)), (2, .ref q), (6, .int 0)]) hx hb dJ6_getChars_ba4f3_92 hl (k := 0) rfl (by rw [show Int32.ofInt (-1) = -1 from by decide]; exact sb_m1 (by omega)) (by decide) rfl (fun ls hl => ?_)
        refine lv_iload hx hb dJ6_getChars_ba4f3_95 (lv_at hl 0 rfl) ?_
        refine va_gets hx hb hSD.2.1 hS G.2.2.2.1 (G.2.2.2.2.1 _ q3_175) (fun _ h9 => h9) dJ6_getChars_ba4f3_97 ?_
        refine lv_iload_n hx hb dJ6_getChars_ba4f3_100 rfl (lv_at hl 1 rfl) ?_
        refine lv_ineg hx hb dJ6_getChars_ba4f3_101 ?_
        rw [show -(-nI w) = (nI w) from Int32.neg_neg]
        refine va_tb (v := .int (sb_tens w)) hx hb hSD.2.2 hS (vp_in_nI h100 (by decide)) (by rw [ew]) dJ6_getChars_ba4f3_102 ?_
        refine va_bast hx hb G.2.2.2.2.2.2.2.2.1 hP hD hS 0 5 rfl rfl (vp_in_nI (by omega) (by omega)) dJ6_getChars_ba4f3_103 (fun H locs hP hD hS => ?_)
        rw [show upd (upd f0 (p0 - 1) (sb_b (48 + w % 10))) (nI (p0 - 1 - 1)).toNatClampNeg (vp_nar .byte (sb_tens w)) = (upd (upd f0 (p0 - 1) (sb_b (48 + w % 10))) (p0 - 1 - 1) (sb_b (48 + w / 10))) from by rw [nI_clamp (by omega), (sb_tb w h100).2]] at hP hD
        have hP : va_P D vwCl ([(q, .inl (cA 5, L, .inl (upd (upd f0 (p0 - 1) (sb_b (48 + w % 10))) (p0 - 1 - 1) (sb_b (48 + w / 10)))))]) H := hP
        have hD : va_D A ([(q, .inl (cA 5, L, .inl (upd (upd f0 (p0 - 1) (sb_b (48 + w % 10))) (p0 - 1 - 1) (sb_b (48 + w / 10)))))]) := hD
        refine lv_iload hx hb dJ6_getChars_ba4f3_104 (lv_at hl 3 rfl) ?_
        refine lv_if_eq (tgt := 118) hx hb dJ6_getChars_ba4f3_106 (by decide) (fun c9 => ?_) (fun c9 => absurd (rfl) c9)
        refine lv_iload hx hb dJ6_getChars_ba4f3_118 (lv_at hl 0 rfl) ?_
        refine c_reti (upd (upd f0 (p0 - 1) (sb_b (48 + w % 10))) (p0 - 1 - 1) (sb_b (48 + w / 10))) (hQ _ (fun j hj => by rw [pk_un (by omega), pk_un (by omega)]) (fun i hi => ?_) (fun hf => sb_fitU (sb_fitU hf (sb_fitB _)) (sb_fitB _))) rfl G hP hD hS (by decide) dJ6_getChars_ba4f3_120
        obtain rfl | rfl : i = 0 ∨ i = 1 := by omega
        · rw [Nat.sub_zero, pk_un (by omega), pk_us, Nat.pow_zero, Nat.div_one]
        · rw [pk_us, Nat.pow_one, d2]
      obtain ⟨t1, t2⟩ := sb_tb (w % 100) (Nat.mod_lt _ (by decide))
      have hd := sb_dg100 (w := w) (by omega) hw
      have hd2 := (sb_dg_in (w / 100)).1
      have er : (nI (w % 100)).toNatClampNeg = w % 100 := nI_clamp (by omega)
      rw [show w % 100 % 10 = w % 10 by omega] at t1
      rw [show w % 100 / 10 = w / 10 % 10 by omega] at t2
      refine lv_iload_n hx hb dJ6_getChars_ba4f3_22 rfl (lv_at hl 0 rfl) ?_
      refine lv_bipush (v := (-100)) hx hb dJ6_getChars_ba4f3_23 (by decide) ?_
      refine lv_icmp_gt (tgt := 72) hx hb dJ6_getChars_ba4f3_25 (by decide) (fun c9 => absurd c9 (fun z9 => h100 ((sb_nlt (by decide) hw).mp (show -nI 100 < -nI w from z9)))) (fun c9 => ?_)
      refine lv_iload_n hx hb dJ6_getChars_ba4f3_28 rfl (lv_at hl 0 rfl) ?_
      refine lv_bipush (v := 100) hx hb dJ6_getChars_ba4f3_29 (by decide) ?_
      refine lv_idiv hx hb dJ6_getChars_ba4f3_31 (by decide) ?_
      rw [show (-nI w) / 100 = (-nI (w / 100)) from sb_ndiv hw]
      refine lv_istore_n (lv' := [(3, .int (-nI (w / 100))), (0, .int (-nI w)), (2, .ref q), (5, .int (nI p0)), (6, .int 0)]) hx hb dJ6_getChars_ba4f3_32 rfl hl (by decide) rfl (fun ls hl => ?_)
      refine lv_iload_n hx hb dJ6_getChars_ba4f3_33 rfl (lv_at hl 0 rfl) ?_
      refine lv_bipush (v := 100) hx hb dJ6_getChars_ba4f3_34 (by decide) ?_
      refine lv_imul hx hb dJ6_getChars_ba4f3_36 ?_
      refine lv_iload_n hx hb dJ6_getChars_ba4f3_37 rfl (lv_at hl 1 rfl) ?_
      refine lv_isub hx hb dJ6_getChars_ba4f3_38 ?_
      rw [show ((-nI (w / 100)) * 100) - (-nI w) = (nI (w % 100)) from sb_nrem hw]
      refine lv_istore (lv' := [(4, .int (nI (w % 100))), (3, .int (-nI (w / 100))), (0, .int (-nI w)), (2, .ref q), (5, .int (nI p0)), (6, .int 0)]) hx hb dJ6_getChars_ba4f3_39 hl (by decide) rfl (fun ls hl => ?_)
      refine lv_iload_n hx hb dJ6_getChars_ba4f3_41 rfl (lv_at hl 1 rfl) ?_
      refine lv_istore_n (lv' := [(0, .int (-nI (w / 100))), (4, .int (nI (w % 100))), (3, .int (-nI (w / 100))), (2, .ref q), (5, .int (nI p0)), (6, .int 0)]) hx hb dJ6_getChars_ba4f3_42 rfl hl (by decide) rfl (fun ls hl => ?_)
      refine lv_aload_n hx hb dJ6_getChars_ba4f3_43 rfl (lv_at hl 3 rfl) ?_
      refine lv_iinc (v := (nI (p0 - 1))) (lv' := [(5, .int (nI (p0 - 1))), (0, .int (-nI (w / 100))), (4, .int (nI (w % 100))), (3, .int (-nI (w / 100))), (2, .ref q), (6, .int 0)]) hx hb dJ6_getChars_ba4f3_44 hl (k := 4) rfl (by rw [show Int32.ofInt (-1) = -1 from by decide]; exact sb_m1 (by omega)) (by decide) rfl (fun ls hl => ?_)
      refine lv_iload hx hb dJ6_getChars_ba4f3_47 (lv_at hl 0 rfl) ?_
      refine va_gets hx hb hSD.1.1 hS G.2.2.2.1 (G.2.2.2.2.1 _ q3_173) (fun _ h9 => h9) dJ6_getChars_ba4f3_49 ?_
      refine lv_iload hx hb dJ6_getChars_ba4f3_52 (lv_at hl 2 rfl) ?_
      refine va_tb (v := .int (sb_ones (w % 100))) hx hb hSD.1.2 hS (vp_in_nI (by omega) (by decide)) (by rw [er]) dJ6_getChars_ba4f3_54 ?_
      refine va_bast hx hb G.2.2.2.2.2.2.2.2.1 hP hD hS 0 5 rfl rfl (vp_in_nI (by omega) (by omega)) dJ6_getChars_ba4f3_55 (fun H locs hP hD hS => ?_)
      rw [show upd f0 (nI (p0 - 1)).toNatClampNeg (vp_nar .byte (sb_ones (w % 100))) = (upd f0 (p0 - 1) (sb_b (48 + w % 10))) from by rw [nI_clamp (by omega), t1]] at hP hD
      have hP : va_P D vwCl ([(q, .inl (cA 5, L, .inl (upd f0 (p0 - 1) (sb_b (48 + w % 10)))))]) H := hP
      have hD : va_D A ([(q, .inl (cA 5, L, .inl (upd f0 (p0 - 1) (sb_b (48 + w % 10)))))]) := hD
      refine lv_aload_n hx hb dJ6_getChars_ba4f3_56 rfl (lv_at hl 4 rfl) ?_
      refine lv_iinc (v := (nI (p0 - 1 - 1))) (lv' := [(5, .int (nI (p0 - 1 - 1))), (0, .int (-nI (w / 100))), (4, .int (nI (w % 100))), (3, .int (-nI (w / 100))), (2, .ref q), (6, .int 0)]) hx hb dJ6_getChars_ba4f3_57 hl (k := 0) rfl (by rw [show Int32.ofInt (-1) = -1 from by decide]; exact sb_m1 (by omega)) (by decide) rfl (fun ls hl => ?_)
      refine lv_iload hx hb dJ6_getChars_ba4f3_60 (lv_at hl 0 rfl) ?_
      refine va_gets hx hb hSD.2.1 hS G.2.2.2.1 (G.2.2.2.2.1 _ q3_175) (fun _ h9 => h9) dJ6_getChars_ba4f3_62 ?_
      refine lv_iload hx hb dJ6_getChars_ba4f3_65 (lv_at hl 2 rfl) ?_
      refine va_tb (v := .int (sb_tens (w % 100))) hx hb hSD.2.2 hS (vp_in_nI (by omega) (by decide)) (by rw [er]) dJ6_getChars_ba4f3_67 ?_
      refine va_bast hx hb G.2.2.2.2.2.2.2.2.1 hP hD hS 0 5 rfl rfl (vp_in_nI (by omega) (by omega)) dJ6_getChars_ba4f3_68 (fun H locs hP hD hS => ?_)
      rw [show upd (upd f0 (p0 - 1) (sb_b (48 + w % 10))) (nI (p0 - 1 - 1)).toNatClampNeg (vp_nar .byte (sb_tens (w % 100))) = (upd (upd f0 (p0 - 1) (sb_b (48 + w % 10))) (p0 - 1 - 1) (sb_b (48 + w / 10 % 10))) from by rw [nI_clamp (by omega), t2]] at hP hD
      have hP : va_P D vwCl ([(q, .inl (cA 5, L, .inl (upd (upd f0 (p0 - 1) (sb_b (48 + w % 10))) (p0 - 1 - 1) (sb_b (48 + w / 10 % 10)))))]) H := hP
      have hD : va_D A ([(q, .inl (cA 5, L, .inl (upd (upd f0 (p0 - 1) (sb_b (48 + w % 10))) (p0 - 1 - 1) (sb_b (48 + w / 10 % 10)))))]) := hD
      refine lv_goto (tgt := 22) hx hb dJ6_getChars_ba4f3_69 (by decide) ?_
      refine ih (w / 100) (p0 - 1 - 1) _ _ _ _ (by omega) (by omega) (by omega) (by omega) (fun a9 h1 h2 h3 => ?_) hP hD hS (lv_sub hl [1, 4, 0, 5] rfl)
      refine hQ a9 (fun j hj => by rw [h1 j (by omega), pk_un (by omega), pk_un (by omega)]) (fun i hi => ?_) (fun hf => h3 (sb_fitU (sb_fitU hf (sb_fitB _)) (sb_fitB _)))
      match i, hi with
      | 0, _ => rw [Nat.sub_zero, h1 _ (by omega), pk_un (by omega), pk_us, Nat.pow_zero, Nat.div_one]
      | 1, _ => rw [h1 _ (by omega), pk_us, Nat.pow_one]
      | k9 + 2, hi =>
        rw [show p0 - 1 - (k9 + 2) = p0 - 1 - 1 - 1 - k9 by omega, h2 k9 (by omega), Nat.div_div_eq_div_mul, show 100 * 10 ^ k9 = 10 ^ (k9 + 2) by rw [show k9 + 2 = k9 + 1 + 1 from rfl, Nat.pow_succ, Nat.pow_succ]; omega]
  refine lv_iload_n hx hb dJ6_getChars_ba4f3_0 rfl (lv_at hl 1 rfl) ?_
  refine lv_istore (lv' := [(5, .int (nI (n + sb_dg v))), (0, .int (nI v)), (1, .int (nI (n + sb_dg v))), (2, .ref q)]) hx hb dJ6_getChars_ba4f3_1 hl (by decide) rfl (fun ls hl => ?_)
  refine lv_iload_n hx hb dJ6_getChars_ba4f3_3 rfl (lv_at hl 1 rfl) ?_
  refine lv_if_ge (tgt := 11) hx hb dJ6_getChars_ba4f3_4 (by decide) (fun c9 => ?_) (fun c9 => absurd (nI_pos' hv) c9)
  refine lv_iconst (v := 0) hx hb dJ6_getChars_ba4f3_11 (by decide) ?_
  refine lv_istore (lv' := [(6, .int 0), (5, .int (nI (n + sb_dg v))), (0, .int (nI v)), (1, .int (nI (n + sb_dg v))), (2, .ref q)]) hx hb dJ6_getChars_ba4f3_12 hl (by decide) rfl (fun ls hl => ?_)
  refine lv_iload hx hb dJ6_getChars_ba4f3_14 (lv_at hl 0 rfl) ?_
  refine lv_if_ne (tgt := 22) hx hb dJ6_getChars_ba4f3_16 (by decide) (fun c9 => absurd (rfl) c9) (fun c9 => ?_)
  refine lv_iload_n hx hb dJ6_getChars_ba4f3_19 rfl (lv_at hl 2 rfl) ?_
  refine lv_ineg hx hb dJ6_getChars_ba4f3_20 ?_
  rw [show -(nI v) = (-nI v) from rfl]
  refine lv_istore_n (lv' := [(0, .int (-nI v)), (6, .int 0), (5, .int (nI (n + sb_dg v))), (1, .int (nI (n + sb_dg v))), (2, .ref q)]) hx hb dJ6_getChars_ba4f3_21 rfl hl (by decide) rfl (fun ls hl => ?_)
  exact hL (v + 1) v _ f _ _ _ (by omega) hv rfl hpL (fun a9 h1 h2 h3 => ⟨h1, h2, h3⟩) hP hD hS (lv_sub hl [0, 4, 2, 1] rfl)
set_option maxHeartbeats 4000000 in
set_option maxRecDepth 100000 in
theorem mJ5_append_c97b9 (l : Launch) (D : va_G) (cA : Nat → ClassId) (ad adF adW tt : Nat → Nat) (ST : gST) (hT : STE ad adF adW tt ST) (hW : STW adW tt ST) (hSP : STP ST) (hSD : STD tt ST) (t : Nat → Nat) (z n v : Nat) (b : SBb) (hok0 : SBok t n b) (hn1 : n + sb_dg v ≤ 34) (hv : v < 2 ^ 31) : gMetG l yJ5_append_c97b9 cJ5_append_c97b9 4 (some (.object "java/lang/AbstractStringBuilder")) 5 1 34 D (TYS cA) ST (sbC cA z n b) [.ref z, .int (nI v)] (gGr D (TYS cA) (fun b9 : SBb => SBok (sb_cat t n (sb_dec v)) (n + sb_dg v) b9) (fun _ => z) (fun b9 => sbC cA z (n + sb_dg v) b9)) := by
  refine g_ofWG hT.1 (by decide +kernel) (Nat.le_of_ble_eq_true rfl) ?_
  intro p e s m args below meth c ls A G hP hD hl
  have G : GC p s m args meth c cJ5_append_c97b9 4 RJ5 (some (.object "java/lang/AbstractStringBuilder")) A D (TYS cA) ST := G
  have hx := G.1
  have hb := G.2.1
  have hS : va_S A s.heap s.heap [] := va_S.rf
  have hP : va_P D vwCl ([(z, .inr (1, [.ref b.1, .int 0, .int b.2.2.1, .int (nI n)])), (b.1, .inl (cA 5, b.2.1, .inl b.2.2.2))]) s.heap := hP
  have hD : va_D A ([(z, .inr (1, [.ref b.1, .int 0, .int b.2.2.1, .int (nI n)])), (b.1, .inl (cA 5, b.2.1, .inl b.2.2.2))]) := hD
  have hl : lv_has ls 4 [(0, .ref z), (1, .int (nI v))] := hl
  have hL0 : b.2.1 = 16 ∨ b.2.1 = 34 := hok0.1
  have hdg := sb_dg_in v
  refine lv_aload_n hx hb dJ5_append_c97b9_0 rfl (lv_at hl 0 rfl) ?_
  refine c_get (F := [(z, .inr (1, [.ref b.1, .int 0, .int b.2.2.1, .int (nI n)])), (b.1, .inl (cA 5, b.2.1, .inl b.2.2.2))]) (B := []) (C := RJ4) (T := TJ4) (M := 4) (ci := 1) G hP 0 3 i_J4 rfl rfl (by decide) q2_39 rfl dJ5_append_c97b9_1 ?_
  refine lv_istore_n (lv' := [(2, .int (nI n)), (0, .ref z), (1, .int (nI v))]) hx hb dJ5_append_c97b9_4 rfl hl (by decide) rfl (fun ls hl => ?_)
  refine lv_iload_n hx hb dJ5_append_c97b9_5 rfl (lv_at hl 0 rfl) ?_
  refine lv_iload_n hx hb dJ5_append_c97b9_6 rfl (lv_at hl 2 rfl) ?_
  refine c_callSi (nA := 1) (sbC cA z n b) ([]) (mJ6_stringSize_0f7a4 l D cA ad adF adW tt ST hT hW hSP v hv) G hP hD hS (List.Perm.of_eq (List.append_nil _).symm) (g_goodSX q3_167 q3_168 q1_37 q3_169) (by decide +kernel) (by decide) rfl hl.1 [.int (nI n)] rfl (Nat.le_of_ble_eq_true rfl) dJ5_append_c97b9_7 (fun r b9 H locs hok hP hD hS => ?_)
  have hP : va_P D vwCl ([(z, .inr (1, [.ref b.1, .int 0, .int b.2.2.1, .int (nI n)])), (b.1, .inl (cA 5, b.2.1, .inl b.2.2.2))]) H := hP
  have hD : va_D A ([(z, .inr (1, [.ref b.1, .int 0, .int b.2.2.1, .int (nI n)])), (b.1, .inl (cA 5, b.2.1, .inl b.2.2.2))]) := hD
  subst hok
  refine lv_iadd hx hb dJ5_append_c97b9_10 ?_
  rw [show (nI n) + (nI (sb_dg v)) = (nI (n + sb_dg v)) from nI_add n _]
  refine lv_istore_n (lv' := [(3, .int (nI (n + sb_dg v))), (2, .int (nI n)), (0, .ref z), (1, .int (nI v))]) hx hb dJ5_append_c97b9_11 rfl hl (by decide) rfl (fun ls hl => ?_)
  refine lv_aload_n hx hb dJ5_append_c97b9_12 rfl (lv_at hl 2 rfl) ?_
  refine lv_iload_n hx hb dJ5_append_c97b9_13 rfl (lv_at hl 0 rfl) ?_
  refine c_callPv (nA := 1) (x := ⟨RJ5, "ensureCapacityInternal", "(I)V"⟩) (owner := RJ5) (C := RJ4) (T := TJ4) (M := 4) (ci := 1) ([]) (sbC cA z n b) 0 rfl rfl (mJ5_ensureCapacityInternal_d00df l D cA ad adF adW tt ST hT hW hSP t z n (n + sb_dg v) b hok0 hn1) G hP hD hS (List.Perm.of_eq rfl) (g_goodP q3_55 q9_161 rfl q3_57 q1_12 q3_58) rfl (hSP _ _ G.2.2.2.2.2.2.2.2.2.2.1 args).2 (by decide +kernel) (by decide) rfl hl.1 [] rfl (Nat.le_of_ble_eq_true rfl) dJ5_append_c97b9_14 (fun b1 H locs hok hP hD hS => ?_)
  have hP : va_P D vwCl ([(z, .inr (1, [.ref b1.1, .int 0, .int b1.2.2.1, .int (nI n)])), (b1.1, .inl (cA 5, b1.2.1, .inl b1.2.2.2))]) H := hP
  have hD : va_D A ([(z, .inr (1, [.ref b1.1, .int 0, .int b1.2.2.1, .int (nI n)])), (b1.1, .inl (cA 5, b1.2.1, .inl b1.2.2.2))]) := hD
  obtain ⟨⟨hL, hn, hLat, hFit, hml⟩, hk⟩ := hok
  have hL9 : b1.2.1 ≤ 34 := by omega
  refine lv_aload_n hx hb dJ5_append_c97b9_17 rfl (lv_at hl 2 rfl) ?_
  refine c_callUi (nA := 0) (x := ⟨RJ5, "isLatin1", "()Z"⟩) (owner := RJ5) (C := RJ4) (T := TJ4) (M := 4) (ci := 1) ([]) (sbC cA z n b1) 0 rfl rfl (mJ5_isLatin1_aae02 l D cA ad adF adW tt ST hT hW hSP z n b1) G hP hD hS (List.Perm.of_eq rfl) (g_goodU q3_86 q3_88 q3_89 q3_87 q1_12 q3_90) rfl (by decide +kernel) (by decide) rfl hl.1 [] rfl (Nat.le_of_ble_eq_true rfl) dJ5_append_c97b9_18 (fun r b9 H locs hok hP hD hS => ?_)
  have hP : va_P D vwCl ([(z, .inr (1, [.ref b1.1, .int 0, .int b1.2.2.1, .int (nI n)])), (b1.1, .inl (cA 5, b1.2.1, .inl b1.2.2.2))]) H := hP
  have hD : va_D A ([(z, .inr (1, [.ref b1.1, .int 0, .int b1.2.2.1, .int (nI n)])), (b1.1, .inl (cA 5, b1.2.1, .inl b1.2.2.2))]) := hD
  subst hok
  refine lv_if_eq (tgt := 37) hx hb dJ5_append_c97b9_21 (by decide) (fun c9 => absurd c9 (by decide)) (fun c9 => ?_)
  refine lv_iload_n hx hb dJ5_append_c97b9_24 rfl (lv_at hl 3 rfl) ?_
  refine lv_iload_n hx hb dJ5_append_c97b9_25 rfl (lv_at hl 0 rfl) ?_
  refine lv_aload_n hx hb dJ5_append_c97b9_26 rfl (lv_at hl 2 rfl) ?_
  refine c_get (F := [(z, .inr (1, [.ref b1.1, .int 0, .int b1.2.2.1, .int (nI n)])), (b1.1, .inl (cA 5, b1.2.1, .inl b1.2.2.2))]) (B := []) (C := RJ4) (T := TJ4) (M := 4) (ci := 1) G hP 0 0 i_J4 rfl rfl (by decide) q2_35 rfl dJ5_append_c97b9_27 ?_
  refine c_callSi (nA := 3) ([(z, .inr (1, [.ref b1.1, .int 0, .int b1.2.2.1, .int (nI n)]))]) ([(b1.1, .inl (cA 5, b1.2.1, .inl b1.2.2.2))]) (mJ6_getChars_ba4f3 l D cA ad adF adW tt ST hT hW hSP hSD b1.1 b1.2.1 n v b1.2.2.2 hv hk hL9) G hP hD hS (List.Perm.of_eq rfl) (g_goodSX q3_170 q3_171 q1_37 q3_172) (by decide +kernel) (by decide) rfl hl.1 [] rfl (Nat.le_of_ble_eq_true rfl) dJ5_append_c97b9_30 (fun r a9 H locs hok hP hD hS => ?_)
  have hP : va_P D vwCl ([(z, .inr (1, [.ref b1.1, .int 0, .int b1.2.2.1, .int (nI n)])), (b1.1, .inl (cA 5, b1.2.1, .inl a9))]) H := hP
  have hD : va_D A ([(z, .inr (1, [.ref b1.1, .int 0, .int b1.2.2.1, .int (nI n)])), (b1.1, .inl (cA 5, b1.2.1, .inl a9))]) := hD
  obtain ⟨h1, h2, h3⟩ := hok
  refine lv_pop hx hb dJ5_append_c97b9_33 rfl ?_
  refine lv_goto (tgt := 48) hx hb dJ5_append_c97b9_34 (by decide) ?_
  refine lv_aload_n hx hb dJ5_append_c97b9_48 rfl (lv_at hl 2 rfl) ?_
  refine lv_iload_n hx hb dJ5_append_c97b9_49 rfl (lv_at hl 0 rfl) ?_
  refine c_putJ (F := [(z, .inr (1, [.ref b1.1, .int 0, .int b1.2.2.1, .int (nI n)])), (b1.1, .inl (cA 5, b1.2.1, .inl a9))]) (B := []) (C := RJ4) (T := TJ4) (M := 4) (ci := 1) (v := .int (nI (n + sb_dg v))) G hP hD hS 0 3 i_J4 rfl tyJ4 tyJ4_ok nmJ4 rfl (by decide) q2_39 rfl rfl rfl (Nat.le_of_ble_eq_true rfl) dJ5_append_c97b9_50 (fun H locs hP hD hS => ?_)
  have hP : va_P D vwCl ([(z, .inr (1, [.ref b1.1, .int 0, .int b1.2.2.1, .int (nI (n + sb_dg v))])), (b1.1, .inl (cA 5, b1.2.1, .inl a9))]) H := hP
  have hD : va_D A ([(z, .inr (1, [.ref b1.1, .int 0, .int b1.2.2.1, .int (nI (n + sb_dg v))])), (b1.1, .inl (cA 5, b1.2.1, .inl a9))]) := hD
  refine lv_aload_n hx hb dJ5_append_c97b9_53 rfl (lv_at hl 2 rfl) ?_
  refine c_reta (b1.1, b1.2.1, b1.2.2.1, a9) ⟨hL, hk, sb_latPut hLat (fun j hj => h1 j (Or.inl hj)) (fun i hi => ?_), h3 hFit, hml⟩ rfl (Or.inl ⟨_, rfl⟩) G hP hD hS (by decide) dJ5_append_c97b9_54
  have h9 := h2 (sb_dg v - 1 - i) (by omega)
  rw [show n + sb_dg v - 1 - (sb_dg v - 1 - i) = n + i by omega] at h9
  exact ⟨by unfold sb_dec; omega, h9⟩
set_option maxHeartbeats 4000000 in
set_option maxRecDepth 100000 in
theorem mJ4_append_bf812 (l : Launch) (D : va_G) (cA : Nat → ClassId) (ad adF adW tt : Nat → Nat) (ST : gST) (hT : STE ad adF adW tt ST) (hW : STW adW tt ST) (hSP : STP ST) (hSD : STD tt ST) (t : Nat → Nat) (z n v : Nat) (b : SBb) (hok0 : SBok t n b) (hn1 : n + sb_dg v ≤ 34) (hv : v < 2 ^ 31) : gMetG l yJ4_append_bf812 cJ4_append_bf812 2 (some (.object "java/lang/StringBuilder")) 6 1 34 D (TYS cA) ST (sbC cA z n b) [.ref z, .int (nI v)] (gGr D (TYS cA) (fun b9 : SBb => SBok (sb_cat t n (sb_dec v)) (n + sb_dg v) b9) (fun _ => z) (fun b9 => sbC cA z (n + sb_dg v) b9)) := by
  refine g_ofWG hT.1 (by decide +kernel) (Nat.le_of_ble_eq_true rfl) ?_
  intro p e s m args below meth c ls A G hP hD hl
  have G : GC p s m args meth c cJ4_append_bf812 2 RJ4 (some (.object "java/lang/StringBuilder")) A D (TYS cA) ST := G
  have hx := G.1
  have hb := G.2.1
  have hS : va_S A s.heap s.heap [] := va_S.rf
  have hP : va_P D vwCl ([(z, .inr (1, [.ref b.1, .int 0, .int b.2.2.1, .int (nI n)])), (b.1, .inl (cA 5, b.2.1, .inl b.2.2.2))]) s.heap := hP
  have hD : va_D A ([(z, .inr (1, [.ref b.1, .int 0, .int b.2.2.1, .int (nI n)])), (b.1, .inl (cA 5, b.2.1, .inl b.2.2.2))]) := hD
  have hl : lv_has ls 2 [(0, .ref z), (1, .int (nI v))] := hl
  refine lv_aload_n hx hb dJ4_append_bf812_0 rfl (lv_at hl 0 rfl) ?_
  refine lv_iload_n hx hb dJ4_append_bf812_1 rfl (lv_at hl 1 rfl) ?_
  refine c_callSUr (nA := 1) (C := RJ4) (T := TJ4) (M := 4) (ci := 1) ([]) (sbC cA z n b) 0 rfl rfl (mJ5_append_c97b9 l D cA ad adF adW tt ST hT hW hSP hSD t z n v b hok0 hn1 hv) G hP hD hS (List.Perm.of_eq rfl) (g_goodSU q3_164 q9_166 q2_48 q3_165 q1_12 q3_166) (by decide +kernel) (by decide) rfl hl.1 [] rfl (Nat.le_of_ble_eq_true rfl) dJ4_append_bf812_2 (fun b1 H locs hok hP hD hS => ?_)
  have hP : va_P D vwCl ([(z, .inr (1, [.ref b1.1, .int 0, .int b1.2.2.1, .int (nI (n + sb_dg v))])), (b1.1, .inl (cA 5, b1.2.1, .inl b1.2.2.2))]) H := hP
  have hD : va_D A ([(z, .inr (1, [.ref b1.1, .int 0, .int b1.2.2.1, .int (nI (n + sb_dg v))])), (b1.1, .inl (cA 5, b1.2.1, .inl b1.2.2.2))]) := hD
  refine lv_pop hx hb dJ4_append_bf812_5 rfl ?_
  refine lv_aload_n hx hb dJ4_append_bf812_6 rfl (lv_at hl 0 rfl) ?_
  exact c_reta b1 hok rfl (Or.inl ⟨_, rfl⟩) G hP hD hS (by decide) dJ4_append_bf812_7
set_option maxHeartbeats 4000000 in
set_option maxRecDepth 100000 in
theorem mJ5_setLength_d00df (l : Launch) (D : va_G) (cA : Nat → ClassId) (ad adF adW tt : Nat → Nat) (ST : gST) (hT : STE ad adF adW tt ST) (hW : STW adW tt ST) (hSP : STP ST) (t : Nat → Nat) (z n : Nat) (b : SBb) (hok0 : SBok t n b) : gMetG l yJ5_setLength_d00df cJ5_setLength_d00df 2 none 5 1 34 D (TYS cA) ST (sbC cA z n b) [.ref z, .int (nI 0)] (gGv D (TYS cA) (fun b9 : SBb => SBok t 0 b9) (fun b9 => sbC cA z 0 b9)) := by
  refine g_ofWG hT.1 (by decide +kernel) (Nat.le_of_ble_eq_true rfl) ?_
  intro p e s m args below meth c ls A G hP hD hl
  have G : GC p s m args meth c cJ5_setLength_d00df 2 RJ5 none A D (TYS cA) ST := G
  have hx := G.1
  have hb := G.2.1
  have hS : va_S A s.heap s.heap [] := va_S.rf
  have hP : va_P D vwCl ([(z, .inr (1, [.ref b.1, .int 0, .int b.2.2.1, .int (nI n)])), (b.1, .inl (cA 5, b.2.1, .inl b.2.2.2))]) s.heap := hP
  have hD : va_D A ([(z, .inr (1, [.ref b.1, .int 0, .int b.2.2.1, .int (nI n)])), (b.1, .inl (cA 5, b.2.1, .inl b.2.2.2))]) := hD
  have hl : lv_has ls 2 [(0, .ref z), (1, .int (nI 0))] := hl
  have hn34 : n ≤ 34 := by have h1 := hok0.1; have h2 := hok0.2.1; omega
  refine lv_iload_n hx hb dJ5_setLength_d00df_0 rfl (lv_at hl 1 rfl) ?_
  refine lv_if_ge (tgt := 13) hx hb dJ5_setLength_d00df_1 (by decide) (fun c9 => ?_) (fun c9 => absurd (by decide) c9)
  refine lv_aload_n hx hb dJ5_setLength_d00df_13 rfl (lv_at hl 0 rfl) ?_
  refine lv_iload_n hx hb dJ5_setLength_d00df_14 rfl (lv_at hl 1 rfl) ?_
  refine c_callPv (nA := 1) (x := ⟨RJ5, "ensureCapacityInternal", "(I)V"⟩) (owner := RJ5) (C := RJ4) (T := TJ4) (M := 4) (ci := 1) ([]) (sbC cA z n b) 0 rfl rfl (mJ5_ensureCapacityInternal_d00df l D cA ad adF adW tt ST hT hW hSP t z n 0 b hok0 (by decide)) G hP hD hS (List.Perm.of_eq rfl) (g_goodP q3_55 q9_161 rfl q3_57 q1_12 q3_58) rfl (hSP _ _ G.2.2.2.2.2.2.2.2.2.2.1 args).2 (by decide +kernel) (by decide) rfl hl.1 [] rfl (Nat.le_of_ble_eq_true rfl) dJ5_setLength_d00df_15 (fun b1 H locs hok hP hD hS => ?_)
  have hP : va_P D vwCl ([(z, .inr (1, [.ref b1.1, .int 0, .int b1.2.2.1, .int (nI n)])), (b1.1, .inl (cA 5, b1.2.1, .inl b1.2.2.2))]) H := hP
  have hD : va_D A ([(z, .inr (1, [.ref b1.1, .int 0, .int b1.2.2.1, .int (nI n)])), (b1.1, .inl (cA 5, b1.2.1, .inl b1.2.2.2))]) := hD
  obtain ⟨⟨hL, hn, hLat, hFit, hml⟩, hk⟩ := hok
  refine lv_aload_n hx hb dJ5_setLength_d00df_18 rfl (lv_at hl 0 rfl) ?_
  refine c_get (F := [(z, .inr (1, [.ref b1.1, .int 0, .int b1.2.2.1, .int (nI n)])), (b1.1, .inl (cA 5, b1.2.1, .inl b1.2.2.2))]) (B := []) (C := RJ4) (T := TJ4) (M := 4) (ci := 1) G hP 0 3 i_J4 rfl rfl (by decide) q2_39 rfl dJ5_setLength_d00df_19 ?_
  refine lv_iload_n hx hb dJ5_setLength_d00df_22 rfl (lv_at hl 1 rfl) ?_
  refine lv_icmp_ge (tgt := 63) hx hb dJ5_setLength_d00df_23 (by decide) (fun c9 => ?_) (fun c9 => absurd (nI_pos' (by omega)) c9)
  refine lv_aload_n hx hb dJ5_setLength_d00df_63 rfl (lv_at hl 0 rfl) ?_
  refine c_get (F := [(z, .inr (1, [.ref b1.1, .int 0, .int b1.2.2.1, .int (nI n)])), (b1.1, .inl (cA 5, b1.2.1, .inl b1.2.2.2))]) (B := []) (C := RJ4) (T := TJ4) (M := 4) (ci := 1) G hP 0 3 i_J4 rfl rfl (by decide) q2_39 rfl dJ5_setLength_d00df_64 ?_
  refine lv_iload_n hx hb dJ5_setLength_d00df_67 rfl (lv_at hl 1 rfl) ?_
  by_cases h0 : n = 0
  · skip
    refine lv_icmp_le (tgt := 76) hx hb dJ5_setLength_d00df_68 (by decide) (fun c9 => ?_) (fun c9 => absurd (by rw [h0]; decide) c9)
    refine lv_aload_n hx hb dJ5_setLength_d00df_76 rfl (lv_at hl 0 rfl) ?_
    refine lv_iload_n hx hb dJ5_setLength_d00df_77 rfl (lv_at hl 1 rfl) ?_
    refine c_putJ (F := [(z, .inr (1, [.ref b1.1, .int 0, .int b1.2.2.1, .int (nI n)])), (b1.1, .inl (cA 5, b1.2.1, .inl b1.2.2.2))]) (B := []) (C := RJ4) (T := TJ4) (M := 4) (ci := 1) (v := .int (nI 0)) G hP hD hS 0 3 i_J4 rfl tyJ4 tyJ4_ok nmJ4 rfl (by decide) q2_39 rfl rfl rfl (Nat.le_of_ble_eq_true rfl) dJ5_setLength_d00df_78 (fun H locs hP hD hS => ?_)
    have hP : va_P D vwCl ([(z, .inr (1, [.ref b1.1, .int 0, .int b1.2.2.1, .int (nI 0)])), (b1.1, .inl (cA 5, b1.2.1, .inl b1.2.2.2))]) H := hP
    have hD : va_D A ([(z, .inr (1, [.ref b1.1, .int 0, .int b1.2.2.1, .int (nI 0)])), (b1.1, .inl (cA 5, b1.2.1, .inl b1.2.2.2))]) := hD
    exact c_retv b1 ⟨hL, Nat.zero_le _, fun j hj => absurd hj (Nat.not_lt_zero j), hFit, hml⟩ G hP hD hS (by decide) dJ5_setLength_d00df_81
  refine lv_icmp_le (tgt := 76) hx hb dJ5_setLength_d00df_68 (by decide) (fun c9 => absurd c9 (nI_nle (by omega) (by omega))) (fun c9 => ?_)
  refine lv_aload_n hx hb dJ5_setLength_d00df_71 rfl (lv_at hl 0 rfl) ?_
  refine lv_iconst (v := 1) hx hb dJ5_setLength_d00df_72 (by decide) ?_
  refine c_putJ (F := [(z, .inr (1, [.ref b1.1, .int 0, .int b1.2.2.1, .int (nI n)])), (b1.1, .inl (cA 5, b1.2.1, .inl b1.2.2.2))]) (B := []) (C := RJ4) (T := TJ4) (M := 4) (ci := 1) (v := .int 1) G hP hD hS 0 2 i_J4 rfl tyJ4 tyJ4_ok nmJ4 rfl (by decide) q2_37 rfl rfl rfl (Nat.le_of_ble_eq_true rfl) dJ5_setLength_d00df_73 (fun H locs hP hD hS => ?_)
  have hP : va_P D vwCl ([(z, .inr (1, [.ref b1.1, .int 0, .int 1, .int (nI n)])), (b1.1, .inl (cA 5, b1.2.1, .inl b1.2.2.2))]) H := hP
  have hD : va_D A ([(z, .inr (1, [.ref b1.1, .int 0, .int 1, .int (nI n)])), (b1.1, .inl (cA 5, b1.2.1, .inl b1.2.2.2))]) := hD
  refine lv_aload_n hx hb dJ5_setLength_d00df_76 rfl (lv_at hl 0 rfl) ?_
  refine lv_iload_n hx hb dJ5_setLength_d00df_77 rfl (lv_at hl 1 rfl) ?_
  refine c_putJ (F := [(z, .inr (1, [.ref b1.1, .int 0, .int 1, .int (nI n)])), (b1.1, .inl (cA 5, b1.2.1, .inl b1.2.2.2))]) (B := []) (C := RJ4) (T := TJ4) (M := 4) (ci := 1) (v := .int (nI 0)) G hP hD hS 0 3 i_J4 rfl tyJ4 tyJ4_ok nmJ4 rfl (by decide) q2_39 rfl rfl rfl (Nat.le_of_ble_eq_true rfl) dJ5_setLength_d00df_78 (fun H locs hP hD hS => ?_)
  have hP : va_P D vwCl ([(z, .inr (1, [.ref b1.1, .int 0, .int 1, .int (nI 0)])), (b1.1, .inl (cA 5, b1.2.1, .inl b1.2.2.2))]) H := hP
  have hD : va_D A ([(z, .inr (1, [.ref b1.1, .int 0, .int 1, .int (nI 0)])), (b1.1, .inl (cA 5, b1.2.1, .inl b1.2.2.2))]) := hD
  exact c_retv (b1.1, b1.2.1, 1, b1.2.2.2) ⟨hL, Nat.zero_le _, fun j hj => absurd hj (Nat.not_lt_zero j), hFit, Or.inr rfl⟩ G hP hD hS (by decide) dJ5_setLength_d00df_81
set_option maxHeartbeats 4000000 in
set_option maxRecDepth 100000 in
theorem mJ4_setLength_d00df (l : Launch) (D : va_G) (cA : Nat → ClassId) (ad adF adW tt : Nat → Nat) (ST : gST) (hT : STE ad adF adW tt ST) (hW : STW adW tt ST) (hSP : STP ST) (t : Nat → Nat) (z n : Nat) (b : SBb) (hok0 : SBok t n b) : gMetG l yJ4_setLength_d00df cJ4_setLength_d00df 2 none 6 1 34 D (TYS cA) ST (sbC cA z n b) [.ref z, .int (nI 0)] (gGv D (TYS cA) (fun b9 : SBb => SBok t 0 b9) (fun b9 => sbC cA z 0 b9)) := by
  refine g_ofWG hT.1 (by decide +kernel) (Nat.le_of_ble_eq_true rfl) ?_
  intro p e s m args below meth c ls A G hP hD hl
  have G : GC p s m args meth c cJ4_setLength_d00df 2 RJ4 none A D (TYS cA) ST := G
  have hx := G.1
  have hb := G.2.1
  have hS : va_S A s.heap s.heap [] := va_S.rf
  have hP : va_P D vwCl ([(z, .inr (1, [.ref b.1, .int 0, .int b.2.2.1, .int (nI n)])), (b.1, .inl (cA 5, b.2.1, .inl b.2.2.2))]) s.heap := hP
  have hD : va_D A ([(z, .inr (1, [.ref b.1, .int 0, .int b.2.2.1, .int (nI n)])), (b.1, .inl (cA 5, b.2.1, .inl b.2.2.2))]) := hD
  have hl : lv_has ls 2 [(0, .ref z), (1, .int (nI 0))] := hl
  refine lv_aload_n hx hb dJ4_setLength_d00df_0 rfl (lv_at hl 0 rfl) ?_
  refine lv_iload_n hx hb dJ4_setLength_d00df_1 rfl (lv_at hl 1 rfl) ?_
  refine c_callSUv (nA := 1) (C := RJ4) (T := TJ4) (M := 4) (ci := 1) ([]) (sbC cA z n b) 0 rfl rfl (mJ5_setLength_d00df l D cA ad adF adW tt ST hT hW hSP t z n b hok0) G hP hD hS (List.Perm.of_eq rfl) (g_goodSU q3_33 q9_158 q2_48 q3_34 q1_12 q3_35) (by decide +kernel) (by decide) rfl hl.1 [] rfl (Nat.le_of_ble_eq_true rfl) dJ4_setLength_d00df_2 (fun b1 H locs hok hP hD hS => ?_)
  have hP : va_P D vwCl ([(z, .inr (1, [.ref b1.1, .int 0, .int b1.2.2.1, .int (nI 0)])), (b1.1, .inl (cA 5, b1.2.1, .inl b1.2.2.2))]) H := hP
  have hD : va_D A ([(z, .inr (1, [.ref b1.1, .int 0, .int b1.2.2.1, .int (nI 0)])), (b1.1, .inl (cA 5, b1.2.1, .inl b1.2.2.2))]) := hD
  exact c_retv b1 hok G hP hD hS (by decide) dJ4_setLength_d00df_5
set_option maxHeartbeats 4000000 in
set_option maxRecDepth 100000 in
theorem mS_CI_n (l : Launch) (D : va_G) (cA : Nat → ClassId) (ad adF adW tt : Nat → Nat) (ST : gST) (hT : STE ad adF adW tt ST) (hW : STW adW tt ST) (hSP : STP ST) (x y : Nat) (hxy : x < y) (hy : y < 2 ^ 31) : gMetG l yJ3_checkIndex_8e157 cJ3_checkIndex_8e157 3 (some .int) 0 0 0 D (TYS cA) ST ([]) [.int (nI x), .int (nI y), .null] (gGi D (TYS cA) (fun _ (_ : Unit) => True) (fun _ => [])) := by
  refine g_ofWG hT.1 (by decide +kernel) (Nat.le_of_ble_eq_true rfl) ?_
  intro p e s m args below meth c ls A G hP hD hl
  have G : GC p s m args meth c cJ3_checkIndex_8e157 3 RJ3 (some .int) A D (TYS cA) ST := G
  have hx := G.1
  have hb := G.2.1
  have hS : va_S A s.heap s.heap [] := va_S.rf
  have hP : va_P D vwCl ([]) s.heap := hP
  have hD : va_D A ([]) := hD
  have hl : lv_has ls 3 [(0, .int (nI x)), (1, .int (nI y)), (2, .null)] := hl
  refine lv_iload_n hx hb dJ3_checkIndex_8e157_0 rfl (lv_at hl 0 rfl) ?_
  refine lv_if_lt (tgt := 9) hx hb dJ3_checkIndex_8e157_1 (by decide) (fun c9 => absurd c9 (nI_pos (by omega))) (fun c9 => ?_)
  refine lv_iload_n hx hb dJ3_checkIndex_8e157_4 rfl (lv_at hl 0 rfl) ?_
  refine lv_iload_n hx hb dJ3_checkIndex_8e157_5 rfl (lv_at hl 1 rfl) ?_
  refine lv_icmp_lt (tgt := 16) hx hb dJ3_checkIndex_8e157_6 (by decide) (fun c9 => ?_) (fun c9 => absurd (nI_lt hxy hy) c9)
  refine lv_iload_n hx hb dJ3_checkIndex_8e157_16 rfl (lv_at hl 0 rfl) ?_
  exact c_reti (()) (trivial) (rfl) G hP hD hS (by decide) dJ3_checkIndex_8e157_17
set_option maxHeartbeats 4000000 in
set_option maxRecDepth 100000 in
theorem mS_CI_r (l : Launch) (D : va_G) (cA : Nat → ClassId) (ad adF adW tt : Nat → Nat) (ST : gST) (hT : STE ad adF adW tt ST) (hW : STW adW tt ST) (hSP : STP ST) (x y : Nat) (hxy : x < y) (hy : y < 2 ^ 31) (tq : Nat) : gMetG l yJ3_checkIndex_8e157 cJ3_checkIndex_8e157 3 (some .int) 0 0 0 D (TYS cA) ST ([]) [.int (nI x), .int (nI y), .ref tq] (gGi D (TYS cA) (fun _ (_ : Unit) => True) (fun _ => [])) := by
  refine g_ofWG hT.1 (by decide +kernel) (Nat.le_of_ble_eq_true rfl) ?_
  intro p e s m args below meth c ls A G hP hD hl
  have G : GC p s m args meth c cJ3_checkIndex_8e157 3 RJ3 (some .int) A D (TYS cA) ST := G
  have hx := G.1
  have hb := G.2.1
  have hS : va_S A s.heap s.heap [] := va_S.rf
  have hP : va_P D vwCl ([]) s.heap := hP
  have hD : va_D A ([]) := hD
  have hl : lv_has ls 3 [(0, .int (nI x)), (1, .int (nI y)), (2, .ref tq)] := hl
  refine lv_iload_n hx hb dJ3_checkIndex_8e157_0 rfl (lv_at hl 0 rfl) ?_
  refine lv_if_lt (tgt := 9) hx hb dJ3_checkIndex_8e157_1 (by decide) (fun c9 => absurd c9 (nI_pos (by omega))) (fun c9 => ?_)
  refine lv_iload_n hx hb dJ3_checkIndex_8e157_4 rfl (lv_at hl 0 rfl) ?_
  refine lv_iload_n hx hb dJ3_checkIndex_8e157_5 rfl (lv_at hl 1 rfl) ?_
  refine lv_icmp_lt (tgt := 16) hx hb dJ3_checkIndex_8e157_6 (by decide) (fun c9 => ?_) (fun c9 => absurd (nI_lt hxy hy) c9)
  refine lv_iload_n hx hb dJ3_checkIndex_8e157_16 rfl (lv_at hl 0 rfl) ?_
  exact c_reti (()) (trivial) (rfl) G hP hD hS (by decide) dJ3_checkIndex_8e157_17
set_option maxHeartbeats 4000000 in
set_option maxRecDepth 100000 in
theorem mS_CI (l : Launch) (D : va_G) (cA : Nat → ClassId) (ad adF adW tt : Nat → Nat) (ST : gST) (hT : STE ad adF adW tt ST) (hW : STW adW tt ST) (hSP : STP ST) (x y : Nat) (hxy : x < y) (hy : y < 2 ^ 31) : gMetG l yJ0_checkIndex_df160 cJ0_checkIndex_df160 2 none 1 0 0 D (TYS cA) ST ([]) [.int (nI x), .int (nI y)] (gGv D (TYS cA) (fun _ : Unit => True) (fun _ => [])) := by
  refine g_ofWG hT.1 (by decide +kernel) (Nat.le_of_ble_eq_true rfl) ?_
  intro p e s m args below meth c ls A G hP hD hl
  have G : GC p s m args meth c cJ0_checkIndex_df160 2 RJ0 none A D (TYS cA) ST := G
  have hx := G.1
  have hb := G.2.1
  have hS : va_S A s.heap s.heap [] := va_S.rf
  have hP : va_P D vwCl ([]) s.heap := hP
  have hD : va_D A ([]) := hD
  have hl : lv_has ls 2 [(0, .int (nI x)), (1, .int (nI y))] := hl
  refine lv_iload_n hx hb dJ0_checkIndex_df160_0 rfl (lv_at hl 0 rfl) ?_
  refine lv_iload_n hx hb dJ0_checkIndex_df160_1 rfl (lv_at hl 1 rfl) ?_
  rcases (hW _ _ G.2.2.2.2.2.2.2.2.2.2.1).2.2 with hz | ⟨tq, hz⟩
  · skip
    refine va_gets hx hb hz hS G.2.2.2.1 (G.2.2.2.2.1 _ q3_103) (fun _ h9 => h9) dJ0_checkIndex_df160_2 ?_
    refine c_callSi (nA := 3) ([]) ([]) (mS_CI_n l D cA ad adF adW tt ST hT hW hSP x y hxy hy) G hP hD hS (List.Perm.of_eq rfl) (g_goodSX q4_151 q4_152 q1_34 q4_153) (by decide +kernel) (by decide) rfl hl.1 [] rfl (Nat.le_of_ble_eq_true rfl) dJ0_checkIndex_df160_5 (fun r b9 H locs hok hP hD hS => ?_)
    have hP : va_P D vwCl ([]) H := hP
    have hD : va_D A ([]) := hD
    refine lv_pop hx hb dJ0_checkIndex_df160_8 rfl ?_
    exact c_retv () trivial G hP hD hS (by decide) dJ0_checkIndex_df160_9
  · skip
    refine va_gets hx hb hz hS G.2.2.2.1 (G.2.2.2.2.1 _ q3_103) (fun _ h9 => h9) dJ0_checkIndex_df160_2 ?_
    refine c_callSi (nA := 3) ([]) ([]) (mS_CI_r l D cA ad adF adW tt ST hT hW hSP x y hxy hy tq) G hP hD hS (List.Perm.of_eq rfl) (g_goodSX q4_151 q4_152 q1_34 q4_153) (by decide +kernel) (by decide) rfl hl.1 [] rfl (Nat.le_of_ble_eq_true rfl) dJ0_checkIndex_df160_5 (fun r b9 H locs hok hP hD hS => ?_)
    have hP : va_P D vwCl ([]) H := hP
    have hD : va_D A ([]) := hD
    refine lv_pop hx hb dJ0_checkIndex_df160_8 rfl ?_
    exact c_retv () trivial G hP hD hS (by decide) dJ0_checkIndex_df160_9
set_option maxHeartbeats 4000000 in
set_option maxRecDepth 100000 in
theorem mJ5_charAt_5068e (l : Launch) (D : va_G) (cA : Nat → ClassId) (ad adF adW tt : Nat → Nat) (ST : gST) (hT : STE ad adF adW tt ST) (hW : STW adW tt ST) (hSP : STP ST) (t : Nat → Nat) (z n i : Nat) (b : SBb) (hok0 : SBok t n b) (hi : i < n) : gMetG l yJ5_charAt_5068e cJ5_charAt_5068e 5 (some .char) 2 0 0 D (TYS cA) ST (sbC cA z n b) [.ref z, .int (nI i)] (gGi D (TYS cA) (fun r (_ : Unit) => r = nI (t i)) (fun _ => sbC cA z n b)) := by
  refine g_ofWG hT.1 (by decide +kernel) (Nat.le_of_ble_eq_true rfl) ?_
  intro p e s m args below meth c ls A G hP hD hl
  have G : GC p s m args meth c cJ5_charAt_5068e 5 RJ5 (some .char) A D (TYS cA) ST := G
  have hx := G.1
  have hb := G.2.1
  have hS : va_S A s.heap s.heap [] := va_S.rf
  have hP : va_P D vwCl ([(z, .inr (1, [.ref b.1, .int 0, .int b.2.2.1, .int (nI n)])), (b.1, .inl (cA 5, b.2.1, .inl b.2.2.2))]) s.heap := hP
  have hD : va_D A ([(z, .inr (1, [.ref b.1, .int 0, .int b.2.2.1, .int (nI n)])), (b.1, .inl (cA 5, b.2.1, .inl b.2.2.2))]) := hD
  have hl : lv_has ls 5 [(0, .ref z), (1, .int (nI i))] := hl
  have hn34 : b.2.1 = 16 ∨ b.2.1 = 34 := hok0.1
  have hnL : n ≤ b.2.1 := hok0.2.1
  have ht := (hok0.2.2.1 i hi).1
  have hby := sb_byte _ ht
  refine lv_aload_n hx hb dJ5_charAt_5068e_0 rfl (lv_at hl 0 rfl) ?_
  refine c_get (F := [(z, .inr (1, [.ref b.1, .int 0, .int b.2.2.1, .int (nI n)])), (b.1, .inl (cA 5, b.2.1, .inl b.2.2.2))]) (B := []) (C := RJ4) (T := TJ4) (M := 4) (ci := 1) G hP 0 1 i_J4 rfl rfl (by decide) q2_36 rfl dJ5_charAt_5068e_1 ?_
  refine lv_istore_n (lv' := [(2, .int 0), (0, .ref z), (1, .int (nI i))]) hx hb dJ5_charAt_5068e_4 rfl hl (by decide) rfl (fun ls hl => ?_)
  refine lv_aload_n hx hb dJ5_charAt_5068e_5 rfl (lv_at hl 1 rfl) ?_
  refine c_get (F := [(z, .inr (1, [.ref b.1, .int 0, .int b.2.2.1, .int (nI n)])), (b.1, .inl (cA 5, b.2.1, .inl b.2.2.2))]) (B := []) (C := RJ4) (T := TJ4) (M := 4) (ci := 1) G hP 0 0 i_J4 rfl rfl (by decide) q2_35 rfl dJ5_charAt_5068e_6 ?_
  refine lv_astore_n (lv' := [(3, .ref b.1), (2, .int 0), (0, .ref z), (1, .int (nI i))]) hx hb dJ5_charAt_5068e_9 rfl hl (by decide) rfl (fun ls hl => ?_)
  refine lv_aload_n hx hb dJ5_charAt_5068e_10 rfl (lv_at hl 2 rfl) ?_
  refine c_get (F := [(z, .inr (1, [.ref b.1, .int 0, .int b.2.2.1, .int (nI n)])), (b.1, .inl (cA 5, b.2.1, .inl b.2.2.2))]) (B := []) (C := RJ4) (T := TJ4) (M := 4) (ci := 1) G hP 0 3 i_J4 rfl rfl (by decide) q2_39 rfl dJ5_charAt_5068e_11 ?_
  refine lv_aload_n hx hb dJ5_charAt_5068e_14 rfl (lv_at hl 0 rfl) ?_
  refine va_alen (v := (nI b.2.1)) hx hb G.2.2.2.2.2.2.2.2.1 hP 1 5 rfl rfl rfl dJ5_charAt_5068e_15 ?_
  refine lv_iload_n hx hb dJ5_charAt_5068e_16 rfl (lv_at hl 1 rfl) ?_
  refine lv_ishr hx hb dJ5_charAt_5068e_17 ?_
  rw [show (nI b.2.1) >>> (0 &&& 31) = (nI b.2.1) from sb_shr0 _]
  refine c_callSi (nA := 2) (sbC cA z n b) ([]) (mS_min l D cA ad adF adW tt ST hT hW hSP n b.2.1 hok0.2.1 (by omega)) G hP hD hS (List.Perm.of_eq (List.append_nil _).symm) (g_goodSX q7_17 q2_221 q1_28 q2_222) (by decide +kernel) (by decide) rfl hl.1 [] rfl (Nat.le_of_ble_eq_true rfl) dJ5_charAt_5068e_18 (fun r b9 H locs hok hP hD hS => ?_)
  have hP : va_P D vwCl ([(z, .inr (1, [.ref b.1, .int 0, .int b.2.2.1, .int (nI n)])), (b.1, .inl (cA 5, b.2.1, .inl b.2.2.2))]) H := hP
  have hD : va_D A ([(z, .inr (1, [.ref b.1, .int 0, .int b.2.2.1, .int (nI n)])), (b.1, .inl (cA 5, b.2.1, .inl b.2.2.2))]) := hD
  subst hok
  refine lv_istore (lv' := [(4, .int (nI n)), (3, .ref b.1), (2, .int 0), (0, .ref z), (1, .int (nI i))]) hx hb dJ5_charAt_5068e_21 hl (by decide) rfl (fun ls hl => ?_)
  refine lv_iload_n hx hb dJ5_charAt_5068e_23 rfl (lv_at hl 4 rfl) ?_
  refine lv_iload hx hb dJ5_charAt_5068e_24 (lv_at hl 0 rfl) ?_
  refine c_callSv (nA := 2) (sbC cA z n b) ([]) (mS_CI l D cA ad adF adW tt ST hT hW hSP i n hi (by omega)) G hP hD hS (List.Perm.of_eq (List.append_nil _).symm) (g_goodSX q7_18 q4_149 q1_14 q4_150) (by decide +kernel) (by decide) rfl hl.1 [] rfl (Nat.le_of_ble_eq_true rfl) dJ5_charAt_5068e_26 (fun b9 H locs hok hP hD hS => ?_)
  have hP : va_P D vwCl ([(z, .inr (1, [.ref b.1, .int 0, .int b.2.2.1, .int (nI n)])), (b.1, .inl (cA 5, b.2.1, .inl b.2.2.2))]) H := hP
  have hD : va_D A ([(z, .inr (1, [.ref b.1, .int 0, .int b.2.2.1, .int (nI n)])), (b.1, .inl (cA 5, b.2.1, .inl b.2.2.2))]) := hD
  refine lv_iload_n hx hb dJ5_charAt_5068e_29 rfl (lv_at hl 2 rfl) ?_
  refine lv_if_ne (tgt := 42) hx hb dJ5_charAt_5068e_30 (by decide) (fun c9 => absurd (rfl) c9) (fun c9 => ?_)
  refine lv_aload_n hx hb dJ5_charAt_5068e_33 rfl (lv_at hl 1 rfl) ?_
  refine lv_iload_n hx hb dJ5_charAt_5068e_34 rfl (lv_at hl 4 rfl) ?_
  refine va_bald hx hb G.2.2.2.2.2.2.2.2.1 hP 1 5 rfl rfl (vp_in_nI (by omega) (by omega)) dJ5_charAt_5068e_35 ?_
  rw [show b.2.2.2 (nI i).toNatClampNeg = (sb_b (t i)) from by rw [nI_clamp (by omega)]; exact (hok0.2.2.1 i hi).2]
  refine lv_sipush (v := 255) hx hb dJ5_charAt_5068e_36 (by decide) ?_
  refine lv_iand hx hb dJ5_charAt_5068e_39 ?_
  rw [show (sb_b (t i)) &&& 255 = (nI (t i)) from hby.1]
  refine lv_i2c (v := (nI (t i))) hx hb dJ5_charAt_5068e_40 (hby.2.1) ?_
  exact c_reti (()) (rfl) ((pk_charN (by omega)).1) G hP hD hS (by decide) dJ5_charAt_5068e_41
set_option maxHeartbeats 4000000 in
set_option maxRecDepth 100000 in
theorem mJ4_charAt_5068e (l : Launch) (D : va_G) (cA : Nat → ClassId) (ad adF adW tt : Nat → Nat) (ST : gST) (hT : STE ad adF adW tt ST) (hW : STW adW tt ST) (hSP : STP ST) (t : Nat → Nat) (z n i : Nat) (b : SBb) (hok0 : SBok t n b) (hi : i < n) : gMetG l yJ4_charAt_5068e cJ4_charAt_5068e 2 (some .char) 3 0 0 D (TYS cA) ST (sbC cA z n b) [.ref z, .int (nI i)] (gGi D (TYS cA) (fun r (_ : Unit) => r = nI (t i)) (fun _ => sbC cA z n b)) := by
  refine g_ofWG hT.1 (by decide +kernel) (Nat.le_of_ble_eq_true rfl) ?_
  intro p e s m args below meth c ls A G hP hD hl
  have G : GC p s m args meth c cJ4_charAt_5068e 2 RJ4 (some .char) A D (TYS cA) ST := G
  have hx := G.1
  have hb := G.2.1
  have hS : va_S A s.heap s.heap [] := va_S.rf
  have hP : va_P D vwCl ([(z, .inr (1, [.ref b.1, .int 0, .int b.2.2.1, .int (nI n)])), (b.1, .inl (cA 5, b.2.1, .inl b.2.2.2))]) s.heap := hP
  have hD : va_D A ([(z, .inr (1, [.ref b.1, .int 0, .int b.2.2.1, .int (nI n)])), (b.1, .inl (cA 5, b.2.1, .inl b.2.2.2))]) := hD
  have hl : lv_has ls 2 [(0, .ref z), (1, .int (nI i))] := hl
  refine lv_aload_n hx hb dJ4_charAt_5068e_0 rfl (lv_at hl 0 rfl) ?_
  refine lv_iload_n hx hb dJ4_charAt_5068e_1 rfl (lv_at hl 1 rfl) ?_
  refine c_callSUi (nA := 1) (C := RJ4) (T := TJ4) (M := 4) (ci := 1) ([]) (sbC cA z n b) 0 rfl rfl (mJ5_charAt_5068e l D cA ad adF adW tt ST hT hW hSP t z n i b hok0 hi) G hP hD hS (List.Perm.of_eq rfl) (g_goodSU q7_14 q9_170 q2_48 q7_15 q1_12 q7_16) (by decide +kernel) (by decide) rfl hl.1 [] rfl (Nat.le_of_ble_eq_true rfl) dJ4_charAt_5068e_2 (fun r b9 H locs hok hP hD hS => ?_)
  have hP : va_P D vwCl ([(z, .inr (1, [.ref b.1, .int 0, .int b.2.2.1, .int (nI n)])), (b.1, .inl (cA 5, b.2.1, .inl b.2.2.2))]) H := hP
  have hD : va_D A ([(z, .inr (1, [.ref b.1, .int 0, .int b.2.2.1, .int (nI n)])), (b.1, .inl (cA 5, b.2.1, .inl b.2.2.2))]) := hD
  subst hok
  exact c_reti (()) (rfl) ((pk_charN (by have := (hok0.2.2.1 i hi).1; omega)).1) G hP hD hS (by decide) dJ4_charAt_5068e_5
