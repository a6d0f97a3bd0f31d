theorem dJx29ce0_ordinal_8abf5_0 : decode cJx29ce0_ordinal_8abf5 0 = .ok (.aload_n 0, 1) := by decide +kernel
theorem dJx29ce0_ordinal_8abf5_1 : decode cJx29ce0_ordinal_8abf5 1 = .ok (.getfield 7, 3) := by decide +kernel
theorem dJx29ce0_ordinal_8abf5_4 : decode cJx29ce0_ordinal_8abf5 4 = .ok (.ireturn, 1) := by decide +kernel
theorem dJ9_floorMod_7cf53_0 : decode cJ9_floorMod_7cf53 0 = .ok (.iload_n 0, 1) := by decide +kernel
theorem dJ9_floorMod_7cf53_1 : decode cJ9_floorMod_7cf53 1 = .ok (.iload_n 1, 1) := by decide +kernel
theorem dJ9_floorMod_7cf53_2 : decode cJ9_floorMod_7cf53 2 = .ok (.irem, 1) := by decide +kernel
theorem dJ9_floorMod_7cf53_3 : decode cJ9_floorMod_7cf53 3 = .ok (.istore_n 2, 1) := by decide +kernel
theorem dJ9_floorMod_7cf53_4 : decode cJ9_floorMod_7cf53 4 = .ok (.iload_n 0, 1) := by decide +kernel
theorem dJ9_floorMod_7cf53_5 : decode cJ9_floorMod_7cf53 5 = .ok (.iload_n 1, 1) := by decide +kernel
theorem dJ9_floorMod_7cf53_6 : decode cJ9_floorMod_7cf53 6 = .ok (.ixor, 1) := by decide +kernel
theorem dJ9_floorMod_7cf53_7 : decode cJ9_floorMod_7cf53 7 = .ok (.ifCond .ge 11, 3) := by decide +kernel
theorem dJ9_floorMod_7cf53_10 : decode cJ9_floorMod_7cf53 10 = .ok (.iload_n 2, 1) := by decide +kernel
theorem dJ9_floorMod_7cf53_11 : decode cJ9_floorMod_7cf53 11 = .ok (.ifCond .eq 7, 3) := by decide +kernel
theorem dJ9_floorMod_7cf53_14 : decode cJ9_floorMod_7cf53 14 = .ok (.iload_n 2, 1) := by decide +kernel
theorem dJ9_floorMod_7cf53_15 : decode cJ9_floorMod_7cf53 15 = .ok (.iload_n 1, 1) := by decide +kernel
theorem dJ9_floorMod_7cf53_16 : decode cJ9_floorMod_7cf53 16 = .ok (.iadd, 1) := by decide +kernel
theorem dJ9_floorMod_7cf53_17 : decode cJ9_floorMod_7cf53 17 = .ok (.ireturn, 1) := by decide +kernel
theorem dJ9_floorMod_7cf53_18 : decode cJ9_floorMod_7cf53 18 = .ok (.iload_n 2, 1) := by decide +kernel
theorem dJ9_floorMod_7cf53_19 : decode cJ9_floorMod_7cf53 19 = .ok (.ireturn, 1) := by decide +kernel
theorem dJ9_max_7cf53_0 : decode cJ9_max_7cf53 0 = .ok (.iload_n 0, 1) := by decide +kernel
theorem dJ9_max_7cf53_1 : decode cJ9_max_7cf53 1 = .ok (.iload_n 1, 1) := by decide +kernel
theorem dJ9_max_7cf53_2 : decode cJ9_max_7cf53 2 = .ok (.if_icmp .lt 7, 3) := by decide +kernel
theorem dJ9_max_7cf53_5 : decode cJ9_max_7cf53 5 = .ok (.iload_n 0, 1) := by decide +kernel
theorem dJ9_max_7cf53_6 : decode cJ9_max_7cf53 6 = .ok (.goto 4, 3) := by decide +kernel
theorem dJ9_max_7cf53_9 : decode cJ9_max_7cf53 9 = .ok (.iload_n 1, 1) := by decide +kernel
theorem dJ9_max_7cf53_10 : decode cJ9_max_7cf53 10 = .ok (.ireturn, 1) := by decide +kernel
theorem dJ9_min_7cf53_0 : decode cJ9_min_7cf53 0 = .ok (.iload_n 0, 1) := by decide +kernel
theorem dJ9_min_7cf53_1 : decode cJ9_min_7cf53 1 = .ok (.iload_n 1, 1) := by decide +kernel
theorem dJ9_min_7cf53_2 : decode cJ9_min_7cf53 2 = .ok (.if_icmp .gt 7, 3) := by decide +kernel
theorem dJ9_min_7cf53_5 : decode cJ9_min_7cf53 5 = .ok (.iload_n 0, 1) := by decide +kernel
theorem dJ9_min_7cf53_6 : decode cJ9_min_7cf53 6 = .ok (.goto 4, 3) := by decide +kernel
theorem dJ9_min_7cf53_9 : decode cJ9_min_7cf53 9 = .ok (.iload_n 1, 1) := by decide +kernel
theorem dJ9_min_7cf53_10 : decode cJ9_min_7cf53 10 = .ok (.ireturn, 1) := by decide +kernel
theorem q2_106 : Jvm.Cond.sameMethod "NoiseMill$Fault" "java/lang/Enum" "ordinal" "()I" ∈ BIG := bg2 (List.mem_of_getElem? (i := 106) rfl) rfl
theorem q5_39 : Jvm.Cond.sameMethod "NoiseMill$Kind" "java/lang/Enum" "ordinal" "()I" ∈ BIG := bg5 (List.mem_of_getElem? (i := 39) rfl) rfl
def faultN : List String := ["NO_FAULT", "INDEX", "ARGUMENT", "ELEMENT", "STATE", "UNSUPPORTED"]
def faultF : List (String × String × String × List Int32) := [("java/lang/Enum", "ordinal", "I", [0, 1, 2, 3, 4, 5])]
def kindN : List String := ["NOISE", "DROP", "GEAR", "MESH", "CLEAR", "RELEASE", "SHIP", "STEP"]
def kOrd : List Int32 := [0, 1, 2, 3, 4, 5, 6, 7]
def kDig : List Int32 := [2, 0, 2, 2, 1, 1, 2, 0]
def kTak : List Int32 := [1, 1, 0, 0, 0, 0, 0, 1]
def kNee : List Int32 := [1, 1, 0, 0, 0, 0, 0, 0]
def kindF : List (String × String × String × List Int32) := [("java/lang/Enum", "ordinal", "I", kOrd), ("NoiseMill$Kind", "digits", "I", kDig), ("NoiseMill$Kind", "takesNumber", "Z", kTak), ("NoiseMill$Kind", "needsNumber", "Z", kNee)]
def swF : List Int32 := [0, 2, 1, 3, 4, 5]
def swK : List Int32 := [1, 2, 3, 4, 5, 6, 7, 0]
/-- what is known of the class's own static objects -/
def SF (ad adF adW tt : Nat → Nat) (A : Nat → Prop) (U : State) : Prop :=
  va_En "NoiseMill$Fault" "LNoiseMill$Fault;" faultN faultF adF A U U.heap ∧ va_En "NoiseMill$Kind" "LNoiseMill$Kind;" kindN kindF ad A U U.heap ∧
  va_Ef 8 "NoiseMill$Kind" "word" "Ljava/lang/String;" (fun i => .ref (adW i)) ad A U U.heap ∧
  (va_Z "NoiseMill" "KINDS" "[LNoiseMill$Kind;" (.ref (tt 0)) A U U.heap ∧ va_T (.object "NoiseMill$Kind") (tt 0) 8 (fun j => .ref (ad j)) A U U.heap) ∧
  (va_Z "NoiseMill$1" "$SwitchMap$NoiseMill$Fault" "[I" (.ref (tt 1)) A U U.heap ∧ va_T .int (tt 1) 6 (fun j => .int (swF.getD j 0)) A U U.heap) ∧
  (va_Z "NoiseMill$1" "$SwitchMap$NoiseMill$Kind" "[I" (.ref (tt 2)) A U U.heap ∧ va_T .int (tt 2) 8 (fun j => .int (swK.getD j 0)) A U U.heap)
/-- the state's facts that a walk of the class carries: SF is among them -/
def STE (ad adF adW tt : Nat → Nat) (ST : gST) : Prop := STok ST ∧ ∀ (A : Nat → Prop) (U : State), ST A U → SF ad adF adW tt A U
def cpy0 (f g : Nat → Int32) (n : Nat) : Nat → Int32 := fun j => if j < n then f j else g j
theorem cpy0_eq (f g : Nat → Int32) (n : Nat) : va_cpy f g 0 0 n = cpy0 f g n := by
  funext k
  unfold va_cpy cpy0
  by_cases h : k < n
  · rw [if_pos ⟨Nat.zero_le _, by omega⟩, if_pos h]
    congr 1
    omega
  · rw [if_neg (by omega), if_neg h]
/-- the cells below n are 0 or 1 -/
def B01 {α : Type} (f : Nat → Int32) (n : Nat) (K : Option α) : Option α := if (List.range n).all (fun i => decide (f i = 0 ∨ f i = 1)) = true then K else none
theorem b01_e {α : Type} {f : Nat → Int32} {n : Nat} {K : Option α} {r : α} (h : B01 f n K = some r) : (∀ i, i < n → f i = 0 ∨ f i = 1) ∧ K = some r := by
  unfold B01 at h
  by_cases hc : (List.range n).all (fun i => decide (f i = 0 ∨ f i = 1)) = true
  · rw [if_pos hc] at h
    exact ⟨fun i hi => of_decide_eq_true (List.all_eq_true.mp hc i (List.mem_range.mpr hi)), h⟩
  · rw [if_neg hc] at h; cases h
theorem re_some (ad : Nat → Nat) {r : Int32} (h : ¬ r < 0) : va_re ad (if r < 0 then none else some r.toNatClampNeg) = .ref (ad r.toNatClampNeg) := by rw [if_neg h]; rfl
theorem re_none (ad : Nat → Nat) {r : Int32} (h : r < 0) : va_re ad (if r < 0 then none else some r.toNatClampNeg) = .null := by rw [if_pos h]; rfl
def gQe (adE : Nat → Nat) (D : va_G) (tys : List (ClassId × FieldType)) (A : Nat → Prop) (wd : St → va_W) (r : Int32) (σ' : St) : Array Value → State → Outcome → State → Prop :=
  va_Qe adE (fun o s1 => o = (if r < 0 then none else some r.toNatClampNeg) ∧ s1 = σ') (fun s1 t => va_P D vwCl (wd s1) t.heap ∧ va_K D vwCl tys t ∧ va_D A (wd s1)) A
section E8
variable {p : Program} {l : Launch} {e : Env} {R : Room} {s : State} {m : MethodId} {args : Array Value} {below : List Frame} {meth : Method} {c : Code} {H : Heap} {locs : List Loc} {cells slots : Nat} {Q : State → Prop}
variable {cc : ByteArray} {maxL : Nat} {ret : Option FieldType} {pc : Nat} {ls : Array Slot} {rest : List Value} {D : va_G} {A : Nat → Prop} {cA : Nat → ClassId} {ad a : Nat → Nat} {fr : va_W} {σ : St}
variable {ad adF adW tt : Nat → Nat} {ST : gST} {own : String} {N : Nat} {sh : Nat → Sh} {tys : List (ClassId × FieldType)}
theorem g_eret {adE : Nat → Nat} {σ' : St} {v r : Int32} {C : String} (hv : ¬ v < 0) (G : GC p s m args meth c cc maxL own (some (.object C)) A D tys ST) (hP : va_P D vwCl (gwd N sh cA ad a fr σ) H) (hD : va_D A (gwd N sh cA ad a fr σ)) (hS : va_S A s.heap H locs) (h : (some (v, σ) : Option (Int32 × St)) = some (r, σ')) (hdg : decode cc pc = .ok (.areturn, 1)) : W p l e R s m args below meth c H locs 0 0 (MQ below (gQe adE D tys A (gwd N sh cA ad a fr) r σ') args s 0 0 A) (F0 m pc ls [.ref (adE v.toNatClampNeg)]) := by
  cases h
  obtain ⟨hx, hb, hml, hown, hts, hr, hlocks, hA, hK, hN, hX, hT⟩ := G
  exact W.aret hx hb hr (Or.inl ⟨C, rfl⟩) (Or.inr ⟨_, rfl⟩) (fun t ht hW => ⟨⟨_, σ, by rw [re_some adE hv], ⟨rfl, rfl⟩, by rw [ht]; exact hP, va_K.moved hW.alike hK, hD⟩, hS.F ht⟩) hS.2.2 hdg
theorem g_nret {adE : Nat → Nat} {σ' : St} {v r : Int32} {C : String} (hv : v < 0) (G : GC p s m args meth c cc maxL own (some (.object C)) A D tys ST) (hP : va_P D vwCl (gwd N sh cA ad a fr σ) H) (hD : va_D A (gwd N sh cA ad a fr σ)) (hS : va_S A s.heap H locs) (h : (some (v, σ) : Option (Int32 × St)) = some (r, σ')) (hdg : decode cc pc = .ok (.areturn, 1)) : W p l e R s m args below meth c H locs 0 0 (MQ below (gQe adE D tys A (gwd N sh cA ad a fr) r σ') args s 0 0 A) (F0 m pc ls [.null]) := by
  cases h
  obtain ⟨hx, hb, hml, hown, hts, hr, hlocks, hA, hK, hN, hX, hT⟩ := G
  exact W.aret hx hb hr (Or.inl ⟨C, rfl⟩) (Or.inl rfl) (fun t ht hW => ⟨⟨_, σ, by rw [re_none adE hv], ⟨rfl, rfl⟩, by rw [ht]; exact hP, va_K.moved hW.alike hK, hD⟩, hS.F ht⟩) hS.2.2 hdg
/-- a constant of the faults -/
theorem g_getF (i : Nat) {v : Int32} (hi : i < 6) (hv : v.toNatClampNeg = i) (hT : STE ad adF adW tt ST) (G : GC p s m args meth c cc maxL own ret A D tys ST) (hS : va_S A s.heap H locs) {index : Nat} (hlink : Cond.fieldLink own index "NoiseMill$Fault" (faultN.getD i "") "LNoiseMill$Fault;" ∈ BIG) (hdg : decode cc pc = .ok (.getstatic index, 3))
    (kk : W p l e R s m args below meth c H locs cells slots Q (F0 m (pc + 3) ls (.ref (adF v.toNatClampNeg) :: rest))) : W p l e R s m args below meth c H locs cells slots Q (F0 m pc ls rest) := by
  subst hv
  exact va_gets G.1 G.2.1 (((hT.2 _ _ G.2.2.2.2.2.2.2.2.2.2.1).1.1 _ hi).1) hS G.2.2.2.1 (G.2.2.2.2.1 _ hlink) (fun _ h => h) hdg kk
/-- a row of numbers copied, whole from its start -/
theorem g_cpy {t : Nat} {ty : FieldType} (G : GC p s m args meth c cc maxL own ret A D tys ST) (hP : va_P D vwCl (gwd N sh cA ad a fr σ) H) (hD : va_D A (gwd N sh cA ad a fr σ)) (hS : va_S A s.heap H locs) (k1 k2 : Nat) {n1 n2 : Nat} (hk1 : k1 < N) (hs1 : sh k1 = .inr (.inl (t, n1))) (hk2 : k2 < N) (hs2 : sh k2 = .inr (.inl (t, n2))) (ht : tys[t]? = some (cA t, ty)) (hpr : refKind ty = false) (n : Nat) {v : Int32} (hv : v.toNatClampNeg = n) (hv0 : ¬ v < 0) (h1 : n ≤ n1) (h2 : n ≤ n2) (hfit : ∀ i, i < n → fits ty (.int (σ k1 i)) = true) {index d : Nat} (hls : ls.size = maxL) (hlink : Cond.methodLink own index arraycopyName ∈ BIG) (hnat : Cond.native arraycopyName ∈ BIG) (hst : Cond.static arraycopyName ∈ BIG) (hini : Cond.initialized "java/lang/System" ∈ BIG) (hd : 2 ≤ d) (hcat : (rest.map fun v => v.category).sum ≤ 8) (hdg : decode cc pc = .ok (.invokestatic index, 3))
    (kk : ∀ σ1 : St, σ1 = va_up σ k2 (cpy0 (σ k1) (σ k2) n) → ∀ (H1 : Heap) (locs1 : List Loc), va_P D vwCl (gwd N sh cA ad a fr σ1) H1 → va_D A (gwd N sh cA ad a fr σ1) → va_S A s.heap H1 locs1 → W p l e (RM d) s m args below meth c H1 locs1 cells slots Q (F0 m (pc + 3) ls rest)) : W p l e (RM d) s m args below meth c H locs cells slots Q (F0 m pc ls (.int v :: .int 0 :: .ref (a k2) :: .int 0 :: .ref (a k1) :: rest)) := by
  subst hv
  have hw : nativeFrameWords "java/lang/System" "arraycopy" 5 ≤ 60 := by decide +kernel
  refine va_copyi G.1 G.2.1 (G.2.2.1.trans hls.symm) G.2.2.2.1 (G.2.2.2.2.1 _ hlink) (G.2.2.2.2.1 _ hnat) (G.2.2.2.2.1 _ hst) (G.2.2.2.2.1 _ hini) G.2.2.2.2.2.2.2.2.1 hP hD hS k1 k2 t t (gwd_get hk1 hs1) (gwd_get hk2 hs2) ht ht hpr (by decide) (by decide) hv0 (by show 0 + _ ≤ _; omega) (by show 0 + _ ≤ _; omega) (fun i hi => by show fits ty (.int (σ k1 (0 + i))) = true; rw [Nat.zero_add]; exact hfit i hi) (by show 1 ≤ d; omega) (by show _ ≤ 40 * d; omega) hdg (fun H1 locs1 hP1 hD1 hS1 => ?_)
  rw [show (0 : Int32).toNatClampNeg = 0 from rfl, cpy0_eq, show (Sum.inl (cA t, n2, Sum.inl (cpy0 (σ k1) (σ k2) v.toNatClampNeg)) : va_E) = mkE cA ad a (.inr (.inl (t, n2))) (cpy0 (σ k1) (σ k2) v.toNatClampNeg) from rfl, gwd_set hk2 hs2] at hP1 hD1
  exact kk _ rfl H1 locs1 hP1 hD1 hS1
theorem g_goodSX {own : String} {index n : Nat} {y : MethodName} {b : ByteArray} {ret' : Option FieldType} (h1 : Cond.methodLink own index y ∈ BIG) (h2 : Cond.static y ∈ BIG) (h4 : Cond.initialized y.cls ∈ BIG) (h5 : Cond.code y b n ret' ∈ BIG) : GoodIn BIG (va_wsS own index y (.code y b n ret' :: BIG)) := by
  intro w hw
  unfold va_wsS at hw
  refine big_good w ?_
  rcases List.mem_append.mp hw with h | h
  · simp only [List.mem_cons, List.not_mem_nil, or_false] at h
    rcases h with rfl | rfl | rfl <;> assumption
  · rcases List.mem_cons.mp h with rfl | h
    · exact h5
    · exact h
theorem g_goodU {own C owner : String} {index n : Nat} {x y : MethodName} {b : ByteArray} {ret' : Option FieldType} (h1 : Cond.methodLink own index x ∈ BIG) (h2 : Cond.sameMethod x.cls owner x.name x.desc ∈ BIG) (h3 : Cond.selects C x y ∈ BIG) (h4 : Cond.instanceMethod y ∈ BIG) (h6 : Cond.initialized y.cls ∈ BIG) (h5 : Cond.code y b n ret' ∈ BIG) : GoodIn BIG (va_wsU own index C owner x y (.code y b n ret' :: BIG)) := by
  intro w hw
  unfold va_wsU at hw
  refine big_good w ?_
  rcases List.mem_append.mp hw with h | h
  · simp only [List.mem_cons, List.not_mem_nil, or_false] at h
    rcases h with rfl | rfl | rfl | rfl | rfl <;> assumption
  · rcases List.mem_cons.mp h with rfl | h
    · exact h5
    · exact h
theorem Met_ofWF {l : Launch} {y : MethodName} {ws ws' : List Cond} {rm : Room} {Pc : Array Value → State → Prop} {Qc : Array Value → State → Outcome → State → Prop} {mc ms : Nat} {free : Addr → Prop} {cc : ByteArray} {maxL : Nat} {ret : Option FieldType}
    (hy : plainFor y = true) (hw : ws = Cond.code y cc maxL ret :: ws')
    (body : ∀ p e s m args below meth c s₁, BodyLoose p l y (headSpec ws rm) cc maxL ret e s m args below meth c s₁ → c.maxLocals = maxL → Pc args s →
      W p l e (headSpec ws rm).room s m args below meth c s.heap [] 0 0 (MQ below Qc args s mc ms free) (entryFrame m args maxL)) : Met l y ws rm Pc Qc mc ms free := by
  refine MetFree.of_bodySF (code := cc) (maxLocals := maxL) (ret := ret) hy ?_ ?_
  · intro args s m h hn
    obtain ⟨meth, c, h1, h2, h3, h4, h5, h6, -, -⟩ := Cond.code_spec hn (atoms_spec (ws := ws) h _ (by rw [hw]; exact List.mem_cons_self))
    exact ⟨meth, c, h1, h2, h3, h4, h5, h6⟩
  · intro p e s m args below meth c s₁ B hml hP _
    have hh0 : s₁.heap = s.heap := by rw [B.state]; rfl
    obtain ⟨t, a1, o, b1, b2, b3, b4⟩ := body p e s m args below meth c s₁ B hml hP s₁ hh0 (Stand.of_body B)
    exact ⟨t, o, a1, b1, b2, b3, b4⟩
theorem g_ofWF {l : Launch} {y : MethodName} {cc : ByteArray} {maxL d : Nat} {ret : Option FieldType} {D : va_G} {tys : List (ClassId × FieldType)} {ST : gST} {ws : va_W} {av : List Value} {Qk : (Nat → Prop) → Array Value → State → Outcome → State → Prop} (hT : STok ST) (hy : plainFor y = true) (hav : (lg_sl av).length ≤ maxL)
    (body : ∀ p e s m args below meth c ls A, GC p s m args meth c cc maxL y.cls ret A D tys ST → va_P D vwCl ws s.heap → va_D A ws → lv_has ls maxL (lv_args 0 av) → W p l e (RM d) s m args below meth c s.heap [] 0 0 (MQ below (Qk A) args s 0 0 A) (F0 m 0 ls [])) : gMet l y cc maxL ret d D tys ST ws av Qk := by
  intro sz
  refine Met_ofWF (cc := cc) (maxL := maxL) (ret := ret) hy rfl ?_
  intro p e s m args below meth c s₁ B hml hv
  obtain ⟨rfl, hsz, hP, hK, hD0, hN, hX⟩ := hv
  subst hsz
  have hts0 := atoms_spec (ws := .code y cc maxL ret :: BIG) B.pre
  rw [lg_entry_eq]
  exact body p e s m av.toArray below meth c _ _ ⟨B.exec, B.bytes, hml, findClass_of_methodNamed B.named, fun w h => hts0 w (List.mem_cons_of_mem _ h), B.returns, B.notSynchronized, fun q h => Or.inr h, hK, hN, hX, hT⟩ hP hD0.self (lv_entry av hav)

theorem g_callSXi {d d1 : Nat} {y : MethodName} {bytes : ByteArray} {n nA index : Nat} {ret' : Option FieldType} {σ1 : St} {r : Int32} {As st0 : List Value} (hM : gMet l y bytes n ret' d1 D tys ST (gwd N sh cA ad a fr σ) As (fun A => gQi D tys A (gwd N sh cA ad a fr) r σ1)) (G : GC p s m args meth c cc maxL own ret A D tys ST) (hP : va_P D vwCl (gwd N sh cA ad a fr σ) H) (hD : va_D A (gwd N sh cA ad a fr σ)) (hS : va_S A s.heap H locs)
    (hg : GoodIn BIG (va_wsS own index y (.code y bytes n ret' :: BIG))) (hd : y.cls ≠ "java/lang/invoke/MethodHandle" ∧ y.cls ≠ "java/lang/invoke/VarHandle" ∧ (parseMethodDescriptor y.desc).map (fun d => d.parameters.length) = some nA) (hr : d1 + 1 ≤ d ∧ n ≤ 21) (hn : As.length = nA) (hls : ls.size = maxL) (rest : List Value) (hst : st0 = As.reverse ++ rest) (hcat : (rest.map fun v => v.category).sum ≤ 8) (hdg : decode cc pc = .ok (.invokestatic index, 3))
    (kk : ∀ (H1 : Heap) (locs1 : List Loc), va_P D vwCl (gwd N sh cA ad a fr σ1) H1 → va_D A (gwd N sh cA ad a fr σ1) → va_S A s.heap H1 locs1 → W p l e (RM d) s m args below meth c H1 locs1 0 0 Q (F0 m (pc + 3) ls (.int r :: rest))) : W p l e (RM d) s m args below meth c H locs 0 0 Q (F0 m pc ls st0) := by
  obtain ⟨hx, hb, hml, hown, hts, -, hlocks, hA, hK, hN, hX, hT⟩ := G
  have hF := g_free hD hS hA
  refine va_calli (va_runS (As := As) (rest := rest) ⟨hx, hb, hml, hown, hts⟩ (hM H.size) (va_cwS nA hts hg rfl rfl rfl hd ⟨by show d1 + 1 ≤ d; exact hr.1, by show 8 + (n + 11) + 40 * d1 ≤ 40 * d; omega⟩) ⟨gPre_blind hT, fun U hU hW => ⟨rfl, by rw [hU], by rw [hU]; exact hP, va_K.moved hW.alike hK, hD.weaken (fun _ _ _ _ => trivial), hN.warm hW, hT.2 _ _ _ _ _ _ hX hS hU hW hF⟩⟩ rfl hn hls hst (lv_room hcat) hdg ⟨Nat.zero_le _, Nat.zero_le _⟩) hS (fun q _ h => hF q h) hF (fun r9 u9 t H1 locs1 ht hvm hw hB hz1 hk1 hS1 => ?_)
  obtain ⟨rfl, rfl⟩ := hw
  obtain ⟨hP1, hK1, hD1⟩ := hB
  rw [ht] at hP1
  exact kk H1 locs1 hP1 (hD1.weaken (fun _ q _ h => hF q.1 h)) hS1

theorem g_callSXv {d d1 : Nat} {y : MethodName} {bytes : ByteArray} {n nA index : Nat} {ret' : Option FieldType} {σ1 : St} {As st0 : List Value} (hM : gMet l y bytes n ret' d1 D tys ST (gwd N sh cA ad a fr σ) As (fun A => gQv D tys A (gwd N sh cA ad a fr) σ1)) (G : GC p s m args meth c cc maxL own ret A D tys ST) (hP : va_P D vwCl (gwd N sh cA ad a fr σ) H) (hD : va_D A (gwd N sh cA ad a fr σ)) (hS : va_S A s.heap H locs)
    (hg : GoodIn BIG (va_wsS own index y (.code y bytes n ret' :: BIG))) (hd : y.cls ≠ "java/lang/invoke/MethodHandle" ∧ y.cls ≠ "java/lang/invoke/VarHandle" ∧ (parseMethodDescriptor y.desc).map (fun d => d.parameters.length) = some nA) (hr : d1 + 1 ≤ d ∧ n ≤ 21) (hn : As.length = nA) (hls : ls.size = maxL) (rest : List Value) (hst : st0 = As.reverse ++ rest) (hcat : (rest.map fun v => v.category).sum ≤ 8) (hdg : decode cc pc = .ok (.invokestatic index, 3))
    (kk : ∀ (H1 : Heap) (locs1 : List Loc), va_P D vwCl (gwd N sh cA ad a fr σ1) H1 → va_D A (gwd N sh cA ad a fr σ1) → va_S A s.heap H1 locs1 → W p l e (RM d) s m args below meth c H1 locs1 0 0 Q (F0 m (pc + 3) ls rest)) : W p l e (RM d) s m args below meth c H locs 0 0 Q (F0 m pc ls st0) := by
  obtain ⟨hx, hb, hml, hown, hts, -, hlocks, hA, hK, hN, hX, hT⟩ := G
  have hF := g_free hD hS hA
  refine va_callv (va_runS (As := As) (rest := rest) ⟨hx, hb, hml, hown, hts⟩ (hM H.size) (va_cwS nA hts hg rfl rfl rfl hd ⟨by show d1 + 1 ≤ d; exact hr.1, by show 8 + (n + 11) + 40 * d1 ≤ 40 * d; omega⟩) ⟨gPre_blind hT, fun U hU hW => ⟨rfl, by rw [hU], by rw [hU]; exact hP, va_K.moved hW.alike hK, hD.weaken (fun _ _ _ _ => trivial), hN.warm hW, hT.2 _ _ _ _ _ _ hX hS hU hW hF⟩⟩ rfl hn hls hst (lv_room hcat) hdg ⟨Nat.zero_le _, Nat.zero_le _⟩) hS (fun q _ h => hF q h) hF (fun u9 t H1 locs1 ht hvm hw hB hz1 hk1 hS1 => ?_)
  subst hw
  obtain ⟨hP1, hK1, hD1⟩ := hB
  rw [ht] at hP1
  exact kk H1 locs1 hP1 (hD1.weaken (fun _ q _ h => hF q.1 h)) hS1

theorem g_callVe {adE : Nat → Nat} {d d1 : Nat} {y : MethodName} {bytes : ByteArray} {n nA index ci : Nat} {ret' : Option FieldType} {C : String} {T : u_T} {M : Nat} {sl : List Nat} {σ1 : St} {r : Int32} {As st0 : List Value} {k : Nat} (hM : gMet l y bytes n ret' d1 D tys ST (gwd N sh cA ad a fr σ) (.ref (a k) :: As) (fun A => gQe adE D tys A (gwd N sh cA ad a fr) r σ1)) (G : GC p s m args meth c cc maxL own ret A D tys ST) (hP : va_P D vwCl (gwd N sh cA ad a fr σ) H) (hD : va_D A (gwd N sh cA ad a fr σ)) (hS : va_S A s.heap H locs)
    (hg : GoodIn BIG (wsV own index C y (.code y bytes n ret' :: BIG))) (hd : y.cls = C ∧ y.cls ≠ "java/lang/invoke/MethodHandle" ∧ y.cls ≠ "java/lang/invoke/VarHandle" ∧ (parseMethodDescriptor y.desc).map (fun d => d.parameters.length) = some nA) (hr : d1 + 1 ≤ d ∧ n ≤ 21) (hk : k < N) (hs : sh k = .inl (ci, sl)) (hc : vwCl[ci]? = some (C, T, M)) (hn : As.length = nA) (hls : ls.size = maxL) (rest : List Value) (hst : st0 = As.reverse ++ .ref (a k) :: rest) (hcat : (rest.map fun v => v.category).sum ≤ 8) (hdg : decode cc pc = .ok (.invokevirtual index, 3))
    (kk : ∀ (H1 : Heap) (locs1 : List Loc), va_P D vwCl (gwd N sh cA ad a fr σ1) H1 → va_D A (gwd N sh cA ad a fr σ1) → va_S A s.heap H1 locs1 → W p l e (RM d) s m args below meth c H1 locs1 0 0 Q (F0 m (pc + 3) ls (va_re adE (if r < 0 then none else some r.toNatClampNeg) :: rest))) : W p l e (RM d) s m args below meth c H locs 0 0 Q (F0 m pc ls st0) := by
  obtain ⟨hx, hb, hml, hown, hts, -, hlocks, hA, hK, hN, hX, hT⟩ := G
  have hF := g_free hD hS hA
  refine va_calle (va_runV (As := As) (rest := rest) ⟨hx, hb, hml, hown, hts⟩ (hM H.size) (cwV nA hts hg rfl rfl rfl hd ⟨by show d1 + 1 ≤ d; exact hr.1, by show 8 + (n + 11) + 40 * d1 ≤ 40 * d; omega⟩) ⟨gPre_blind hT, va_recv hK hP hc (gwd_get hk hs), fun U hU hW => ⟨rfl, by rw [hU], by rw [hU]; exact hP, va_K.moved hW.alike hK, hD.weaken (fun _ _ _ _ => trivial), hN.warm hW, hT.2 _ _ _ _ _ _ hX hS hU hW hF⟩⟩ rfl hn hls hst (lv_room hcat) hdg ⟨Nat.zero_le _, Nat.zero_le _⟩) hS (fun q _ h => hF q h) hF (fun r9 u9 t H1 locs1 ht hvm hw hB hz1 hk1 hS1 => ?_)
  obtain ⟨rfl, rfl⟩ := hw
  obtain ⟨hP1, hK1, hD1⟩ := hB
  rw [ht] at hP1
  exact kk H1 locs1 hP1 (hD1.weaken (fun _ q _ h => hF q.1 h)) hS1

theorem g_callSXe {adE : Nat → Nat} {d d1 : Nat} {y : MethodName} {bytes : ByteArray} {n nA index : Nat} {ret' : Option FieldType} {σ1 : St} {r : Int32} {As st0 : List Value} (hM : gMet l y bytes n ret' d1 D tys ST (gwd N sh cA ad a fr σ) As (fun A => gQe adE D tys A (gwd N sh cA ad a fr) r σ1)) (G : GC p s m args meth c cc maxL own ret A D tys ST) (hP : va_P D vwCl (gwd N sh cA ad a fr σ) H) (hD : va_D A (gwd N sh cA ad a fr σ)) (hS : va_S A s.heap H locs)
    (hg : GoodIn BIG (va_wsS own index y (.code y bytes n ret' :: BIG))) (hd : y.cls ≠ "java/lang/invoke/MethodHandle" ∧ y.cls ≠ "java/lang/invoke/VarHandle" ∧ (parseMethodDescriptor y.desc).map (fun d => d.parameters.length) = some nA) (hr : d1 + 1 ≤ d ∧ n ≤ 21) (hn : As.length = nA) (hls : ls.size = maxL) (rest : List Value) (hst : st0 = As.reverse ++ rest) (hcat : (rest.map fun v => v.category).sum ≤ 8) (hdg : decode cc pc = .ok (.invokestatic index, 3))
    (kk : ∀ (H1 : Heap) (locs1 : List Loc), va_P D vwCl (gwd N sh cA ad a fr σ1) H1 → va_D A (gwd N sh cA ad a fr σ1) → va_S A s.heap H1 locs1 → W p l e (RM d) s m args below meth c H1 locs1 0 0 Q (F0 m (pc + 3) ls (va_re adE (if r < 0 then none else some r.toNatClampNeg) :: rest))) : W p l e (RM d) s m args below meth c H locs 0 0 Q (F0 m pc ls st0) := by
  obtain ⟨hx, hb, hml, hown, hts, -, hlocks, hA, hK, hN, hX, hT⟩ := G
  have hF := g_free hD hS hA
  refine va_calle (va_runS (As := As) (rest := rest) ⟨hx, hb, hml, hown, hts⟩ (hM H.size) (va_cwS nA hts hg rfl rfl rfl hd ⟨by show d1 + 1 ≤ d; exact hr.1, by show 8 + (n + 11) + 40 * d1 ≤ 40 * d; omega⟩) ⟨gPre_blind hT, fun U hU hW => ⟨rfl, by rw [hU], by rw [hU]; exact hP, va_K.moved hW.alike hK, hD.weaken (fun _ _ _ _ => trivial), hN.warm hW, hT.2 _ _ _ _ _ _ hX hS hU hW hF⟩⟩ rfl hn hls hst (lv_room hcat) hdg ⟨Nat.zero_le _, Nat.zero_le _⟩) hS (fun q _ h => hF q h) hF (fun r9 u9 t H1 locs1 ht hvm hw hB hz1 hk1 hS1 => ?_)
  obtain ⟨rfl, rfl⟩ := hw
  obtain ⟨hP1, hK1, hD1⟩ := hB
  rw [ht] at hP1
  exact kk H1 locs1 hP1 (hD1.weaken (fun _ q _ h => hF q.1 h)) hS1

end E8
set_option maxHeartbeats 4000000 in
set_option maxRecDepth 100000 in
theorem m_ord {l : Launch} {D : va_G} {tys : List (ClassId × FieldType)} {ST : gST} {N : Nat} {sh : Nat → Sh} {cA : Nat → ClassId} {ad a : Nat → Nat} {fr : va_W} {σ : St} {E d0 : String} {nm : List String} {F : List (String × String × String × List Int32)} {adE : Nat → Nat} {L : List Int32} (hT : STok ST) (hE : ∀ A U, ST A U → va_En E d0 nm F adE A U U.heap) (hq : ("java/lang/Enum", "ordinal", "I", L) ∈ F) {i : Nat} (hi : i < nm.length) : gMet l yJx29ce0_ordinal_8abf5 cJx29ce0_ordinal_8abf5 1 (some .int) 0 D tys ST (gwd N sh cA ad a fr σ) [.ref (adE i)] (fun A => gQi D tys A (gwd N sh cA ad a fr) (L.getD i 0) σ) := by
  refine g_ofW hT (by decide) (Nat.le_of_ble_eq_true rfl) ?_
  intro p e s m args below meth c ls A G hP hD hl
  have G : GC p s m args meth c cJx29ce0_ordinal_8abf5 1 RJx29ce0 (some .int) A D tys ST := G
  have hx := G.1
  have hb := G.2.1
  have hS : va_S A s.heap s.heap [] := va_S.rf
  have hl : lv_has ls 1 [(0, .ref (adE i))] := hl
  refine lv_aload_n hx hb dJx29ce0_ordinal_8abf5_0 rfl (lv_at hl 0 rfl) ?_
  refine va_getE hx hb (hE _ _ G.2.2.2.2.2.2.2.2.2.2.1) hi hS G.2.2.2.1 hq (G.2.2.2.2.1 _ q7_141) (fun _ h => h) dJx29ce0_ordinal_8abf5_1 ?_
  exact g_ret G hP hD hS rfl rfl dJx29ce0_ordinal_8abf5_4
section E9
variable {p : Program} {l : Launch} {e : Env} {R : Room} {s : State} {m : MethodId} {args : Array Value} {below : List Frame} {meth : Method} {c : Code} {H : Heap} {locs : List Loc} {cells slots : Nat} {Q : State → Prop}
variable {cc : ByteArray} {maxL : Nat} {ret : Option FieldType} {pc : Nat} {ls : Array Slot} {rest : List Value} {D : va_G} {A : Nat → Prop} {cA : Nat → ClassId} {ad a : Nat → Nat} {fr : va_W} {σ : St}
variable {adF adW tt : Nat → Nat} {ST : gST} {own : String} {N : Nat} {sh : Nat → Sh} {tys : List (ClassId × FieldType)}
theorem g_ord {E d0 : String} {nm : List String} {F : List (String × String × String × List Int32)} {adE : Nat → Nat} {L : List Int32} {d index : Nat} (hE : ∀ A U, ST A U → va_En E d0 nm F adE A U U.heap) (hq : ("java/lang/Enum", "ordinal", "I", L) ∈ F) (i : Nat) (hi : i < nm.length) (G : GC p s m args meth c cc maxL own ret A D tys ST) (hP : va_P D vwCl (gwd N sh cA ad a fr σ) H) (hD : va_D A (gwd N sh cA ad a fr σ)) (hS : va_S A s.heap H locs)
    (hg : GoodIn BIG (va_wsU own index E RJx29ce0 ⟨E, "ordinal", "()I"⟩ yJx29ce0_ordinal_8abf5 (.code yJx29ce0_ordinal_8abf5 cJx29ce0_ordinal_8abf5 1 (some .int) :: BIG))) (hd1 : 1 ≤ d) (hls : ls.size = maxL) (hcat : (rest.map fun v => v.category).sum ≤ 8) (hdg : decode cc pc = .ok (.invokevirtual index, 3))
    (kk : ∀ (H1 : Heap) (locs1 : List Loc), va_P D vwCl (gwd N sh cA ad a fr σ) H1 → va_D A (gwd N sh cA ad a fr σ) → va_S A s.heap H1 locs1 → W p l e (RM d) s m args below meth c H1 locs1 0 0 Q (F0 m (pc + 3) ls (.int (L.getD i 0) :: rest))) : W p l e (RM d) s m args below meth c H locs 0 0 Q (F0 m pc ls (.ref (adE i) :: rest)) := by
  obtain ⟨hx, hb, hml, hown, hts, -, hlocks, hA, hK, hN, hX, hT⟩ := G
  have hF := g_free hD hS hA
  refine va_calli (va_runU (As := []) (rest := rest) (C := E) (owner := RJx29ce0) (x := ⟨E, "ordinal", "()I"⟩) (y := yJx29ce0_ordinal_8abf5) ⟨hx, hb, hml, hown, hts⟩ (m_ord (l := l) (D := D) (tys := tys) (cA := cA) (ad := ad) (a := a) (fr := fr) (σ := σ) (N := N) (sh := sh) hT hE hq hi H.size) (va_cwU 0 hts hg rfl rfl rfl rfl ⟨by decide +kernel, by decide +kernel, by show (parseMethodDescriptor "()I").map (fun d => d.parameters.length) = some 0; decide +kernel⟩ ⟨by show 0 + 1 ≤ d; omega, by show 8 + (1 + 11) + 40 * 0 ≤ 40 * d; omega⟩) ⟨gPre_blind hT, va_recvE (hE _ _ hX) hi hS, fun U hU hW => ⟨rfl, by rw [hU], by rw [hU]; exact hP, va_K.moved hW.alike hK, hD.weaken (fun _ _ _ _ => trivial), hN.warm hW, hT.2 _ _ _ _ _ _ hX hS hU hW hF⟩⟩ rfl rfl hls rfl (lv_room hcat) hdg ⟨Nat.zero_le _, Nat.zero_le _⟩) hS (fun q _ h => hF q h) hF (fun r9 u9 t H1 locs1 ht hvm hw hB hz1 hk1 hS1 => ?_)
  obtain ⟨rfl, rfl⟩ := hw
  obtain ⟨hP1, hK1, hD1⟩ := hB
  rw [ht] at hP1
  exact kk H1 locs1 hP1 (hD1.weaken (fun _ q _ h => hF q.1 h)) hS1
/-- an int field of an enum constant, by a nest mate -/
theorem g_getEN {E d0 host o9 n9 d9 : String} {nm : List String} {F : List (String × String × String × List Int32)} {adE : Nat → Nat} {L : List Int32} {index : Nat} (hE : va_En E d0 nm F adE A s s.heap) (hq : (o9, n9, d9, L) ∈ F) (i : Nat) (hi : i < nm.length) (G : GC p s m args meth c cc maxL own ret A D tys ST) (hS : va_S A s.heap H locs) (hlink : va_Nw (Cond.fieldLinkNest own index o9 n9 d9 host) s) (hdg : decode cc pc = .ok (.getfield index, 3))
    (kk : W p l e R s m args below meth c H locs cells slots Q (F0 m (pc + 3) ls (.int (L.getD i 0) :: rest))) : W p l e R s m args below meth c H locs cells slots Q (F0 m pc ls (.ref (adE i) :: rest)) := by
  obtain ⟨cf, k, fi, f, cell, h1, h2, h3, h4, h5, h6⟩ := (hE.1 i hi).2.2 _ hq
  exact va_Wgetf G.1 G.2.1 G.2.2.2.1 (va_Nw.use rfl hlink) h1 h2 (by rw [hS.2.1 _ (Array.getElem?_eq_some_iff.mp h3).1 h6]; exact h3) h4 h5 rfl rfl hdg kk
theorem g_getWN {o9 n9 d9 host : String} {M : Nat} {v : Nat → Value} {adE : Nat → Nat} {index : Nat} (hE : va_Ef M o9 n9 d9 v adE A s s.heap) (i : Nat) (hi : i < M) (G : GC p s m args meth c cc maxL own ret A D tys ST) (hS : va_S A s.heap H locs) (hlink : va_Nw (Cond.fieldLinkNest own index o9 n9 d9 host) s) (hdg : decode cc pc = .ok (.getfield index, 3))
    (kk : W p l e R s m args below meth c H locs cells slots Q (F0 m (pc + 3) ls (v i :: rest))) : W p l e R s m args below meth c H locs cells slots Q (F0 m pc ls (.ref (adE i) :: rest)) := by
  obtain ⟨cf, k, fi, f, cell, h1, h2, h3, h4, h5, h6⟩ := hE i hi
  exact va_Wgetf G.1 G.2.1 G.2.2.2.1 (va_Nw.use rfl hlink) h1 h2 (by rw [hS.2.1 _ (Array.getElem?_eq_some_iff.mp h3).1 h6]; exact h3) h4 h5 rfl rfl hdg kk
end E9
