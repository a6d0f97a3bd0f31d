-- ===== constructors: a world F ++ B, F at hand, B a frame =====
theorem va_P_mem {D : va_G} {cl : List vw_C} {ws : va_W} {H : Heap} : va_P D cl ws H ↔ ∀ q ∈ ws, va_at D cl q H :=
  ⟨fun h q hq => by obtain ⟨k, hk⟩ := List.getElem?_of_mem hq; exact h k q hk, fun h k q hk => h q (List.mem_of_getElem? hk)⟩
theorem va_D_nd {A : Nat → Prop} {ws : va_W} : va_D A ws ↔ (ws.map (fun q => q.1)).Nodup ∧ ∀ q ∈ ws, A q.1 := by
  constructor
  · intro h
    refine ⟨?_, fun q hq => by obtain ⟨k, hk⟩ := List.getElem?_of_mem hq; exact h.2 k q hk⟩
    rw [List.nodup_iff_pairwise_ne, List.pairwise_iff_getElem]
    intro i j hi hj hij he
    simp only [List.getElem_map] at he
    have hi' : i < ws.length := by simpa using hi
    have hj' : j < ws.length := by simpa using hj
    have := h.1 i j ws[i] ws[j] (List.getElem?_eq_getElem hi') (List.getElem?_eq_getElem hj') he
    omega
  · rintro ⟨h1, h2⟩
    refine ⟨fun i j p q hi hj he => ?_, fun k q hk => h2 q (List.mem_of_getElem? hk)⟩
    obtain ⟨hi', rfl⟩ := List.getElem?_eq_some_iff.mp hi
    obtain ⟨hj', rfl⟩ := List.getElem?_eq_some_iff.mp hj
    rw [List.nodup_iff_pairwise_ne, List.pairwise_iff_getElem] at h1
    rcases Nat.lt_trichotomy i j with h | h | h
    · exact absurd (by rw [List.getElem_map, List.getElem_map]; exact he) (h1 i j (by simpa using hi') (by simpa using hj') h)
    · exact h
    · exact absurd (by rw [List.getElem_map, List.getElem_map]; exact he.symm) (h1 j i (by simpa using hj') (by simpa using hi') h)
theorem va_P.perm {D : va_G} {cl : List vw_C} {w1 w2 : va_W} {H : Heap} (hp : w1.Perm w2) (h : va_P D cl w1 H) : va_P D cl w2 H := va_P_mem.mpr fun q hq => va_P_mem.mp h q (hp.mem_iff.mpr hq)
theorem va_D.perm {A : Nat → Prop} {w1 w2 : va_W} (hp : w1.Perm w2) (h : va_D A w1) : va_D A w2 := by
  obtain ⟨h1, h2⟩ := va_D_nd.mp h
  exact va_D_nd.mpr ⟨(hp.map _).nodup_iff.mp h1, fun q hq => h2 q (hp.mem_iff.mpr hq)⟩
theorem fb_get {F B : va_W} {p : Nat} {x : Nat × va_E} (h : F[p]? = some x) : (F ++ B)[p]? = some x := by
  rw [List.getElem?_append_left (List.getElem?_eq_some_iff.mp h).1]; exact h
theorem fb_set {F B : va_W} {p : Nat} {x y : Nat × va_E} (h : F[p]? = some x) : (F ++ B).set p y = F.set p y ++ B := List.set_append_left _ _ (List.getElem?_eq_some_iff.mp h).1
theorem fb_push (F B : va_W) (x : Nat × va_E) : (F ++ B ++ [x]).Perm ((F ++ [x]) ++ B) := by
  rw [List.append_assoc, List.append_assoc]
  exact List.Perm.append_left F List.perm_append_comm
/-- behind a call that had the cells wc alone -/
theorem fb_join {A0 : Nat → Prop} {D : va_G} {cl : List vw_C} {W0 wc w1 : va_W} {H H1 : Heap} (hP : va_P D cl (W0 ++ wc) H) (hD : va_D A0 (W0 ++ wc)) (hk : ∀ q : Nat, q < H.size → ¬ va_A wc H.size q → H1[q]? = H[q]?) (hF : ∀ q, va_A wc H.size q → A0 q) (hP1 : va_P D cl w1 H1) (hD1 : va_D (va_A wc H.size) w1) : va_P D cl (W0 ++ w1) H1 ∧ va_D A0 (W0 ++ w1) := by
  have hP' := va_P_mem.mp hP
  obtain ⟨n1, n2⟩ := va_D_nd.mp hD
  rw [List.map_append, List.nodup_append] at n1
  have apart : ∀ q ∈ W0, q.1 < H.size ∧ ¬ va_A wc H.size q.1 := by
    intro q hq
    have hl := (hP' q (List.mem_append_left _ hq)).lt
    refine ⟨hl, fun h => ?_⟩
    rcases h with ⟨k, e, h⟩ | h
    · exact n1.2.2 _ (List.mem_map_of_mem (f := fun q : Nat × va_E => q.1) hq) _ (List.mem_map_of_mem (f := fun q : Nat × va_E => q.1) (List.mem_of_getElem? h)) rfl
    · omega
  obtain ⟨m1, m2⟩ := va_D_nd.mp hD1
  refine ⟨va_P_mem.mpr fun q hq => ?_, va_D_nd.mpr ⟨?_, fun q hq => ?_⟩⟩
  · rcases List.mem_append.mp hq with h | h
    · exact (hP' q (List.mem_append_left _ h)).kept (hk _ (apart q h).1 (apart q h).2)
    · exact va_P_mem.mp hP1 q h
  · rw [List.map_append, List.nodup_append]
    refine ⟨n1.1, m1, fun x hx y hy e => ?_⟩
    obtain ⟨q, hq, rfl⟩ := List.mem_map.mp hx
    obtain ⟨z, hz, rfl⟩ := List.mem_map.mp hy
    exact (apart q hq).2 (by rw [e]; exact m2 z hz)
  · rcases List.mem_append.mp hq with h | h
    · exact n2 q (List.mem_append_left _ h)
    · exact hF _ (m2 q h)
theorem fb_free {A0 : Nat → Prop} {W0 wc : va_W} {H0 H : Heap} {locs : List Loc} (hD : va_D A0 (W0 ++ wc)) (hS : va_S A0 H0 H locs) (hA : ∀ q, H0.size ≤ q → A0 q) : ∀ q, va_A wc H.size q → A0 q := by
  intro q h
  rcases h with ⟨k, e, h⟩ | h
  · exact (va_D_nd.mp hD).2 (q, e) (List.mem_append_right _ (List.mem_of_getElem? h))
  · exact hA q (Nat.le_trans hS.1 h)
abbrev RMC (d mc ms : Nat) : Room := { frames := d, cells := mc, slots := ms, locals := 40 * d }
/-- a constructor's contract: out of the cell of a new object (and no other) comes the world W b, b the addresses -/
def gMetC (l : Launch) (y : MethodName) (cc : ByteArray) (maxL : Nat) (d mc ms : Nat) (D : va_G) (tys : List (ClassId × FieldType)) (ST : gST) (ws : va_W) (av : List Value) {β : Type} (ok : β → Prop) (Wb : β → va_W) : Prop :=
  ∀ sz : Nat, Met l y (.code y cc maxL none :: BIG) (RMC d mc ms) (gPre D tys ST ws sz av) (va_Qv ok (fun b t => va_P D vwCl (Wb b) t.heap ∧ va_K D vwCl tys t ∧ va_D (va_A ws sz) (Wb b)) (va_A ws sz)) mc ms (va_A ws sz)
theorem g_ofWC {l : Launch} {y : MethodName} {cc : ByteArray} {maxL d mc ms : Nat} {D : va_G} {tys : List (ClassId × FieldType)} {ST : gST} {ws : va_W} {av : List Value} {β : Type} {ok : β → Prop} {Wb : β → va_W} (hT : STok ST) (hy : plainFor y = true) (hav : (lg_sl av).length ≤ maxL)
    (body : ∀ p e s m args below meth c ls A, GC p s m args meth c cc maxL y.cls none A D tys ST → meth.name = y.name → va_P D vwCl ws s.heap → va_D A ws → lv_has ls maxL (lv_args 0 av) → W p l e (RMC d mc ms) s m args below meth c s.heap [] 0 0 (MQ below (va_Qv ok (fun b t => va_P D vwCl (Wb b) t.heap ∧ va_K D vwCl tys t ∧ va_D A (Wb b)) A) args s mc ms A) (F0 m 0 ls [])) : gMetC l y cc maxL d mc ms D tys ST ws av ok Wb := by
  intro sz
  refine Met_ofWF (cc := cc) (maxL := maxL) (ret := none) hy rfl ?_
  intro p e s m args below meth c s₁ B hml hv
  obtain ⟨rfl, hsz, hP, hK, hD0, hN, hX⟩ := hv
  subst hsz
  have hts0 := atoms_spec (ws := .code y cc maxL none :: BIG) B.pre
  rw [lg_entry_eq]
  exact body p e s m av.toArray below meth c _ _ ⟨B.exec, B.bytes, hml, findClass_of_methodNamed B.named, fun w h => hts0 w (List.mem_cons_of_mem _ h), B.returns, B.notSynchronized, fun q h => Or.inr h, hK, hN, hX, hT⟩ (name_of_methodNamed B.named B.method).1 hP hD0.self (lv_entry av hav)
section C14
variable {p : Program} {l : Launch} {e : Env} {R : Room} {s : State} {m : MethodId} {args : Array Value} {below : List Frame} {meth : Method} {c : Code} {H : Heap} {locs : List Loc} {cells slots : Nat} {Q : State → Prop}
variable {cc : ByteArray} {maxL : Nat} {ret : Option FieldType} {pc : Nat} {ls : Array Slot} {rest : List Value} {D : va_G} {A : Nat → Prop} {cA : Nat → ClassId} {F B : va_W} {ST : gST} {own : String}
theorem tys_same {s : State} {D : va_G} {cl : List vw_C} {tys : List (ClassId × FieldType)} {t : Nat} {c1 c2 : ClassId} {ty : FieldType} (hty : ∀ C, ty ≠ .object C) (hK : va_K D cl (tys ++ [(c2, ty)]) s) (ht : tys[t]? = some (c1, ty)) : c2 = c1 := by
  have h1 := (hK.2 t _ (by rw [List.getElem?_append_left (List.getElem?_eq_some_iff.mp ht).1]; exact ht)).2
  have h2 := (hK.2 tys.length (c2, ty) (by rw [List.getElem?_append_right (Nat.le_refl _)]; simp)).2
  cases ty with
  | object C => exact absurd rfl (hty C)
  | _ => exact Option.some.inj (h2.symm.trans h1)
/-- a new row of numbers, at the end of F -/
theorem c_newa {atype : ArrayType} {ty : FieldType} (t : Nat) (hty : newarray.typeOf atype = ty) (hne : ∀ C, ty ≠ .object C) (G : GC p s m args meth c cc maxL own ret A D (TYS cA) ST) (hP : va_P D vwCl (F ++ B) H) (hD : va_D A (F ++ B)) (hS : va_S A s.heap H locs) (harr : Cond.arrayClass ty ∈ BIG) (ht : (TYS cA)[t]? = some (cA t, ty)) {n : Int32} {N' : Nat} (a0 : vp_A) (ha : ∀ c9 : ClassId, vp_cell c9 a0 = arrV c9 N' (fun _ => defaultValue ty)) (hn : ¬ n < 0) (hN : n.toNatClampNeg = N') (hbytes : N' * componentBytes ty ≤ 536870912) (hcells : cells + 1 ≤ R.cells) (hslots : slots + N' ≤ R.slots) (hdg : decode cc pc = .ok (.newarray atype, 2))
    (kk : ∀ (q : Nat) (H1 : Heap), va_P D vwCl ((F ++ [(q, .inl (cA t, a0))]) ++ B) H1 → va_D A ((F ++ [(q, .inl (cA t, a0))]) ++ B) → va_S A s.heap H1 locs → W p l e R s m args below meth c H1 locs (cells + 1) (slots + N') Q (F0 m (pc + 2) ls (.ref q :: rest))) : W p l e R s m args below meth c H locs cells slots Q (F0 m pc ls (.int n :: rest)) := by
  obtain ⟨hx, hb, hml, hown, hts, hr, hlocks, hA, hK, hN9, hX, hT⟩ := G
  refine va_newa hx hb (by rw [hty]; exact hts _ harr) hty hK hP hD hS hA ha hn hN hbytes hcells hslots hdg (fun q c2 H1 hK1 hP1 hD1 hS1 => ?_)
  cases tys_same hne hK1 ht
  exact kk q H1 (hP1.perm (fb_push F B _)) (hD1.perm (fb_push F B _)) hS1
/-- a new object, at the end of F -/
theorem c_new {C : String} {T : u_T} {N ci index : Nat} (G : GC p s m args meth c cc maxL own ret A D (TYS cA) ST) (hP : va_P D vwCl (F ++ B) H) (hD : va_D A (F ++ B)) (hS : va_S A s.heap H locs) (hin : ∀ w ∈ u_ws C T N, w ∈ BIG) (ty : Nat → FieldType) (hty : ∀ k, k < N → parseFieldDescriptor (T k).2.2.1 = some (ty k)) (hcl : Cond.classLink own index C ∈ BIG) (hinst : Cond.instantiable C N ∈ BIG) (hini : Cond.initialized C ∈ BIG) (hc : vwCl[ci]? = some (C, T, N)) {fs : List Value} (hfs : ∀ j, j < N → defaultValue (ty j) = vp_V fs j) (hcells : cells + 1 ≤ R.cells) (hslots : slots + N ≤ R.slots) (hdg : decode cc pc = .ok (.new index, 3))
    (kk : ∀ (q : Nat) (H1 : Heap), va_P D vwCl ((F ++ [(q, .inr (ci, fs))]) ++ B) H1 → va_D A ((F ++ [(q, .inr (ci, fs))]) ++ B) → va_S A s.heap H1 locs → W p l e R s m args below meth c H1 locs (cells + 1) (slots + N) Q (F0 m (pc + 3) ls (.ref q :: rest))) : W p l e R s m args below meth c H locs cells slots Q (F0 m pc ls rest) := by
  obtain ⟨hx, hb, hml, hown, hts, hr, hlocks, hA, hK, hN9, hX, hT⟩ := G
  refine va_new hx hb hts hin ty hty hown (hts _ hcl) (hts _ hinst) (hts _ hini) hK hP hD hS hA hc hfs hcells hslots hdg (fun q H1 hP1 hD1 hS1 => ?_)
  exact kk q H1 (hP1.perm (fb_push F B _)) (hD1.perm (fb_push F B _)) hS1
/-- a field of a cell of F is put, in a constructor (final or not) -/
theorem c_put {C : String} {T : u_T} {M ci index a : Nat} {fs : List Value} {v : Value} (hnm9 : meth.name = "<init>") (G : GC p s m args meth c cc maxL own ret A D (TYS cA) ST) (hP : va_P D vwCl (F ++ B) H) (hD : va_D A (F ++ B)) (hS : va_S A s.heap H locs) (q0 j : Nat) (hin : ∀ w ∈ u_ws C T M, w ∈ BIG) (hc : vwCl[ci]? = some (C, T, M)) (ty0 : Nat → FieldType) (hty : ∀ k, k < M → parseFieldDescriptor (T k).2.2.1 = some (ty0 k)) (hnm : ∀ a, a < M → ∀ b, b < M → a ≠ b → (T a).2.1 ≠ (T b).2.1) (he : F[q0]? = some (a, .inr (ci, fs))) (hj : j < M) (hlink : Cond.fieldLink own index (T j).1 (T j).2.1 (T j).2.2.1 ∈ BIG) (hdecl : (T j).1 = own) (hn : narrow (ty0 j) v = v) (hfit : fits (ty0 j) v = true) (hl : j < fs.length) (hdg : decode cc pc = .ok (.putfield index, 3))
    (kk : ∀ (H1 : Heap) (locs1 : List Loc), va_P D vwCl (F.set q0 (a, .inr (ci, fs.set j v)) ++ B) H1 → va_D A (F.set q0 (a, .inr (ci, fs.set j v)) ++ B) → va_S A s.heap H1 locs1 → W p l e R s m args below meth c H1 locs1 cells slots Q (F0 m (pc + 3) ls rest)) : W p l e R s m args below meth c H locs cells slots Q (F0 m pc ls (v :: .ref a :: rest)) := by
  obtain ⟨hx, hb, hml, hown, hts, hr, hlocks, hA, hK, hN9, hX, hT⟩ := G
  cases hf : (T j).2.2.2 with
  | false =>
    refine va_put (ty := ty0 j) hx hb hts hin ty0 hty hnm hown hK hP hD hS q0 (fb_get he) hc j hj (hts _ hlink) (fun _ h => h) hf (hty j hj) hn hfit hl hdg (fun H1 locs1 hP1 hD1 hS1 => ?_)
    rw [fb_set he] at hP1 hD1
    exact kk H1 locs1 hP1 hD1 hS1
  | true =>
    refine va_putF (ty := ty0 j) hx hb hts hin ty0 hty hnm hown hK hP hD hS q0 (fb_get he) hc j hj (hts _ hlink) (fun _ h => h) hf hnm9 hdecl (hty j hj) hn hfit hl hdg (fun H1 locs1 hP1 hD1 hS1 => ?_)
    rw [fb_set he] at hP1 hD1
    exact kk H1 locs1 hP1 hD1 hS1
theorem c_objInit {a index : Nat} (G : GC p s m args meth c cc maxL own ret A D (TYS cA) ST) (hlink : Cond.methodLink own index Lib.objectInit ∈ BIG) (hinst : Cond.instanceMethod Lib.objectInit ∈ BIG) (hcode : Cond.code Lib.objectInit ⟨#[0xb1]⟩ 1 none ∈ BIG) (hls : ls.size = maxL) (hdg : decode cc pc = .ok (.invokespecial index, 3)) (hR : 1 ≤ R.frames ∧ 20 ≤ R.locals) (hcat : (rest.map fun v => v.category).sum ≤ 8)
    (kk : W p l e R s m args below meth c H locs cells slots Q (F0 m (pc + 3) ls rest)) : W p l e R s m args below meth c H locs cells slots Q (F0 m pc ls (.ref a :: rest)) := by
  obtain ⟨hx, hb, hml, hown, hts, hr, hlocks, hA, hK, hN9, hX, hT⟩ := G
  refine W.objInit hx hb hown (hts _ hlink) (hts _ hinst) (hts _ hcode) rfl (hls.trans hml.symm) rfl hdg hR.1 (by show 2 * 0 + _ + 12 ≤ _; omega) ?_
  exact kk
theorem c_ret {β : Type} {ok : β → Prop} {Wb : β → va_W} {mc ms : Nat} (b : β) (hok : ok b) (G : GC p s m args meth c cc maxL own none A D (TYS cA) ST) (hP : va_P D vwCl (Wb b) H) (hD : va_D A (Wb b)) (hS : va_S A s.heap H locs) (hc : cells ≤ mc ∧ slots ≤ ms) (hdg : decode cc pc = .ok (.return_, 1)) : W p l e R s m args below meth c H locs cells slots (MQ below (va_Qv ok (fun b t => va_P D vwCl (Wb b) t.heap ∧ va_K D vwCl (TYS cA) t ∧ va_D A (Wb b)) A) args s mc ms A) (F0 m pc ls []) := by
  obtain ⟨hx, hb, hml, hown, hts, hr, hlocks, hA, hK, hN, hX, hT⟩ := G
  refine W.widen (k := mc) (n := ms) hc.1 hc.2 ?_
  exact W.vret hx hb hr (fun t ht hW => ⟨⟨b, rfl, hok, by rw [ht]; exact hP, va_K.moved hW.alike hK, hD⟩, hS.F ht⟩) hS.2.2 hdg
end C14
section D14
variable {p : Program} {l : Launch} {e : Env} {R : Room} {s : State} {m : MethodId} {args : Array Value} {below : List Frame} {meth : Method} {c : Code} {H : Heap} {locs : List Loc} {cells slots : Nat} {Q : State → Prop}
variable {cc : ByteArray} {maxL : Nat} {ret : Option FieldType} {pc : Nat} {ls : Array Slot} {rest : List Value} {D : va_G} {A : Nat → Prop} {cA : Nat → ClassId} {F B : va_W} {ST : gST} {own : String}
theorem c_get {C : String} {T : u_T} {M ci index a : Nat} {fs : List Value} {v : Value} (G : GC p s m args meth c cc maxL own ret A D (TYS cA) ST) (hP : va_P D vwCl (F ++ B) H) (q0 j : Nat) (hin : ∀ w ∈ u_ws C T M, w ∈ BIG) (hc : vwCl[ci]? = some (C, T, M)) (he : F[q0]? = some (a, .inr (ci, fs))) (hj : j < M) (hlink : Cond.fieldLink own index (T j).1 (T j).2.1 (T j).2.2.1 ∈ BIG) (hv : fs[j]? = some v) (hdg : decode cc pc = .ok (.getfield index, 3))
    (kk : W p l e R s m args below meth c H locs cells slots Q (F0 m (pc + 3) ls (v :: rest))) : W p l e R s m args below meth c H locs cells slots Q (F0 m pc ls (.ref a :: rest)) :=
  va_get G.1 G.2.1 G.2.2.2.2.1 hin G.2.2.2.1 G.2.2.2.2.2.2.2.2.1 hP q0 (fb_get he) hc j hj (G.2.2.2.2.1 _ hlink) (fun _ h => h) hv hdg kk
theorem c_iast {a n : Nat} {f : Nat → Int32} {i x : Int32} (k : Nat) (hk : i.toNatClampNeg = k) (G : GC p s m args meth c cc maxL own ret A D (TYS cA) ST) (hP : va_P D vwCl (F ++ B) H) (hD : va_D A (F ++ B)) (hS : va_S A s.heap H locs) (q0 : Nat) (he : F[q0]? = some (a, .inl (cA 0, n, .inl f))) (hi : vp_in i n) (hdg : decode cc pc = .ok (.iastore, 1))
    (kk : ∀ (H1 : Heap) (locs1 : List Loc), va_P D vwCl (F.set q0 (a, .inl (cA 0, n, .inl (upd f k x))) ++ B) H1 → va_D A (F.set q0 (a, .inl (cA 0, n, .inl (upd f k x))) ++ B) → va_S A s.heap H1 locs1 → W p l e R s m args below meth c H1 locs1 cells slots Q (F0 m (pc + 1) ls rest)) : W p l e R s m args below meth c H locs cells slots Q (F0 m pc ls (.int x :: .int i :: .ref a :: rest)) := by
  subst hk
  refine va_iast G.1 G.2.1 G.2.2.2.2.2.2.2.2.1 hP hD hS q0 0 (fb_get he) rfl hi hdg (fun H1 locs1 hP1 hD1 hS1 => ?_)
  rw [fb_set he] at hP1 hD1
  exact kk H1 locs1 hP1 hD1 hS1
theorem c_callI {β : Type} {ok : β → Prop} {Wb : β → va_W} {y : MethodName} {bytes : ByteArray} {n d1 mc ms index q : Nat} {x : va_E} (hM : gMetC l y bytes n d1 mc ms D (TYS cA) ST [(q, x)] [.ref q] ok Wb) (G : GC p s m args meth c cc maxL own ret A D (TYS cA) ST) (hP : va_P D vwCl ((F ++ [(q, x)]) ++ B) H) (hD : va_D A ((F ++ [(q, x)]) ++ B)) (hS : va_S A s.heap H locs)
    (hl : Cond.methodLink own index y ∈ BIG) (hin : Cond.instanceMethod y ∈ BIG) (hini : Cond.initialized y.cls ∈ BIG) (hcd : Cond.code y bytes n none ∈ BIG) (hy1 : y.name = "<init>") (hd : y.cls ≠ "java/lang/invoke/MethodHandle" ∧ y.cls ≠ "java/lang/invoke/VarHandle" ∧ (parseMethodDescriptor y.desc).map (fun d => d.parameters.length) = some 0) (hR : d1 + 1 ≤ R.frames ∧ 19 + n + 40 * d1 ≤ R.locals ∧ cells + mc ≤ R.cells ∧ slots + ms ≤ R.slots) (hls : ls.size = maxL) (hcat : (rest.map fun v => v.category).sum ≤ 8) (hdg : decode cc pc = .ok (.invokespecial index, 3))
    (kk : ∀ (b : β) (H1 : Heap) (locs1 : List Loc), ok b → va_P D vwCl (F ++ (B ++ Wb b)) H1 → va_D A (F ++ (B ++ Wb b)) → va_S A s.heap H1 locs1 → W p l e R s m args below meth c H1 locs1 (cells + mc) (slots + ms) Q (F0 m (pc + 3) ls rest)) : W p l e R s m args below meth c H locs cells slots Q (F0 m pc ls (.ref q :: rest)) := by
  obtain ⟨hx, hb, hml, hown, hts, -, hlocks, hA, hK, hN, hX, hT⟩ := G
  have hp9 : ((F ++ [(q, x)]) ++ B).Perm ((F ++ B) ++ [(q, x)]) := (fb_push F B (q, x)).symm
  have hP := hP.perm hp9
  have hD := hD.perm hp9
  have hF := fb_free hD hS hA
  have hPc : va_P D vwCl [(q, x)] H := va_P_mem.mpr fun z hz => va_P_mem.mp hP z (List.mem_append_right _ hz)
  have hDc : va_D (fun _ => True) [(q, x)] := va_D_nd.mpr ⟨by simp, fun _ _ => trivial⟩
  have hG : GoodIn BIG (.code y bytes n none :: BIG) := fun w hw => big_good w (by rcases List.mem_cons.mp hw with rfl | h; exact hcd; exact h)
  refine va_callv (va_runI (As := []) (rest := rest) ⟨hx, hb, hml, hown, hts⟩ (hM H.size) (cwI 0 hts hG rfl rfl rfl (hts _ hini) (hts _ hl) (hts _ hin) hy1 hd ⟨by show d1 + 1 ≤ R.frames; exact hR.1, by show 8 + (n + 11) + 40 * d1 ≤ R.locals; omega⟩) ⟨gPre_blind hT, fun U hU hW => ⟨rfl, by rw [hU], by rw [hU]; exact hPc, va_K.moved hW.alike hK, hDc, hN.warm hW, hT.2 _ _ _ _ _ _ hX hS hU hW hF⟩⟩ rfl rfl hls rfl (lv_room hcat) hdg ⟨hR.2.2.1, hR.2.2.2⟩) hS (fun q _ h => hF q h) hF (fun b t H1 locs1 ht hvm hw hB hz1 hk1 hS1 => ?_)
  obtain ⟨hP1, hK1, hD1⟩ := hB
  rw [ht] at hP1
  obtain ⟨hP2, hD2⟩ := fb_join hP hD hk1 hF hP1 hD1
  rw [List.append_assoc] at hP2 hD2
  exact kk b H1 locs1 hw hP2 hD2 hS1
theorem c_callIN {β : Type} {ok : β → Prop} {Wb : β → va_W} {y : MethodName} {bytes : ByteArray} {n d1 mc ms index q : Nat} {x : va_E} {host : String} (hM : gMetC l y bytes n d1 mc ms D (TYS cA) ST [(q, x)] [.ref q] ok Wb) (G : GC p s m args meth c cc maxL own ret A D (TYS cA) ST) (hP : va_P D vwCl ((F ++ [(q, x)]) ++ B) H) (hD : va_D A ((F ++ [(q, x)]) ++ B)) (hS : va_S A s.heap H locs)
    (hl : va_Nw (.methodLinkNest own index y host) s) (hin : Cond.instanceMethod y ∈ BIG) (hini : Cond.initialized y.cls ∈ BIG) (hcd : Cond.code y bytes n none ∈ BIG) (hy1 : y.name = "<init>") (hd : y.cls ≠ "java/lang/invoke/MethodHandle" ∧ y.cls ≠ "java/lang/invoke/VarHandle" ∧ (parseMethodDescriptor y.desc).map (fun d => d.parameters.length) = some 0) (hR : d1 + 1 ≤ R.frames ∧ 19 + n + 40 * d1 ≤ R.locals ∧ cells + mc ≤ R.cells ∧ slots + ms ≤ R.slots) (hls : ls.size = maxL) (hcat : (rest.map fun v => v.category).sum ≤ 8) (hdg : decode cc pc = .ok (.invokespecial index, 3))
    (kk : ∀ (b : β) (H1 : Heap) (locs1 : List Loc), ok b → va_P D vwCl (F ++ (B ++ Wb b)) H1 → va_D A (F ++ (B ++ Wb b)) → va_S A s.heap H1 locs1 → W p l e R s m args below meth c H1 locs1 (cells + mc) (slots + ms) Q (F0 m (pc + 3) ls rest)) : W p l e R s m args below meth c H locs cells slots Q (F0 m pc ls (.ref q :: rest)) := by
  obtain ⟨hx, hb, hml, hown, hts, -, hlocks, hA, hK, hN, hX, hT⟩ := G
  have hp9 : ((F ++ [(q, x)]) ++ B).Perm ((F ++ B) ++ [(q, x)]) := (fb_push F B (q, x)).symm
  have hP := hP.perm hp9
  have hD := hD.perm hp9
  have hF := fb_free hD hS hA
  have hPc : va_P D vwCl [(q, x)] H := va_P_mem.mpr fun z hz => va_P_mem.mp hP z (List.mem_append_right _ hz)
  have hDc : va_D (fun _ => True) [(q, x)] := va_D_nd.mpr ⟨by simp, fun _ _ => trivial⟩
  have hG : GoodIn BIG (.code y bytes n none :: BIG) := fun w hw => big_good w (by rcases List.mem_cons.mp hw with rfl | h; exact hcd; exact h)
  refine va_callv (va_runIN (As := []) (rest := rest) ⟨hx, hb, hml, hown, hts⟩ (hM H.size) ⟨va_cnB (host := host) 0 hts hG rfl rfl rfl hl (hts _ hini) hd ⟨by show d1 + 1 ≤ R.frames; exact hR.1, by show 8 + (n + 11) + 40 * d1 ≤ R.locals; omega⟩, hy1, hts _ hin⟩ ⟨gPre_blind hT, fun U hU hW => ⟨rfl, by rw [hU], by rw [hU]; exact hPc, va_K.moved hW.alike hK, hDc, hN.warm hW, hT.2 _ _ _ _ _ _ hX hS hU hW hF⟩⟩ rfl rfl hls rfl (lv_room hcat) hdg ⟨hR.2.2.1, hR.2.2.2⟩) hS (fun q _ h => hF q h) hF (fun b t H1 locs1 ht hvm hw hB hz1 hk1 hS1 => ?_)
  obtain ⟨hP1, hK1, hD1⟩ := hB
  rw [ht] at hP1
  obtain ⟨hP2, hD2⟩ := fb_join hP hD hk1 hF hP1 hD1
  rw [List.append_assoc] at hP2 hD2
  exact kk b H1 locs1 hw hP2 hD2 hS1
end D14

def gws (lo n : Nat) (sh : Nat → Sh) (cA : Nat → ClassId) (ad a : Nat → Nat) (σ : St) : va_W := (List.range n).map (fun c => (a (lo + c), mkE cA ad a (sh (lo + c)) (σ (lo + c))))
/-- a new mill's numbers -/
def σM0 : St := fun c => match c with | 16 => upd (upd (upd (fun _ => 0) 0 1) 1 1) 2 1 | 18 => upd (upd (upd (upd (upd (upd (upd (upd (fun _ => 0) 0 3) 1 3) 2 3) 3 3) 4 3) 5 3) 6 3) 7 3 | _ => fun _ => 0
set_option maxHeartbeats 4000000 in
set_option maxRecDepth 100000 in
theorem mX7_init (l : Launch) (D : va_G) (cA : Nat → ClassId) (ad adF adW tt : Nat → Nat) (ST : gST) (hT : STE ad adF adW tt ST) (h0 : Nat) : gMetC l yX7_init cX7_init 1 1 5 63 D (TYS cA) ST [(h0, .inr (9, [.null, .null, .null, .null, .null, .int 0, .int 0]))] [.ref h0] (fun b : Nat → Nat => b 1 = h0) (fun b => gws 1 6 (shmill 0) cA ad b σM0) := by
  refine g_ofWC hT.1 (by decide +kernel) (Nat.le_of_ble_eq_true rfl) ?_
  intro p e s m args below meth c ls A G hnm9 hP hD hl
  have G : GC p s m args meth c cX7_init 1 RX7 none A D (TYS cA) ST := G
  have hnm9 : meth.name = "<init>" := hnm9
  have hx := G.1
  have hb := G.2.1
  have hS : va_S A s.heap s.heap [] := va_S.rf
  have hl : lv_has ls 1 [(0, .ref h0)] := hl
  have hP : va_P D vwCl ([(h0, .inr (9, [.null, .null, .null, .null, .null, .int 0, .int 0]))] ++ ([] : va_W)) s.heap := hP
  have hD : va_D A ([(h0, .inr (9, [.null, .null, .null, .null, .null, .int 0, .int 0]))] ++ ([] : va_W)) := hD
  refine lv_aload_n hx hb dX7_init_0 rfl (lv_at hl 0 rfl) ?_
  refine c_objInit G q1_59 q1_46 q1_47 hl.1 dX7_init_1 (by decide) (Nat.le_of_ble_eq_true rfl) ?_
  refine lv_aload_n hx hb dX7_init_4 rfl (lv_at hl 0 rfl) ?_
  refine lv_bipush (v := 15) hx hb dX7_init_5 (by decide) ?_
  refine c_newa (atype := .int) (ty := .int) (F := [(h0, .inr (9, [.null, .null, .null, .null, .null, .int 0, .int 0]))]) (B := ([] : va_W)) 0 rfl (fun _ h => by cases h) G hP hD hS q1_91 rfl (15, .inl (fun _ => 0)) (fun _ => rfl) (by decide) rfl (by decide) (Nat.le_of_ble_eq_true rfl) (Nat.le_of_ble_eq_true rfl) dX7_init_7 (fun q1 H hP hD hS => ?_)
  have hP : va_P D vwCl ([(h0, .inr (9, [.null, .null, .null, .null, .null, .int 0, .int 0])), (q1, .inl (cA 0, 15, .inl (fun _ => 0)))] ++ ([] : va_W)) H := hP
  have hD : va_D A ([(h0, .inr (9, [.null, .null, .null, .null, .null, .int 0, .int 0])), (q1, .inl (cA 0, 15, .inl (fun _ => 0)))] ++ ([] : va_W)) := hD
  refine c_put (F := [(h0, .inr (9, [.null, .null, .null, .null, .null, .int 0, .int 0])), (q1, .inl (cA 0, 15, .inl (fun _ => 0)))]) (B := ([] : va_W)) (ci := 9) (v := .ref q1) hnm9 G hP hD hS 0 0 i_X7 rfl tyX7 tyX7_ok nmX7 rfl (by decide) q1_60 rfl rfl rfl (Nat.le_of_ble_eq_true rfl) dX7_init_9 (fun H locs hP hD hS => ?_)
  have hP : va_P D vwCl ([(h0, .inr (9, [.ref q1, .null, .null, .null, .null, .int 0, .int 0])), (q1, .inl (cA 0, 15, .inl (fun _ => 0)))] ++ ([] : va_W)) H := hP
  have hD : va_D A ([(h0, .inr (9, [.ref q1, .null, .null, .null, .null, .int 0, .int 0])), (q1, .inl (cA 0, 15, .inl (fun _ => 0)))] ++ ([] : va_W)) := hD
  refine lv_aload_n hx hb dX7_init_12 rfl (lv_at hl 0 rfl) ?_
  refine lv_bipush (v := 15) hx hb dX7_init_13 (by decide) ?_
  refine c_newa (atype := .int) (ty := .int) (F := [(h0, .inr (9, [.ref q1, .null, .null, .null, .null, .int 0, .int 0])), (q1, .inl (cA 0, 15, .inl (fun _ => 0)))]) (B := ([] : va_W)) 0 rfl (fun _ h => by cases h) G hP hD hS q1_91 rfl (15, .inl (fun _ => 0)) (fun _ => rfl) (by decide) rfl (by decide) (Nat.le_of_ble_eq_true rfl) (Nat.le_of_ble_eq_true rfl) dX7_init_15 (fun q2 H hP hD hS => ?_)
  have hP : va_P D vwCl ([(h0, .inr (9, [.ref q1, .null, .null, .null, .null, .int 0, .int 0])), (q1, .inl (cA 0, 15, .inl (fun _ => 0))), (q2, .inl (cA 0, 15, .inl (fun _ => 0)))] ++ ([] : va_W)) H := hP
  have hD : va_D A ([(h0, .inr (9, [.ref q1, .null, .null, .null, .null, .int 0, .int 0])), (q1, .inl (cA 0, 15, .inl (fun _ => 0))), (q2, .inl (cA 0, 15, .inl (fun _ => 0)))] ++ ([] : va_W)) := hD
  refine c_put (F := [(h0, .inr (9, [.ref q1, .null, .null, .null, .null, .int 0, .int 0])), (q1, .inl (cA 0, 15, .inl (fun _ => 0))), (q2, .inl (cA 0, 15, .inl (fun _ => 0)))]) (B := ([] : va_W)) (ci := 9) (v := .ref q2) hnm9 G hP hD hS 0 1 i_X7 rfl tyX7 tyX7_ok nmX7 rfl (by decide) q1_63 rfl rfl rfl (Nat.le_of_ble_eq_true rfl) dX7_init_17 (fun H locs hP hD hS => ?_)
  have hP : va_P D vwCl ([(h0, .inr (9, [.ref q1, .ref q2, .null, .null, .null, .int 0, .int 0])), (q1, .inl (cA 0, 15, .inl (fun _ => 0))), (q2, .inl (cA 0, 15, .inl (fun _ => 0)))] ++ ([] : va_W)) H := hP
  have hD : va_D A ([(h0, .inr (9, [.ref q1, .ref q2, .null, .null, .null, .int 0, .int 0])), (q1, .inl (cA 0, 15, .inl (fun _ => 0))), (q2, .inl (cA 0, 15, .inl (fun _ => 0)))] ++ ([] : va_W)) := hD
  refine lv_aload_n hx hb dX7_init_20 rfl (lv_at hl 0 rfl) ?_
  refine lv_bipush (v := 15) hx hb dX7_init_21 (by decide) ?_
  refine c_newa (atype := .int) (ty := .int) (F := [(h0, .inr (9, [.ref q1, .ref q2, .null, .null, .null, .int 0, .int 0])), (q1, .inl (cA 0, 15, .inl (fun _ => 0))), (q2, .inl (cA 0, 15, .inl (fun _ => 0)))]) (B := ([] : va_W)) 0 rfl (fun _ h => by cases h) G hP hD hS q1_91 rfl (15, .inl (fun _ => 0)) (fun _ => rfl) (by decide) rfl (by decide) (Nat.le_of_ble_eq_true rfl) (Nat.le_of_ble_eq_true rfl) dX7_init_23 (fun q3 H hP hD hS => ?_)
  have hP : va_P D vwCl ([(h0, .inr (9, [.ref q1, .ref q2, .null, .null, .null, .int 0, .int 0])), (q1, .inl (cA 0, 15, .inl (fun _ => 0))), (q2, .inl (cA 0, 15, .inl (fun _ => 0))), (q3, .inl (cA 0, 15, .inl (fun _ => 0)))] ++ ([] : va_W)) H := hP
  have hD : va_D A ([(h0, .inr (9, [.ref q1, .ref q2, .null, .null, .null, .int 0, .int 0])), (q1, .inl (cA 0, 15, .inl (fun _ => 0))), (q2, .inl (cA 0, 15, .inl (fun _ => 0))), (q3, .inl (cA 0, 15, .inl (fun _ => 0)))] ++ ([] : va_W)) := hD
  refine c_put (F := [(h0, .inr (9, [.ref q1, .ref q2, .null, .null, .null, .int 0, .int 0])), (q1, .inl (cA 0, 15, .inl (fun _ => 0))), (q2, .inl (cA 0, 15, .inl (fun _ => 0))), (q3, .inl (cA 0, 15, .inl (fun _ => 0)))]) (B := ([] : va_W)) (ci := 9) (v := .ref q3) hnm9 G hP hD hS 0 2 i_X7 rfl tyX7 tyX7_ok nmX7 rfl (by decide) q1_66 rfl rfl rfl (Nat.le_of_ble_eq_true rfl) dX7_init_25 (fun H locs hP hD hS => ?_)
  have hP : va_P D vwCl ([(h0, .inr (9, [.ref q1, .ref q2, .ref q3, .null, .null, .int 0, .int 0])), (q1, .inl (cA 0, 15, .inl (fun _ => 0))), (q2, .inl (cA 0, 15, .inl (fun _ => 0))), (q3, .inl (cA 0, 15, .inl (fun _ => 0)))] ++ ([] : va_W)) H := hP
  have hD : va_D A ([(h0, .inr (9, [.ref q1, .ref q2, .ref q3, .null, .null, .int 0, .int 0])), (q1, .inl (cA 0, 15, .inl (fun _ => 0))), (q2, .inl (cA 0, 15, .inl (fun _ => 0))), (q3, .inl (cA 0, 15, .inl (fun _ => 0)))] ++ ([] : va_W)) := hD
  refine lv_aload_n hx hb dX7_init_28 rfl (lv_at hl 0 rfl) ?_
  refine lv_bipush (v := 15) hx hb dX7_init_29 (by decide) ?_
  refine c_newa (atype := .int) (ty := .int) (F := [(h0, .inr (9, [.ref q1, .ref q2, .ref q3, .null, .null, .int 0, .int 0])), (q1, .inl (cA 0, 15, .inl (fun _ => 0))), (q2, .inl (cA 0, 15, .inl (fun _ => 0))), (q3, .inl (cA 0, 15, .inl (fun _ => 0)))]) (B := ([] : va_W)) 0 rfl (fun _ h => by cases h) G hP hD hS q1_91 rfl (15, .inl (fun _ => 0)) (fun _ => rfl) (by decide) rfl (by decide) (Nat.le_of_ble_eq_true rfl) (Nat.le_of_ble_eq_true rfl) dX7_init_31 (fun q4 H hP hD hS => ?_)
  have hP : va_P D vwCl ([(h0, .inr (9, [.ref q1, .ref q2, .ref q3, .null, .null, .int 0, .int 0])), (q1, .inl (cA 0, 15, .inl (fun _ => 0))), (q2, .inl (cA 0, 15, .inl (fun _ => 0))), (q3, .inl (cA 0, 15, .inl (fun _ => 0))), (q4, .inl (cA 0, 15, .inl (fun _ => 0)))] ++ ([] : va_W)) H := hP
  have hD : va_D A ([(h0, .inr (9, [.ref q1, .ref q2, .ref q3, .null, .null, .int 0, .int 0])), (q1, .inl (cA 0, 15, .inl (fun _ => 0))), (q2, .inl (cA 0, 15, .inl (fun _ => 0))), (q3, .inl (cA 0, 15, .inl (fun _ => 0))), (q4, .inl (cA 0, 15, .inl (fun _ => 0)))] ++ ([] : va_W)) := hD
  refine c_put (F := [(h0, .inr (9, [.ref q1, .ref q2, .ref q3, .null, .null, .int 0, .int 0])), (q1, .inl (cA 0, 15, .inl (fun _ => 0))), (q2, .inl (cA 0, 15, .inl (fun _ => 0))), (q3, .inl (cA 0, 15, .inl (fun _ => 0))), (q4, .inl (cA 0, 15, .inl (fun _ => 0)))]) (B := ([] : va_W)) (ci := 9) (v := .ref q4) hnm9 G hP hD hS 0 3 i_X7 rfl tyX7 tyX7_ok nmX7 rfl (by decide) q1_68 rfl rfl rfl (Nat.le_of_ble_eq_true rfl) dX7_init_33 (fun H locs hP hD hS => ?_)
  have hP : va_P D vwCl ([(h0, .inr (9, [.ref q1, .ref q2, .ref q3, .ref q4, .null, .int 0, .int 0])), (q1, .inl (cA 0, 15, .inl (fun _ => 0))), (q2, .inl (cA 0, 15, .inl (fun _ => 0))), (q3, .inl (cA 0, 15, .inl (fun _ => 0))), (q4, .inl (cA 0, 15, .inl (fun _ => 0)))] ++ ([] : va_W)) H := hP
  have hD : va_D A ([(h0, .inr (9, [.ref q1, .ref q2, .ref q3, .ref q4, .null, .int 0, .int 0])), (q1, .inl (cA 0, 15, .inl (fun _ => 0))), (q2, .inl (cA 0, 15, .inl (fun _ => 0))), (q3, .inl (cA 0, 15, .inl (fun _ => 0))), (q4, .inl (cA 0, 15, .inl (fun _ => 0)))] ++ ([] : va_W)) := hD
  refine lv_aload_n hx hb dX7_init_36 rfl (lv_at hl 0 rfl) ?_
  refine lv_iconst (v := 3) hx hb dX7_init_37 (by decide) ?_
  refine c_newa (atype := .boolean) (ty := .boolean) (F := [(h0, .inr (9, [.ref q1, .ref q2, .ref q3, .ref q4, .null, .int 0, .int 0])), (q1, .inl (cA 0, 15, .inl (fun _ => 0))), (q2, .inl (cA 0, 15, .inl (fun _ => 0))), (q3, .inl (cA 0, 15, .inl (fun _ => 0))), (q4, .inl (cA 0, 15, .inl (fun _ => 0)))]) (B := ([] : va_W)) 2 rfl (fun _ h => by cases h) G hP hD hS q1_92 rfl (3, .inl (fun _ => 0)) (fun _ => rfl) (by decide) rfl (by decide) (Nat.le_of_ble_eq_true rfl) (Nat.le_of_ble_eq_true rfl) dX7_init_38 (fun q5 H hP hD hS => ?_)
  have hP : va_P D vwCl ([(h0, .inr (9, [.ref q1, .ref q2, .ref q3, .ref q4, .null, .int 0, .int 0])), (q1, .inl (cA 0, 15, .inl (fun _ => 0))), (q2, .inl (cA 0, 15, .inl (fun _ => 0))), (q3, .inl (cA 0, 15, .inl (fun _ => 0))), (q4, .inl (cA 0, 15, .inl (fun _ => 0))), (q5, .inl (cA 2, 3, .inl (fun _ => 0)))] ++ ([] : va_W)) H := hP
  have hD : va_D A ([(h0, .inr (9, [.ref q1, .ref q2, .ref q3, .ref q4, .null, .int 0, .int 0])), (q1, .inl (cA 0, 15, .inl (fun _ => 0))), (q2, .inl (cA 0, 15, .inl (fun _ => 0))), (q3, .inl (cA 0, 15, .inl (fun _ => 0))), (q4, .inl (cA 0, 15, .inl (fun _ => 0))), (q5, .inl (cA 2, 3, .inl (fun _ => 0)))] ++ ([] : va_W)) := hD
  refine c_put (F := [(h0, .inr (9, [.ref q1, .ref q2, .ref q3, .ref q4, .null, .int 0, .int 0])), (q1, .inl (cA 0, 15, .inl (fun _ => 0))), (q2, .inl (cA 0, 15, .inl (fun _ => 0))), (q3, .inl (cA 0, 15, .inl (fun _ => 0))), (q4, .inl (cA 0, 15, .inl (fun _ => 0))), (q5, .inl (cA 2, 3, .inl (fun _ => 0)))]) (B := ([] : va_W)) (ci := 9) (v := .ref q5) hnm9 G hP hD hS 0 4 i_X7 rfl tyX7 tyX7_ok nmX7 rfl (by decide) q1_71 rfl rfl rfl (Nat.le_of_ble_eq_true rfl) dX7_init_40 (fun H locs hP hD hS => ?_)
  have hP : va_P D vwCl ([(h0, .inr (9, [.ref q1, .ref q2, .ref q3, .ref q4, .ref q5, .int 0, .int 0])), (q1, .inl (cA 0, 15, .inl (fun _ => 0))), (q2, .inl (cA 0, 15, .inl (fun _ => 0))), (q3, .inl (cA 0, 15, .inl (fun _ => 0))), (q4, .inl (cA 0, 15, .inl (fun _ => 0))), (q5, .inl (cA 2, 3, .inl (fun _ => 0)))] ++ ([] : va_W)) H := hP
  have hD : va_D A ([(h0, .inr (9, [.ref q1, .ref q2, .ref q3, .ref q4, .ref q5, .int 0, .int 0])), (q1, .inl (cA 0, 15, .inl (fun _ => 0))), (q2, .inl (cA 0, 15, .inl (fun _ => 0))), (q3, .inl (cA 0, 15, .inl (fun _ => 0))), (q4, .inl (cA 0, 15, .inl (fun _ => 0))), (q5, .inl (cA 2, 3, .inl (fun _ => 0)))] ++ ([] : va_W)) := hD
  refine lv_aload_n hx hb dX7_init_43 rfl (lv_at hl 0 rfl) ?_
  refine lv_iconst (v := 0) hx hb dX7_init_44 (by decide) ?_
  refine c_put (F := [(h0, .inr (9, [.ref q1, .ref q2, .ref q3, .ref q4, .ref q5, .int 0, .int 0])), (q1, .inl (cA 0, 15, .inl (fun _ => 0))), (q2, .inl (cA 0, 15, .inl (fun _ => 0))), (q3, .inl (cA 0, 15, .inl (fun _ => 0))), (q4, .inl (cA 0, 15, .inl (fun _ => 0))), (q5, .inl (cA 2, 3, .inl (fun _ => 0)))]) (B := ([] : va_W)) (ci := 9) (v := .int 0) hnm9 G hP hD hS 0 5 i_X7 rfl tyX7 tyX7_ok nmX7 rfl (by decide) q1_72 rfl rfl rfl (Nat.le_of_ble_eq_true rfl) dX7_init_45 (fun H locs hP hD hS => ?_)
  have hP : va_P D vwCl ([(h0, .inr (9, [.ref q1, .ref q2, .ref q3, .ref q4, .ref q5, .int 0, .int 0])), (q1, .inl (cA 0, 15, .inl (fun _ => 0))), (q2, .inl (cA 0, 15, .inl (fun _ => 0))), (q3, .inl (cA 0, 15, .inl (fun _ => 0))), (q4, .inl (cA 0, 15, .inl (fun _ => 0))), (q5, .inl (cA 2, 3, .inl (fun _ => 0)))] ++ ([] : va_W)) H := hP
  have hD : va_D A ([(h0, .inr (9, [.ref q1, .ref q2, .ref q3, .ref q4, .ref q5, .int 0, .int 0])), (q1, .inl (cA 0, 15, .inl (fun _ => 0))), (q2, .inl (cA 0, 15, .inl (fun _ => 0))), (q3, .inl (cA 0, 15, .inl (fun _ => 0))), (q4, .inl (cA 0, 15, .inl (fun _ => 0))), (q5, .inl (cA 2, 3, .inl (fun _ => 0)))] ++ ([] : va_W)) := hD
  refine lv_aload_n hx hb dX7_init_48 rfl (lv_at hl 0 rfl) ?_
  refine lv_iconst (v := 0) hx hb dX7_init_49 (by decide) ?_
  refine c_put (F := [(h0, .inr (9, [.ref q1, .ref q2, .ref q3, .ref q4, .ref q5, .int 0, .int 0])), (q1, .inl (cA 0, 15, .inl (fun _ => 0))), (q2, .inl (cA 0, 15, .inl (fun _ => 0))), (q3, .inl (cA 0, 15, .inl (fun _ => 0))), (q4, .inl (cA 0, 15, .inl (fun _ => 0))), (q5, .inl (cA 2, 3, .inl (fun _ => 0)))]) (B := ([] : va_W)) (ci := 9) (v := .int 0) hnm9 G hP hD hS 0 6 i_X7 rfl tyX7 tyX7_ok nmX7 rfl (by decide) q1_75 rfl rfl rfl (Nat.le_of_ble_eq_true rfl) dX7_init_50 (fun H locs hP hD hS => ?_)
  have hP : va_P D vwCl ([(h0, .inr (9, [.ref q1, .ref q2, .ref q3, .ref q4, .ref q5, .int 0, .int 0])), (q1, .inl (cA 0, 15, .inl (fun _ => 0))), (q2, .inl (cA 0, 15, .inl (fun _ => 0))), (q3, .inl (cA 0, 15, .inl (fun _ => 0))), (q4, .inl (cA 0, 15, .inl (fun _ => 0))), (q5, .inl (cA 2, 3, .inl (fun _ => 0)))] ++ ([] : va_W)) H := hP
  have hD : va_D A ([(h0, .inr (9, [.ref q1, .ref q2, .ref q3, .ref q4, .ref q5, .int 0, .int 0])), (q1, .inl (cA 0, 15, .inl (fun _ => 0))), (q2, .inl (cA 0, 15, .inl (fun _ => 0))), (q3, .inl (cA 0, 15, .inl (fun _ => 0))), (q4, .inl (cA 0, 15, .inl (fun _ => 0))), (q5, .inl (cA 2, 3, .inl (fun _ => 0)))] ++ ([] : va_W)) := hD
  rw [List.append_nil] at hP hD
  exact c_ret (Wb := fun b : Nat → Nat => gws 1 6 (shmill 0) cA ad b σM0) (fun k => match k with | 1 => h0 | 2 => q1 | 3 => q2 | 4 => q3 | 5 => q4 | 6 => q5 | _ => h0) rfl G hP hD hS (by decide) dX7_init_53
set_option maxHeartbeats 4000000 in
set_option maxRecDepth 100000 in
theorem mX9_init (l : Launch) (D : va_G) (cA : Nat → ClassId) (ad adF adW tt : Nat → Nat) (ST : gST) (hT : STE ad adF adW tt ST) (h0 : Nat) : gMetC l yX9_init cX9_init 1 1 4 48 D (TYS cA) ST [(h0, .inr (11, [.null, .null, .null, .null, .int 0, .int 0, .int 0]))] [.ref h0] (fun b : Nat → Nat => b 7 = h0) (fun b => gws 7 5 (shmill 0) cA ad b σM0) := by
  refine g_ofWC hT.1 (by decide +kernel) (Nat.le_of_ble_eq_true rfl) ?_
  intro p e s m args below meth c ls A G hnm9 hP hD hl
  have G : GC p s m args meth c cX9_init 1 RX9 none A D (TYS cA) ST := G
  have hnm9 : meth.name = "<init>" := hnm9
  have hx := G.1
  have hb := G.2.1
  have hS : va_S A s.heap s.heap [] := va_S.rf
  have hl : lv_has ls 1 [(0, .ref h0)] := hl
  have hP : va_P D vwCl ([(h0, .inr (11, [.null, .null, .null, .null, .int 0, .int 0, .int 0]))] ++ ([] : va_W)) s.heap := hP
  have hD : va_D A ([(h0, .inr (11, [.null, .null, .null, .null, .int 0, .int 0, .int 0]))] ++ ([] : va_W)) := hD
  refine lv_aload_n hx hb dX9_init_0 rfl (lv_at hl 0 rfl) ?_
  refine c_objInit G q1_98 q1_46 q1_47 hl.1 dX9_init_1 (by decide) (Nat.le_of_ble_eq_true rfl) ?_
  refine lv_aload_n hx hb dX9_init_4 rfl (lv_at hl 0 rfl) ?_
  refine lv_iconst (v := 4) hx hb dX9_init_5 (by decide) ?_
  refine c_newa (atype := .int) (ty := .int) (F := [(h0, .inr (11, [.null, .null, .null, .null, .int 0, .int 0, .int 0]))]) (B := ([] : va_W)) 0 rfl (fun _ h => by cases h) G hP hD hS q1_91 rfl (4, .inl (fun _ => 0)) (fun _ => rfl) (by decide) rfl (by decide) (Nat.le_of_ble_eq_true rfl) (Nat.le_of_ble_eq_true rfl) dX9_init_6 (fun q1 H hP hD hS => ?_)
  have hP : va_P D vwCl ([(h0, .inr (11, [.null, .null, .null, .null, .int 0, .int 0, .int 0])), (q1, .inl (cA 0, 4, .inl (fun _ => 0)))] ++ ([] : va_W)) H := hP
  have hD : va_D A ([(h0, .inr (11, [.null, .null, .null, .null, .int 0, .int 0, .int 0])), (q1, .inl (cA 0, 4, .inl (fun _ => 0)))] ++ ([] : va_W)) := hD
  refine c_put (F := [(h0, .inr (11, [.null, .null, .null, .null, .int 0, .int 0, .int 0])), (q1, .inl (cA 0, 4, .inl (fun _ => 0)))]) (B := ([] : va_W)) (ci := 11) (v := .ref q1) hnm9 G hP hD hS 0 0 i_X9 rfl tyX9 tyX9_ok nmX9 rfl (by decide) q1_99 rfl rfl rfl (Nat.le_of_ble_eq_true rfl) dX9_init_8 (fun H locs hP hD hS => ?_)
  have hP : va_P D vwCl ([(h0, .inr (11, [.ref q1, .null, .null, .null, .int 0, .int 0, .int 0])), (q1, .inl (cA 0, 4, .inl (fun _ => 0)))] ++ ([] : va_W)) H := hP
  have hD : va_D A ([(h0, .inr (11, [.ref q1, .null, .null, .null, .int 0, .int 0, .int 0])), (q1, .inl (cA 0, 4, .inl (fun _ => 0)))] ++ ([] : va_W)) := hD
  refine lv_aload_n hx hb dX9_init_11 rfl (lv_at hl 0 rfl) ?_
  refine lv_iconst (v := 4) hx hb dX9_init_12 (by decide) ?_
  refine c_newa (atype := .int) (ty := .int) (F := [(h0, .inr (11, [.ref q1, .null, .null, .null, .int 0, .int 0, .int 0])), (q1, .inl (cA 0, 4, .inl (fun _ => 0)))]) (B := ([] : va_W)) 0 rfl (fun _ h => by cases h) G hP hD hS q1_91 rfl (4, .inl (fun _ => 0)) (fun _ => rfl) (by decide) rfl (by decide) (Nat.le_of_ble_eq_true rfl) (Nat.le_of_ble_eq_true rfl) dX9_init_13 (fun q2 H hP hD hS => ?_)
  have hP : va_P D vwCl ([(h0, .inr (11, [.ref q1, .null, .null, .null, .int 0, .int 0, .int 0])), (q1, .inl (cA 0, 4, .inl (fun _ => 0))), (q2, .inl (cA 0, 4, .inl (fun _ => 0)))] ++ ([] : va_W)) H := hP
  have hD : va_D A ([(h0, .inr (11, [.ref q1, .null, .null, .null, .int 0, .int 0, .int 0])), (q1, .inl (cA 0, 4, .inl (fun _ => 0))), (q2, .inl (cA 0, 4, .inl (fun _ => 0)))] ++ ([] : va_W)) := hD
  refine c_put (F := [(h0, .inr (11, [.ref q1, .null, .null, .null, .int 0, .int 0, .int 0])), (q1, .inl (cA 0, 4, .inl (fun _ => 0))), (q2, .inl (cA 0, 4, .inl (fun _ => 0)))]) (B := ([] : va_W)) (ci := 11) (v := .ref q2) hnm9 G hP hD hS 0 1 i_X9 rfl tyX9 tyX9_ok nmX9 rfl (by decide) q1_101 rfl rfl rfl (Nat.le_of_ble_eq_true rfl) dX9_init_15 (fun H locs hP hD hS => ?_)
  have hP : va_P D vwCl ([(h0, .inr (11, [.ref q1, .ref q2, .null, .null, .int 0, .int 0, .int 0])), (q1, .inl (cA 0, 4, .inl (fun _ => 0))), (q2, .inl (cA 0, 4, .inl (fun _ => 0)))] ++ ([] : va_W)) H := hP
  have hD : va_D A ([(h0, .inr (11, [.ref q1, .ref q2, .null, .null, .int 0, .int 0, .int 0])), (q1, .inl (cA 0, 4, .inl (fun _ => 0))), (q2, .inl (cA 0, 4, .inl (fun _ => 0)))] ++ ([] : va_W)) := hD
  refine lv_aload_n hx hb dX9_init_18 rfl (lv_at hl 0 rfl) ?_
  refine lv_bipush (v := 32) hx hb dX9_init_19 (by decide) ?_
  refine c_newa (atype := .int) (ty := .int) (F := [(h0, .inr (11, [.ref q1, .ref q2, .null, .null, .int 0, .int 0, .int 0])), (q1, .inl (cA 0, 4, .inl (fun _ => 0))), (q2, .inl (cA 0, 4, .inl (fun _ => 0)))]) (B := ([] : va_W)) 0 rfl (fun _ h => by cases h) G hP hD hS q1_91 rfl (32, .inl (fun _ => 0)) (fun _ => rfl) (by decide) rfl (by decide) (Nat.le_of_ble_eq_true rfl) (Nat.le_of_ble_eq_true rfl) dX9_init_21 (fun q3 H hP hD hS => ?_)
  have hP : va_P D vwCl ([(h0, .inr (11, [.ref q1, .ref q2, .null, .null, .int 0, .int 0, .int 0])), (q1, .inl (cA 0, 4, .inl (fun _ => 0))), (q2, .inl (cA 0, 4, .inl (fun _ => 0))), (q3, .inl (cA 0, 32, .inl (fun _ => 0)))] ++ ([] : va_W)) H := hP
  have hD : va_D A ([(h0, .inr (11, [.ref q1, .ref q2, .null, .null, .int 0, .int 0, .int 0])), (q1, .inl (cA 0, 4, .inl (fun _ => 0))), (q2, .inl (cA 0, 4, .inl (fun _ => 0))), (q3, .inl (cA 0, 32, .inl (fun _ => 0)))] ++ ([] : va_W)) := hD
  refine c_put (F := [(h0, .inr (11, [.ref q1, .ref q2, .null, .null, .int 0, .int 0, .int 0])), (q1, .inl (cA 0, 4, .inl (fun _ => 0))), (q2, .inl (cA 0, 4, .inl (fun _ => 0))), (q3, .inl (cA 0, 32, .inl (fun _ => 0)))]) (B := ([] : va_W)) (ci := 11) (v := .ref q3) hnm9 G hP hD hS 0 2 i_X9 rfl tyX9 tyX9_ok nmX9 rfl (by decide) q1_103 rfl rfl rfl (Nat.le_of_ble_eq_true rfl) dX9_init_23 (fun H locs hP hD hS => ?_)
  have hP : va_P D vwCl ([(h0, .inr (11, [.ref q1, .ref q2, .ref q3, .null, .int 0, .int 0, .int 0])), (q1, .inl (cA 0, 4, .inl (fun _ => 0))), (q2, .inl (cA 0, 4, .inl (fun _ => 0))), (q3, .inl (cA 0, 32, .inl (fun _ => 0)))] ++ ([] : va_W)) H := hP
  have hD : va_D A ([(h0, .inr (11, [.ref q1, .ref q2, .ref q3, .null, .int 0, .int 0, .int 0])), (q1, .inl (cA 0, 4, .inl (fun _ => 0))), (q2, .inl (cA 0, 4, .inl (fun _ => 0))), (q3, .inl (cA 0, 32, .inl (fun _ => 0)))] ++ ([] : va_W)) := hD
  refine lv_aload_n hx hb dX9_init_26 rfl (lv_at hl 0 rfl) ?_
  refine lv_bipush (v := 8) hx hb dX9_init_27 (by decide) ?_
  refine c_newa (atype := .boolean) (ty := .boolean) (F := [(h0, .inr (11, [.ref q1, .ref q2, .ref q3, .null, .int 0, .int 0, .int 0])), (q1, .inl (cA 0, 4, .inl (fun _ => 0))), (q2, .inl (cA 0, 4, .inl (fun _ => 0))), (q3, .inl (cA 0, 32, .inl (fun _ => 0)))]) (B := ([] : va_W)) 2 rfl (fun _ h => by cases h) G hP hD hS q1_92 rfl (8, .inl (fun _ => 0)) (fun _ => rfl) (by decide) rfl (by decide) (Nat.le_of_ble_eq_true rfl) (Nat.le_of_ble_eq_true rfl) dX9_init_29 (fun q4 H hP hD hS => ?_)
  have hP : va_P D vwCl ([(h0, .inr (11, [.ref q1, .ref q2, .ref q3, .null, .int 0, .int 0, .int 0])), (q1, .inl (cA 0, 4, .inl (fun _ => 0))), (q2, .inl (cA 0, 4, .inl (fun _ => 0))), (q3, .inl (cA 0, 32, .inl (fun _ => 0))), (q4, .inl (cA 2, 8, .inl (fun _ => 0)))] ++ ([] : va_W)) H := hP
  have hD : va_D A ([(h0, .inr (11, [.ref q1, .ref q2, .ref q3, .null, .int 0, .int 0, .int 0])), (q1, .inl (cA 0, 4, .inl (fun _ => 0))), (q2, .inl (cA 0, 4, .inl (fun _ => 0))), (q3, .inl (cA 0, 32, .inl (fun _ => 0))), (q4, .inl (cA 2, 8, .inl (fun _ => 0)))] ++ ([] : va_W)) := hD
  refine c_put (F := [(h0, .inr (11, [.ref q1, .ref q2, .ref q3, .null, .int 0, .int 0, .int 0])), (q1, .inl (cA 0, 4, .inl (fun _ => 0))), (q2, .inl (cA 0, 4, .inl (fun _ => 0))), (q3, .inl (cA 0, 32, .inl (fun _ => 0))), (q4, .inl (cA 2, 8, .inl (fun _ => 0)))]) (B := ([] : va_W)) (ci := 11) (v := .ref q4) hnm9 G hP hD hS 0 3 i_X9 rfl tyX9 tyX9_ok nmX9 rfl (by decide) q1_105 rfl rfl rfl (Nat.le_of_ble_eq_true rfl) dX9_init_31 (fun H locs hP hD hS => ?_)
  have hP : va_P D vwCl ([(h0, .inr (11, [.ref q1, .ref q2, .ref q3, .ref q4, .int 0, .int 0, .int 0])), (q1, .inl (cA 0, 4, .inl (fun _ => 0))), (q2, .inl (cA 0, 4, .inl (fun _ => 0))), (q3, .inl (cA 0, 32, .inl (fun _ => 0))), (q4, .inl (cA 2, 8, .inl (fun _ => 0)))] ++ ([] : va_W)) H := hP
  have hD : va_D A ([(h0, .inr (11, [.ref q1, .ref q2, .ref q3, .ref q4, .int 0, .int 0, .int 0])), (q1, .inl (cA 0, 4, .inl (fun _ => 0))), (q2, .inl (cA 0, 4, .inl (fun _ => 0))), (q3, .inl (cA 0, 32, .inl (fun _ => 0))), (q4, .inl (cA 2, 8, .inl (fun _ => 0)))] ++ ([] : va_W)) := hD
  refine lv_aload_n hx hb dX9_init_34 rfl (lv_at hl 0 rfl) ?_
  refine lv_iconst (v := 0) hx hb dX9_init_35 (by decide) ?_
  refine c_put (F := [(h0, .inr (11, [.ref q1, .ref q2, .ref q3, .ref q4, .int 0, .int 0, .int 0])), (q1, .inl (cA 0, 4, .inl (fun _ => 0))), (q2, .inl (cA 0, 4, .inl (fun _ => 0))), (q3, .inl (cA 0, 32, .inl (fun _ => 0))), (q4, .inl (cA 2, 8, .inl (fun _ => 0)))]) (B := ([] : va_W)) (ci := 11) (v := .int 0) hnm9 G hP hD hS 0 4 i_X9 rfl tyX9 tyX9_ok nmX9 rfl (by decide) q1_106 rfl rfl rfl (Nat.le_of_ble_eq_true rfl) dX9_init_36 (fun H locs hP hD hS => ?_)
  have hP : va_P D vwCl ([(h0, .inr (11, [.ref q1, .ref q2, .ref q3, .ref q4, .int 0, .int 0, .int 0])), (q1, .inl (cA 0, 4, .inl (fun _ => 0))), (q2, .inl (cA 0, 4, .inl (fun _ => 0))), (q3, .inl (cA 0, 32, .inl (fun _ => 0))), (q4, .inl (cA 2, 8, .inl (fun _ => 0)))] ++ ([] : va_W)) H := hP
  have hD : va_D A ([(h0, .inr (11, [.ref q1, .ref q2, .ref q3, .ref q4, .int 0, .int 0, .int 0])), (q1, .inl (cA 0, 4, .inl (fun _ => 0))), (q2, .inl (cA 0, 4, .inl (fun _ => 0))), (q3, .inl (cA 0, 32, .inl (fun _ => 0))), (q4, .inl (cA 2, 8, .inl (fun _ => 0)))] ++ ([] : va_W)) := hD
  refine lv_aload_n hx hb dX9_init_39 rfl (lv_at hl 0 rfl) ?_
  refine lv_iconst (v := 0) hx hb dX9_init_40 (by decide) ?_
  refine c_put (F := [(h0, .inr (11, [.ref q1, .ref q2, .ref q3, .ref q4, .int 0, .int 0, .int 0])), (q1, .inl (cA 0, 4, .inl (fun _ => 0))), (q2, .inl (cA 0, 4, .inl (fun _ => 0))), (q3, .inl (cA 0, 32, .inl (fun _ => 0))), (q4, .inl (cA 2, 8, .inl (fun _ => 0)))]) (B := ([] : va_W)) (ci := 11) (v := .int 0) hnm9 G hP hD hS 0 5 i_X9 rfl tyX9 tyX9_ok nmX9 rfl (by decide) q1_108 rfl rfl rfl (Nat.le_of_ble_eq_true rfl) dX9_init_41 (fun H locs hP hD hS => ?_)
  have hP : va_P D vwCl ([(h0, .inr (11, [.ref q1, .ref q2, .ref q3, .ref q4, .int 0, .int 0, .int 0])), (q1, .inl (cA 0, 4, .inl (fun _ => 0))), (q2, .inl (cA 0, 4, .inl (fun _ => 0))), (q3, .inl (cA 0, 32, .inl (fun _ => 0))), (q4, .inl (cA 2, 8, .inl (fun _ => 0)))] ++ ([] : va_W)) H := hP
  have hD : va_D A ([(h0, .inr (11, [.ref q1, .ref q2, .ref q3, .ref q4, .int 0, .int 0, .int 0])), (q1, .inl (cA 0, 4, .inl (fun _ => 0))), (q2, .inl (cA 0, 4, .inl (fun _ => 0))), (q3, .inl (cA 0, 32, .inl (fun _ => 0))), (q4, .inl (cA 2, 8, .inl (fun _ => 0)))] ++ ([] : va_W)) := hD
  refine lv_aload_n hx hb dX9_init_44 rfl (lv_at hl 0 rfl) ?_
  refine lv_iconst (v := 0) hx hb dX9_init_45 (by decide) ?_
  refine c_put (F := [(h0, .inr (11, [.ref q1, .ref q2, .ref q3, .ref q4, .int 0, .int 0, .int 0])), (q1, .inl (cA 0, 4, .inl (fun _ => 0))), (q2, .inl (cA 0, 4, .inl (fun _ => 0))), (q3, .inl (cA 0, 32, .inl (fun _ => 0))), (q4, .inl (cA 2, 8, .inl (fun _ => 0)))]) (B := ([] : va_W)) (ci := 11) (v := .int 0) hnm9 G hP hD hS 0 6 i_X9 rfl tyX9 tyX9_ok nmX9 rfl (by decide) q1_110 rfl rfl rfl (Nat.le_of_ble_eq_true rfl) dX9_init_46 (fun H locs hP hD hS => ?_)
  have hP : va_P D vwCl ([(h0, .inr (11, [.ref q1, .ref q2, .ref q3, .ref q4, .int 0, .int 0, .int 0])), (q1, .inl (cA 0, 4, .inl (fun _ => 0))), (q2, .inl (cA 0, 4, .inl (fun _ => 0))), (q3, .inl (cA 0, 32, .inl (fun _ => 0))), (q4, .inl (cA 2, 8, .inl (fun _ => 0)))] ++ ([] : va_W)) H := hP
  have hD : va_D A ([(h0, .inr (11, [.ref q1, .ref q2, .ref q3, .ref q4, .int 0, .int 0, .int 0])), (q1, .inl (cA 0, 4, .inl (fun _ => 0))), (q2, .inl (cA 0, 4, .inl (fun _ => 0))), (q3, .inl (cA 0, 32, .inl (fun _ => 0))), (q4, .inl (cA 2, 8, .inl (fun _ => 0)))] ++ ([] : va_W)) := hD
  rw [List.append_nil] at hP hD
  exact c_ret (Wb := fun b : Nat → Nat => gws 7 5 (shmill 0) cA ad b σM0) (fun k => match k with | 7 => h0 | 8 => q1 | 9 => q2 | 10 => q3 | 11 => q4 | _ => h0) rfl G hP hD hS (by decide) dX9_init_49
set_option maxHeartbeats 4000000 in
set_option maxRecDepth 100000 in
theorem mX5_init (l : Launch) (D : va_G) (cA : Nat → ClassId) (ad adF adW tt : Nat → Nat) (ST : gST) (hT : STE ad adF adW tt ST) (h0 : Nat) : gMetC l yX5_init cX5_init 1 1 3 24 D (TYS cA) ST [(h0, .inr (7, [.null, .null, .null, .int 0]))] [.ref h0] (fun b : Nat → Nat => b 12 = h0) (fun b => gws 12 4 (shmill 0) cA ad b σM0) := by
  refine g_ofWC hT.1 (by decide +kernel) (Nat.le_of_ble_eq_true rfl) ?_
  intro p e s m args below meth c ls A G hnm9 hP hD hl
  have G : GC p s m args meth c cX5_init 1 RX5 none A D (TYS cA) ST := G
  have hnm9 : meth.name = "<init>" := hnm9
  have hx := G.1
  have hb := G.2.1
  have hS : va_S A s.heap s.heap [] := va_S.rf
  have hl : lv_has ls 1 [(0, .ref h0)] := hl
  have hP : va_P D vwCl ([(h0, .inr (7, [.null, .null, .null, .int 0]))] ++ ([] : va_W)) s.heap := hP
  have hD : va_D A ([(h0, .inr (7, [.null, .null, .null, .int 0]))] ++ ([] : va_W)) := hD
  refine lv_aload_n hx hb dX5_init_0 rfl (lv_at hl 0 rfl) ?_
  refine c_objInit G q1_132 q1_46 q1_47 hl.1 dX5_init_1 (by decide) (Nat.le_of_ble_eq_true rfl) ?_
  refine lv_aload_n hx hb dX5_init_4 rfl (lv_at hl 0 rfl) ?_
  refine lv_bipush (v := 8) hx hb dX5_init_5 (by decide) ?_
  refine c_newa (atype := .int) (ty := .int) (F := [(h0, .inr (7, [.null, .null, .null, .int 0]))]) (B := ([] : va_W)) 0 rfl (fun _ h => by cases h) G hP hD hS q1_91 rfl (8, .inl (fun _ => 0)) (fun _ => rfl) (by decide) rfl (by decide) (Nat.le_of_ble_eq_true rfl) (Nat.le_of_ble_eq_true rfl) dX5_init_7 (fun q1 H hP hD hS => ?_)
  have hP : va_P D vwCl ([(h0, .inr (7, [.null, .null, .null, .int 0])), (q1, .inl (cA 0, 8, .inl (fun _ => 0)))] ++ ([] : va_W)) H := hP
  have hD : va_D A ([(h0, .inr (7, [.null, .null, .null, .int 0])), (q1, .inl (cA 0, 8, .inl (fun _ => 0)))] ++ ([] : va_W)) := hD
  refine c_put (F := [(h0, .inr (7, [.null, .null, .null, .int 0])), (q1, .inl (cA 0, 8, .inl (fun _ => 0)))]) (B := ([] : va_W)) (ci := 7) (v := .ref q1) hnm9 G hP hD hS 0 0 i_X5 rfl tyX5 tyX5_ok nmX5 rfl (by decide) q1_133 rfl rfl rfl (Nat.le_of_ble_eq_true rfl) dX5_init_9 (fun H locs hP hD hS => ?_)
  have hP : va_P D vwCl ([(h0, .inr (7, [.ref q1, .null, .null, .int 0])), (q1, .inl (cA 0, 8, .inl (fun _ => 0)))] ++ ([] : va_W)) H := hP
  have hD : va_D A ([(h0, .inr (7, [.ref q1, .null, .null, .int 0])), (q1, .inl (cA 0, 8, .inl (fun _ => 0)))] ++ ([] : va_W)) := hD
  refine lv_aload_n hx hb dX5_init_12 rfl (lv_at hl 0 rfl) ?_
  refine lv_bipush (v := 8) hx hb dX5_init_13 (by decide) ?_
  refine c_newa (atype := .int) (ty := .int) (F := [(h0, .inr (7, [.ref q1, .null, .null, .int 0])), (q1, .inl (cA 0, 8, .inl (fun _ => 0)))]) (B := ([] : va_W)) 0 rfl (fun _ h => by cases h) G hP hD hS q1_91 rfl (8, .inl (fun _ => 0)) (fun _ => rfl) (by decide) rfl (by decide) (Nat.le_of_ble_eq_true rfl) (Nat.le_of_ble_eq_true rfl) dX5_init_15 (fun q2 H hP hD hS => ?_)
  have hP : va_P D vwCl ([(h0, .inr (7, [.ref q1, .null, .null, .int 0])), (q1, .inl (cA 0, 8, .inl (fun _ => 0))), (q2, .inl (cA 0, 8, .inl (fun _ => 0)))] ++ ([] : va_W)) H := hP
  have hD : va_D A ([(h0, .inr (7, [.ref q1, .null, .null, .int 0])), (q1, .inl (cA 0, 8, .inl (fun _ => 0))), (q2, .inl (cA 0, 8, .inl (fun _ => 0)))] ++ ([] : va_W)) := hD
  refine c_put (F := [(h0, .inr (7, [.ref q1, .null, .null, .int 0])), (q1, .inl (cA 0, 8, .inl (fun _ => 0))), (q2, .inl (cA 0, 8, .inl (fun _ => 0)))]) (B := ([] : va_W)) (ci := 7) (v := .ref q2) hnm9 G hP hD hS 0 1 i_X5 rfl tyX5 tyX5_ok nmX5 rfl (by decide) q1_135 rfl rfl rfl (Nat.le_of_ble_eq_true rfl) dX5_init_17 (fun H locs hP hD hS => ?_)
  have hP : va_P D vwCl ([(h0, .inr (7, [.ref q1, .ref q2, .null, .int 0])), (q1, .inl (cA 0, 8, .inl (fun _ => 0))), (q2, .inl (cA 0, 8, .inl (fun _ => 0)))] ++ ([] : va_W)) H := hP
  have hD : va_D A ([(h0, .inr (7, [.ref q1, .ref q2, .null, .int 0])), (q1, .inl (cA 0, 8, .inl (fun _ => 0))), (q2, .inl (cA 0, 8, .inl (fun _ => 0)))] ++ ([] : va_W)) := hD
  refine lv_aload_n hx hb dX5_init_20 rfl (lv_at hl 0 rfl) ?_
  refine lv_bipush (v := 8) hx hb dX5_init_21 (by decide) ?_
  refine c_newa (atype := .int) (ty := .int) (F := [(h0, .inr (7, [.ref q1, .ref q2, .null, .int 0])), (q1, .inl (cA 0, 8, .inl (fun _ => 0))), (q2, .inl (cA 0, 8, .inl (fun _ => 0)))]) (B := ([] : va_W)) 0 rfl (fun _ h => by cases h) G hP hD hS q1_91 rfl (8, .inl (fun _ => 0)) (fun _ => rfl) (by decide) rfl (by decide) (Nat.le_of_ble_eq_true rfl) (Nat.le_of_ble_eq_true rfl) dX5_init_23 (fun q3 H hP hD hS => ?_)
  have hP : va_P D vwCl ([(h0, .inr (7, [.ref q1, .ref q2, .null, .int 0])), (q1, .inl (cA 0, 8, .inl (fun _ => 0))), (q2, .inl (cA 0, 8, .inl (fun _ => 0))), (q3, .inl (cA 0, 8, .inl (fun _ => 0)))] ++ ([] : va_W)) H := hP
  have hD : va_D A ([(h0, .inr (7, [.ref q1, .ref q2, .null, .int 0])), (q1, .inl (cA 0, 8, .inl (fun _ => 0))), (q2, .inl (cA 0, 8, .inl (fun _ => 0))), (q3, .inl (cA 0, 8, .inl (fun _ => 0)))] ++ ([] : va_W)) := hD
  refine c_put (F := [(h0, .inr (7, [.ref q1, .ref q2, .null, .int 0])), (q1, .inl (cA 0, 8, .inl (fun _ => 0))), (q2, .inl (cA 0, 8, .inl (fun _ => 0))), (q3, .inl (cA 0, 8, .inl (fun _ => 0)))]) (B := ([] : va_W)) (ci := 7) (v := .ref q3) hnm9 G hP hD hS 0 2 i_X5 rfl tyX5 tyX5_ok nmX5 rfl (by decide) q1_137 rfl rfl rfl (Nat.le_of_ble_eq_true rfl) dX5_init_25 (fun H locs hP hD hS => ?_)
  have hP : va_P D vwCl ([(h0, .inr (7, [.ref q1, .ref q2, .ref q3, .int 0])), (q1, .inl (cA 0, 8, .inl (fun _ => 0))), (q2, .inl (cA 0, 8, .inl (fun _ => 0))), (q3, .inl (cA 0, 8, .inl (fun _ => 0)))] ++ ([] : va_W)) H := hP
  have hD : va_D A ([(h0, .inr (7, [.ref q1, .ref q2, .ref q3, .int 0])), (q1, .inl (cA 0, 8, .inl (fun _ => 0))), (q2, .inl (cA 0, 8, .inl (fun _ => 0))), (q3, .inl (cA 0, 8, .inl (fun _ => 0)))] ++ ([] : va_W)) := hD
  refine lv_aload_n hx hb dX5_init_28 rfl (lv_at hl 0 rfl) ?_
  refine lv_iconst (v := 0) hx hb dX5_init_29 (by decide) ?_
  refine c_put (F := [(h0, .inr (7, [.ref q1, .ref q2, .ref q3, .int 0])), (q1, .inl (cA 0, 8, .inl (fun _ => 0))), (q2, .inl (cA 0, 8, .inl (fun _ => 0))), (q3, .inl (cA 0, 8, .inl (fun _ => 0)))]) (B := ([] : va_W)) (ci := 7) (v := .int 0) hnm9 G hP hD hS 0 3 i_X5 rfl tyX5 tyX5_ok nmX5 rfl (by decide) q1_139 rfl rfl rfl (Nat.le_of_ble_eq_true rfl) dX5_init_30 (fun H locs hP hD hS => ?_)
  have hP : va_P D vwCl ([(h0, .inr (7, [.ref q1, .ref q2, .ref q3, .int 0])), (q1, .inl (cA 0, 8, .inl (fun _ => 0))), (q2, .inl (cA 0, 8, .inl (fun _ => 0))), (q3, .inl (cA 0, 8, .inl (fun _ => 0)))] ++ ([] : va_W)) H := hP
  have hD : va_D A ([(h0, .inr (7, [.ref q1, .ref q2, .ref q3, .int 0])), (q1, .inl (cA 0, 8, .inl (fun _ => 0))), (q2, .inl (cA 0, 8, .inl (fun _ => 0))), (q3, .inl (cA 0, 8, .inl (fun _ => 0)))] ++ ([] : va_W)) := hD
  rw [List.append_nil] at hP hD
  exact c_ret (Wb := fun b : Nat → Nat => gws 12 4 (shmill 0) cA ad b σM0) (fun k => match k with | 12 => h0 | 13 => q1 | 14 => q2 | 15 => q3 | _ => h0) rfl G hP hD hS (by decide) dX5_init_33
set_option maxHeartbeats 4000000 in
set_option maxRecDepth 100000 in
theorem mX10_init (l : Launch) (D : va_G) (cA : Nat → ClassId) (ad adF adW tt : Nat → Nat) (ST : gST) (hT : STE ad adF adW tt ST) (h0 : Nat) : gMetC l yX10_init cX10_init 1 1 1 12 D (TYS cA) ST [(h0, .inr (12, [.null, .int 0]))] [.ref h0] (fun b : Nat → Nat => b 212 = h0) (fun b => gws 212 2 shc cA ad b (fun _ _ => 0)) := by
  refine g_ofWC hT.1 (by decide +kernel) (Nat.le_of_ble_eq_true rfl) ?_
  intro p e s m args below meth c ls A G hnm9 hP hD hl
  have G : GC p s m args meth c cX10_init 1 RX10 none A D (TYS cA) ST := G
  have hnm9 : meth.name = "<init>" := hnm9
  have hx := G.1
  have hb := G.2.1
  have hS : va_S A s.heap s.heap [] := va_S.rf
  have hl : lv_has ls 1 [(0, .ref h0)] := hl
  have hP : va_P D vwCl ([(h0, .inr (12, [.null, .int 0]))] ++ ([] : va_W)) s.heap := hP
  have hD : va_D A ([(h0, .inr (12, [.null, .int 0]))] ++ ([] : va_W)) := hD
  refine lv_aload_n hx hb dX10_init_0 rfl (lv_at hl 0 rfl) ?_
  refine c_objInit G q1_204 q1_46 q1_47 hl.1 dX10_init_1 (by decide) (Nat.le_of_ble_eq_true rfl) ?_
  refine lv_aload_n hx hb dX10_init_4 rfl (lv_at hl 0 rfl) ?_
  refine lv_bipush (v := 12) hx hb dX10_init_5 (by decide) ?_
  refine c_newa (atype := .int) (ty := .int) (F := [(h0, .inr (12, [.null, .int 0]))]) (B := ([] : va_W)) 0 rfl (fun _ h => by cases h) G hP hD hS q1_91 rfl (12, .inl (fun _ => 0)) (fun _ => rfl) (by decide) rfl (by decide) (Nat.le_of_ble_eq_true rfl) (Nat.le_of_ble_eq_true rfl) dX10_init_7 (fun q1 H hP hD hS => ?_)
  have hP : va_P D vwCl ([(h0, .inr (12, [.null, .int 0])), (q1, .inl (cA 0, 12, .inl (fun _ => 0)))] ++ ([] : va_W)) H := hP
  have hD : va_D A ([(h0, .inr (12, [.null, .int 0])), (q1, .inl (cA 0, 12, .inl (fun _ => 0)))] ++ ([] : va_W)) := hD
  refine c_put (F := [(h0, .inr (12, [.null, .int 0])), (q1, .inl (cA 0, 12, .inl (fun _ => 0)))]) (B := ([] : va_W)) (ci := 12) (v := .ref q1) hnm9 G hP hD hS 0 0 i_X10 rfl tyX10 tyX10_ok nmX10 rfl (by decide) q1_205 rfl rfl rfl (Nat.le_of_ble_eq_true rfl) dX10_init_9 (fun H locs hP hD hS => ?_)
  have hP : va_P D vwCl ([(h0, .inr (12, [.ref q1, .int 0])), (q1, .inl (cA 0, 12, .inl (fun _ => 0)))] ++ ([] : va_W)) H := hP
  have hD : va_D A ([(h0, .inr (12, [.ref q1, .int 0])), (q1, .inl (cA 0, 12, .inl (fun _ => 0)))] ++ ([] : va_W)) := hD
  refine lv_aload_n hx hb dX10_init_12 rfl (lv_at hl 0 rfl) ?_
  refine lv_iconst (v := 0) hx hb dX10_init_13 (by decide) ?_
  refine c_put (F := [(h0, .inr (12, [.ref q1, .int 0])), (q1, .inl (cA 0, 12, .inl (fun _ => 0)))]) (B := ([] : va_W)) (ci := 12) (v := .int 0) hnm9 G hP hD hS 0 1 i_X10 rfl tyX10 tyX10_ok nmX10 rfl (by decide) q1_206 rfl rfl rfl (Nat.le_of_ble_eq_true rfl) dX10_init_14 (fun H locs hP hD hS => ?_)
  have hP : va_P D vwCl ([(h0, .inr (12, [.ref q1, .int 0])), (q1, .inl (cA 0, 12, .inl (fun _ => 0)))] ++ ([] : va_W)) H := hP
  have hD : va_D A ([(h0, .inr (12, [.ref q1, .int 0])), (q1, .inl (cA 0, 12, .inl (fun _ => 0)))] ++ ([] : va_W)) := hD
  rw [List.append_nil] at hP hD
  exact c_ret (Wb := fun b : Nat → Nat => gws 212 2 shc cA ad b (fun _ _ => 0)) (fun k => match k with | 212 => h0 | 213 => q1 | _ => h0) rfl G hP hD hS (by decide) dX10_init_17
set_option maxHeartbeats 4000000 in
set_option maxRecDepth 100000 in
theorem mX1_init (l : Launch) (D : va_G) (cA : Nat → ClassId) (ad adF adW tt : Nat → Nat) (ST : gST) (hT : STE ad adF adW tt ST) (h0 : Nat) : gMetC l yX1_init cX1_init 1 1 1 3 D (TYS cA) ST [(h0, .inr (5, [.null, .null]))] [.ref h0] (fun b : Nat → Nat => b 217 = h0) (fun b => gws 217 2 shc cA ad b (fun k j => if k = 217 ∧ j = 0 then 7 else 0)) := by
  refine g_ofWC hT.1 (by decide +kernel) (Nat.le_of_ble_eq_true rfl) ?_
  intro p e s m args below meth c ls A G hnm9 hP hD hl
  have G : GC p s m args meth c cX1_init 1 RX1 none A D (TYS cA) ST := G
  have hnm9 : meth.name = "<init>" := hnm9
  have hx := G.1
  have hb := G.2.1
  have hS : va_S A s.heap s.heap [] := va_S.rf
  have hl : lv_has ls 1 [(0, .ref h0)] := hl
  have hP : va_P D vwCl ([(h0, .inr (5, [.null, .null]))] ++ ([] : va_W)) s.heap := hP
  have hD : va_D A ([(h0, .inr (5, [.null, .null]))] ++ ([] : va_W)) := hD
  refine lv_aload_n hx hb dX1_init_0 rfl (lv_at hl 0 rfl) ?_
  refine c_objInit G q1_224 q1_46 q1_47 hl.1 dX1_init_1 (by decide) (Nat.le_of_ble_eq_true rfl) ?_
  refine lv_aload_n hx hb dX1_init_4 rfl (lv_at hl 0 rfl) ?_
  refine va_gets hx hb ((hT.2 _ _ G.2.2.2.2.2.2.2.2.2.2.1).2.1.1 7 (by decide)).1 hS G.2.2.2.1 (G.2.2.2.2.1 _ q1_225) (fun _ h9 => h9) dX1_init_5 ?_
  refine c_put (F := [(h0, .inr (5, [.null, .null]))]) (B := ([] : va_W)) (ci := 5) (v := .ref (ad 7)) hnm9 G hP hD hS 0 0 i_X1 rfl tyX1 tyX1_ok nmX1 rfl (by decide) q1_227 rfl rfl rfl (Nat.le_of_ble_eq_true rfl) dX1_init_8 (fun H locs hP hD hS => ?_)
  have hP : va_P D vwCl ([(h0, .inr (5, [.ref (ad 7), .null]))] ++ ([] : va_W)) H := hP
  have hD : va_D A ([(h0, .inr (5, [.ref (ad 7), .null]))] ++ ([] : va_W)) := hD
  refine lv_aload_n hx hb dX1_init_11 rfl (lv_at hl 0 rfl) ?_
  refine lv_iconst (v := 3) hx hb dX1_init_12 (by decide) ?_
  refine c_newa (atype := .int) (ty := .int) (F := [(h0, .inr (5, [.ref (ad 7), .null]))]) (B := ([] : va_W)) 0 rfl (fun _ h => by cases h) G hP hD hS q1_91 rfl (3, .inl (fun _ => 0)) (fun _ => rfl) (by decide) rfl (by decide) (Nat.le_of_ble_eq_true rfl) (Nat.le_of_ble_eq_true rfl) dX1_init_13 (fun q1 H hP hD hS => ?_)
  have hP : va_P D vwCl ([(h0, .inr (5, [.ref (ad 7), .null])), (q1, .inl (cA 0, 3, .inl (fun _ => 0)))] ++ ([] : va_W)) H := hP
  have hD : va_D A ([(h0, .inr (5, [.ref (ad 7), .null])), (q1, .inl (cA 0, 3, .inl (fun _ => 0)))] ++ ([] : va_W)) := hD
  refine c_put (F := [(h0, .inr (5, [.ref (ad 7), .null])), (q1, .inl (cA 0, 3, .inl (fun _ => 0)))]) (B := ([] : va_W)) (ci := 5) (v := .ref q1) hnm9 G hP hD hS 0 1 i_X1 rfl tyX1 tyX1_ok nmX1 rfl (by decide) q1_230 rfl rfl rfl (Nat.le_of_ble_eq_true rfl) dX1_init_15 (fun H locs hP hD hS => ?_)
  have hP : va_P D vwCl ([(h0, .inr (5, [.ref (ad 7), .ref q1])), (q1, .inl (cA 0, 3, .inl (fun _ => 0)))] ++ ([] : va_W)) H := hP
  have hD : va_D A ([(h0, .inr (5, [.ref (ad 7), .ref q1])), (q1, .inl (cA 0, 3, .inl (fun _ => 0)))] ++ ([] : va_W)) := hD
  rw [List.append_nil] at hP hD
  exact c_ret (Wb := fun b : Nat → Nat => gws 217 2 shc cA ad b (fun k j => if k = 217 ∧ j = 0 then 7 else 0)) (fun k => match k with | 217 => h0 | 218 => q1 | _ => h0) rfl G hP hD hS (by decide) dX1_init_18
theorem dflt_X5 : ∀ j, j < 4 → defaultValue (tyX5 j) = vp_V [.null, .null, .null, .int 0] j := fun j hj => by
  match j, hj with
  | 0, _ => rfl
  | 1, _ => rfl
  | 2, _ => rfl
  | 3, _ => rfl
  | j + 4, hj => omega
theorem dflt_X6 : ∀ j, j < 7 → defaultValue (tyX6 j) = vp_V [.null, .null, .null, .null, .null, .null, .int 0] j := fun j hj => by
  match j, hj with
  | 0, _ => rfl
  | 1, _ => rfl
  | 2, _ => rfl
  | 3, _ => rfl
  | 4, _ => rfl
  | 5, _ => rfl
  | 6, _ => rfl
  | j + 7, hj => omega
theorem dflt_X7 : ∀ j, j < 7 → defaultValue (tyX7 j) = vp_V [.null, .null, .null, .null, .null, .int 0, .int 0] j := fun j hj => by
  match j, hj with
  | 0, _ => rfl
  | 1, _ => rfl
  | 2, _ => rfl
  | 3, _ => rfl
  | 4, _ => rfl
  | 5, _ => rfl
  | 6, _ => rfl
  | j + 7, hj => omega
theorem dflt_X9 : ∀ j, j < 7 → defaultValue (tyX9 j) = vp_V [.null, .null, .null, .null, .int 0, .int 0, .int 0] j := fun j hj => by
  match j, hj with
  | 0, _ => rfl
  | 1, _ => rfl
  | 2, _ => rfl
  | 3, _ => rfl
  | 4, _ => rfl
  | 5, _ => rfl
  | 6, _ => rfl
  | j + 7, hj => omega
theorem dflt_X10 : ∀ j, j < 2 → defaultValue (tyX10 j) = vp_V [.null, .int 0] j := fun j hj => by
  match j, hj with
  | 0, _ => rfl
  | 1, _ => rfl
  | j + 2, hj => omega
theorem dflt_X8 : ∀ j, j < 5 → defaultValue (tyX8 j) = vp_V [.null, .int 0, .int 0, .null, .int 0] j := fun j hj => by
  match j, hj with
  | 0, _ => rfl
  | 1, _ => rfl
  | 2, _ => rfl
  | 3, _ => rfl
  | 4, _ => rfl
  | j + 5, hj => omega
theorem dflt_X3 : ∀ j, j < 3 → defaultValue (tyX3 j) = vp_V [.null, .int 0, .int 0] j := fun j hj => by
  match j, hj with
  | 0, _ => rfl
  | 1, _ => rfl
  | 2, _ => rfl
  | j + 3, hj => omega
theorem dflt_X1 : ∀ j, j < 2 → defaultValue (tyX1 j) = vp_V [.null, .null] j := fun j hj => by
  match j, hj with
  | 0, _ => rfl
  | 1, _ => rfl
  | j + 2, hj => omega
set_option maxHeartbeats 4000000 in
set_option maxRecDepth 100000 in
theorem mX6_init (l : Launch) (D : va_G) (cA : Nat → ClassId) (ad adF adW tt : Nat → Nat) (ST : gST) (hT : STE ad adF adW tt ST) (h0 : Nat) : gMetC l yX6_init cX6_init 2 3 18 186 D (TYS cA) ST [(h0, .inr (8, [.null, .null, .null, .null, .null, .null, .int 0]))] [.ref h0] (fun b : Nat → Nat => b 0 = h0) (fun b => gws 0 19 (shmill 0) cA ad b σM0) := by
  refine g_ofWC hT.1 (by decide +kernel) (Nat.le_of_ble_eq_true rfl) ?_
  intro p e s m args below meth c ls A G hnm9 hP hD hl
  have G : GC p s m args meth c cX6_init 2 RX6 none A D (TYS cA) ST := G
  have hnm9 : meth.name = "<init>" := hnm9
  have hx := G.1
  have hb := G.2.1
  have hS : va_S A s.heap s.heap [] := va_S.rf
  have hl : lv_has ls 2 [(0, .ref h0)] := hl
  have hP : va_P D vwCl ([(h0, .inr (8, [.null, .null, .null, .null, .null, .null, .int 0]))] ++ ([] : va_W)) s.heap := hP
  have hD : va_D A ([(h0, .inr (8, [.null, .null, .null, .null, .null, .null, .int 0]))] ++ ([] : va_W)) := hD
  refine lv_aload_n hx hb dX6_init_0 rfl (lv_at hl 0 rfl) ?_
  refine c_objInit G q1_53 q1_46 q1_47 hl.1 dX6_init_1 (by decide) (Nat.le_of_ble_eq_true rfl) ?_
  refine lv_aload_n hx hb dX6_init_4 rfl (lv_at hl 0 rfl) ?_
  refine c_new (F := [(h0, .inr (8, [.null, .null, .null, .null, .null, .null, .int 0]))]) (B := ([] : va_W)) (ci := 9) (fs := [.null, .null, .null, .null, .null, .int 0, .int 0]) G hP hD hS i_X7 tyX7 tyX7_ok q1_54 q1_55 q1_3 rfl (dflt_X7) (Nat.le_of_ble_eq_true rfl) (Nat.le_of_ble_eq_true rfl) dX6_init_5 (fun n1 H hP hD hS => ?_)
  have hP : va_P D vwCl ([(h0, .inr (8, [.null, .null, .null, .null, .null, .null, .int 0])), (n1, .inr (9, [.null, .null, .null, .null, .null, .int 0, .int 0]))] ++ ([] : va_W)) H := hP
  have hD : va_D A ([(h0, .inr (8, [.null, .null, .null, .null, .null, .null, .int 0])), (n1, .inr (9, [.null, .null, .null, .null, .null, .int 0, .int 0]))] ++ ([] : va_W)) := hD
  refine lv_dup hx hb dX6_init_8 rfl ?_
  refine c_callIN (F := [(h0, .inr (8, [.null, .null, .null, .null, .null, .null, .int 0]))]) (B := ([] : va_W)) (mX7_init l D cA ad adF adW tt ST hT n1) G hP hD hS (nm_0 G.2.2.2.2.2.2.2.2.2.1) q1_57 q1_3 q1_58 rfl (by decide +kernel) (by decide) hl.1 (Nat.le_of_ble_eq_true rfl) dX6_init_9 (fun b1 H locs hokb1 hP hD hS => ?_)
  refine c_put (F := [(h0, .inr (8, [.null, .null, .null, .null, .null, .null, .int 0]))]) (B := (([] : va_W) ++ gws 1 6 (shmill 0) cA ad b1 σM0)) (ci := 8) (v := .ref n1) hnm9 G hP hD hS 0 0 i_X6 rfl tyX6 tyX6_ok nmX6 rfl (by decide) q1_150 rfl rfl rfl (Nat.le_of_ble_eq_true rfl) dX6_init_12 (fun H locs hP hD hS => ?_)
  have hP : va_P D vwCl ([(h0, .inr (8, [.ref n1, .null, .null, .null, .null, .null, .int 0]))] ++ (([] : va_W) ++ gws 1 6 (shmill 0) cA ad b1 σM0)) H := hP
  have hD : va_D A ([(h0, .inr (8, [.ref n1, .null, .null, .null, .null, .null, .int 0]))] ++ (([] : va_W) ++ gws 1 6 (shmill 0) cA ad b1 σM0)) := hD
  refine lv_aload_n hx hb dX6_init_15 rfl (lv_at hl 0 rfl) ?_
  refine c_new (F := [(h0, .inr (8, [.ref n1, .null, .null, .null, .null, .null, .int 0]))]) (B := (([] : va_W) ++ gws 1 6 (shmill 0) cA ad b1 σM0)) (ci := 11) (fs := [.null, .null, .null, .null, .int 0, .int 0, .int 0]) G hP hD hS i_X9 tyX9 tyX9_ok q1_93 q1_94 q1_4 rfl (dflt_X9) (Nat.le_of_ble_eq_true rfl) (Nat.le_of_ble_eq_true rfl) dX6_init_16 (fun n2 H hP hD hS => ?_)
  have hP : va_P D vwCl ([(h0, .inr (8, [.ref n1, .null, .null, .null, .null, .null, .int 0])), (n2, .inr (11, [.null, .null, .null, .null, .int 0, .int 0, .int 0]))] ++ (([] : va_W) ++ gws 1 6 (shmill 0) cA ad b1 σM0)) H := hP
  have hD : va_D A ([(h0, .inr (8, [.ref n1, .null, .null, .null, .null, .null, .int 0])), (n2, .inr (11, [.null, .null, .null, .null, .int 0, .int 0, .int 0]))] ++ (([] : va_W) ++ gws 1 6 (shmill 0) cA ad b1 σM0)) := hD
  refine lv_dup hx hb dX6_init_19 rfl ?_
  refine c_callIN (F := [(h0, .inr (8, [.ref n1, .null, .null, .null, .null, .null, .int 0]))]) (B := (([] : va_W) ++ gws 1 6 (shmill 0) cA ad b1 σM0)) (mX9_init l D cA ad adF adW tt ST hT n2) G hP hD hS (nm_1 G.2.2.2.2.2.2.2.2.2.1) q1_96 q1_4 q1_97 rfl (by decide +kernel) (by decide) hl.1 (Nat.le_of_ble_eq_true rfl) dX6_init_20 (fun b2 H locs hokb2 hP hD hS => ?_)
  refine c_put (F := [(h0, .inr (8, [.ref n1, .null, .null, .null, .null, .null, .int 0]))]) (B := ((([] : va_W) ++ gws 1 6 (shmill 0) cA ad b1 σM0) ++ gws 7 5 (shmill 0) cA ad b2 σM0)) (ci := 8) (v := .ref n2) hnm9 G hP hD hS 0 1 i_X6 rfl tyX6 tyX6_ok nmX6 rfl (by decide) q1_152 rfl rfl rfl (Nat.le_of_ble_eq_true rfl) dX6_init_23 (fun H locs hP hD hS => ?_)
  have hP : va_P D vwCl ([(h0, .inr (8, [.ref n1, .ref n2, .null, .null, .null, .null, .int 0]))] ++ ((([] : va_W) ++ gws 1 6 (shmill 0) cA ad b1 σM0) ++ gws 7 5 (shmill 0) cA ad b2 σM0)) H := hP
  have hD : va_D A ([(h0, .inr (8, [.ref n1, .ref n2, .null, .null, .null, .null, .int 0]))] ++ ((([] : va_W) ++ gws 1 6 (shmill 0) cA ad b1 σM0) ++ gws 7 5 (shmill 0) cA ad b2 σM0)) := hD
  refine lv_aload_n hx hb dX6_init_26 rfl (lv_at hl 0 rfl) ?_
  refine c_new (F := [(h0, .inr (8, [.ref n1, .ref n2, .null, .null, .null, .null, .int 0]))]) (B := ((([] : va_W) ++ gws 1 6 (shmill 0) cA ad b1 σM0) ++ gws 7 5 (shmill 0) cA ad b2 σM0)) (ci := 7) (fs := [.null, .null, .null, .int 0]) G hP hD hS i_X5 tyX5 tyX5_ok q1_127 q1_128 q1_5 rfl (dflt_X5) (Nat.le_of_ble_eq_true rfl) (Nat.le_of_ble_eq_true rfl) dX6_init_27 (fun n3 H hP hD hS => ?_)
  have hP : va_P D vwCl ([(h0, .inr (8, [.ref n1, .ref n2, .null, .null, .null, .null, .int 0])), (n3, .inr (7, [.null, .null, .null, .int 0]))] ++ ((([] : va_W) ++ gws 1 6 (shmill 0) cA ad b1 σM0) ++ gws 7 5 (shmill 0) cA ad b2 σM0)) H := hP
  have hD : va_D A ([(h0, .inr (8, [.ref n1, .ref n2, .null, .null, .null, .null, .int 0])), (n3, .inr (7, [.null, .null, .null, .int 0]))] ++ ((([] : va_W) ++ gws 1 6 (shmill 0) cA ad b1 σM0) ++ gws 7 5 (shmill 0) cA ad b2 σM0)) := hD
  refine lv_dup hx hb dX6_init_30 rfl ?_
  refine c_callIN (F := [(h0, .inr (8, [.ref n1, .ref n2, .null, .null, .null, .null, .int 0]))]) (B := ((([] : va_W) ++ gws 1 6 (shmill 0) cA ad b1 σM0) ++ gws 7 5 (shmill 0) cA ad b2 σM0)) (mX5_init l D cA ad adF adW tt ST hT n3) G hP hD hS (nm_2 G.2.2.2.2.2.2.2.2.2.1) q1_130 q1_5 q1_131 rfl (by decide +kernel) (by decide) hl.1 (Nat.le_of_ble_eq_true rfl) dX6_init_31 (fun b3 H locs hokb3 hP hD hS => ?_)
  refine c_put (F := [(h0, .inr (8, [.ref n1, .ref n2, .null, .null, .null, .null, .int 0]))]) (B := (((([] : va_W) ++ gws 1 6 (shmill 0) cA ad b1 σM0) ++ gws 7 5 (shmill 0) cA ad b2 σM0) ++ gws 12 4 (shmill 0) cA ad b3 σM0)) (ci := 8) (v := .ref n3) hnm9 G hP hD hS 0 2 i_X6 rfl tyX6 tyX6_ok nmX6 rfl (by decide) q1_154 rfl rfl rfl (Nat.le_of_ble_eq_true rfl) dX6_init_34 (fun H locs hP hD hS => ?_)
  have hP : va_P D vwCl ([(h0, .inr (8, [.ref n1, .ref n2, .ref n3, .null, .null, .null, .int 0]))] ++ (((([] : va_W) ++ gws 1 6 (shmill 0) cA ad b1 σM0) ++ gws 7 5 (shmill 0) cA ad b2 σM0) ++ gws 12 4 (shmill 0) cA ad b3 σM0)) H := hP
  have hD : va_D A ([(h0, .inr (8, [.ref n1, .ref n2, .ref n3, .null, .null, .null, .int 0]))] ++ (((([] : va_W) ++ gws 1 6 (shmill 0) cA ad b1 σM0) ++ gws 7 5 (shmill 0) cA ad b2 σM0) ++ gws 12 4 (shmill 0) cA ad b3 σM0)) := hD
  refine lv_aload_n hx hb dX6_init_37 rfl (lv_at hl 0 rfl) ?_
  refine lv_iconst (v := 3) hx hb dX6_init_38 (by decide) ?_
  refine c_newa (atype := .int) (ty := .int) (F := [(h0, .inr (8, [.ref n1, .ref n2, .ref n3, .null, .null, .null, .int 0]))]) (B := (((([] : va_W) ++ gws 1 6 (shmill 0) cA ad b1 σM0) ++ gws 7 5 (shmill 0) cA ad b2 σM0) ++ gws 12 4 (shmill 0) cA ad b3 σM0)) 0 rfl (fun _ h => by cases h) G hP hD hS q1_91 rfl (3, .inl (fun _ => 0)) (fun _ => rfl) (by decide) rfl (by decide) (Nat.le_of_ble_eq_true rfl) (Nat.le_of_ble_eq_true rfl) dX6_init_39 (fun q1 H hP hD hS => ?_)
  have hP : va_P D vwCl ([(h0, .inr (8, [.ref n1, .ref n2, .ref n3, .null, .null, .null, .int 0])), (q1, .inl (cA 0, 3, .inl (fun _ => 0)))] ++ (((([] : va_W) ++ gws 1 6 (shmill 0) cA ad b1 σM0) ++ gws 7 5 (shmill 0) cA ad b2 σM0) ++ gws 12 4 (shmill 0) cA ad b3 σM0)) H := hP
  have hD : va_D A ([(h0, .inr (8, [.ref n1, .ref n2, .ref n3, .null, .null, .null, .int 0])), (q1, .inl (cA 0, 3, .inl (fun _ => 0)))] ++ (((([] : va_W) ++ gws 1 6 (shmill 0) cA ad b1 σM0) ++ gws 7 5 (shmill 0) cA ad b2 σM0) ++ gws 12 4 (shmill 0) cA ad b3 σM0)) := hD
  refine c_put (F := [(h0, .inr (8, [.ref n1, .ref n2, .ref n3, .null, .null, .null, .int 0])), (q1, .inl (cA 0, 3, .inl (fun _ => 0)))]) (B := (((([] : va_W) ++ gws 1 6 (shmill 0) cA ad b1 σM0) ++ gws 7 5 (shmill 0) cA ad b2 σM0) ++ gws 12 4 (shmill 0) cA ad b3 σM0)) (ci := 8) (v := .ref q1) hnm9 G hP hD hS 0 3 i_X6 rfl tyX6 tyX6_ok nmX6 rfl (by decide) q1_156 rfl rfl rfl (Nat.le_of_ble_eq_true rfl) dX6_init_41 (fun H locs hP hD hS => ?_)
  have hP : va_P D vwCl ([(h0, .inr (8, [.ref n1, .ref n2, .ref n3, .ref q1, .null, .null, .int 0])), (q1, .inl (cA 0, 3, .inl (fun _ => 0)))] ++ (((([] : va_W) ++ gws 1 6 (shmill 0) cA ad b1 σM0) ++ gws 7 5 (shmill 0) cA ad b2 σM0) ++ gws 12 4 (shmill 0) cA ad b3 σM0)) H := hP
  have hD : va_D A ([(h0, .inr (8, [.ref n1, .ref n2, .ref n3, .ref q1, .null, .null, .int 0])), (q1, .inl (cA 0, 3, .inl (fun _ => 0)))] ++ (((([] : va_W) ++ gws 1 6 (shmill 0) cA ad b1 σM0) ++ gws 7 5 (shmill 0) cA ad b2 σM0) ++ gws 12 4 (shmill 0) cA ad b3 σM0)) := hD
  refine lv_aload_n hx hb dX6_init_44 rfl (lv_at hl 0 rfl) ?_
  refine lv_iconst (v := 3) hx hb dX6_init_45 (by decide) ?_
  refine c_newa (atype := .int) (ty := .int) (F := [(h0, .inr (8, [.ref n1, .ref n2, .ref n3, .ref q1, .null, .null, .int 0])), (q1, .inl (cA 0, 3, .inl (fun _ => 0)))]) (B := (((([] : va_W) ++ gws 1 6 (shmill 0) cA ad b1 σM0) ++ gws 7 5 (shmill 0) cA ad b2 σM0) ++ gws 12 4 (shmill 0) cA ad b3 σM0)) 0 rfl (fun _ h => by cases h) G hP hD hS q1_91 rfl (3, .inl (fun _ => 0)) (fun _ => rfl) (by decide) rfl (by decide) (Nat.le_of_ble_eq_true rfl) (Nat.le_of_ble_eq_true rfl) dX6_init_46 (fun q2 H hP hD hS => ?_)
  have hP : va_P D vwCl ([(h0, .inr (8, [.ref n1, .ref n2, .ref n3, .ref q1, .null, .null, .int 0])), (q1, .inl (cA 0, 3, .inl (fun _ => 0))), (q2, .inl (cA 0, 3, .inl (fun _ => 0)))] ++ (((([] : va_W) ++ gws 1 6 (shmill 0) cA ad b1 σM0) ++ gws 7 5 (shmill 0) cA ad b2 σM0) ++ gws 12 4 (shmill 0) cA ad b3 σM0)) H := hP
  have hD : va_D A ([(h0, .inr (8, [.ref n1, .ref n2, .ref n3, .ref q1, .null, .null, .int 0])), (q1, .inl (cA 0, 3, .inl (fun _ => 0))), (q2, .inl (cA 0, 3, .inl (fun _ => 0)))] ++ (((([] : va_W) ++ gws 1 6 (shmill 0) cA ad b1 σM0) ++ gws 7 5 (shmill 0) cA ad b2 σM0) ++ gws 12 4 (shmill 0) cA ad b3 σM0)) := hD
  refine c_put (F := [(h0, .inr (8, [.ref n1, .ref n2, .ref n3, .ref q1, .null, .null, .int 0])), (q1, .inl (cA 0, 3, .inl (fun _ => 0))), (q2, .inl (cA 0, 3, .inl (fun _ => 0)))]) (B := (((([] : va_W) ++ gws 1 6 (shmill 0) cA ad b1 σM0) ++ gws 7 5 (shmill 0) cA ad b2 σM0) ++ gws 12 4 (shmill 0) cA ad b3 σM0)) (ci := 8) (v := .ref q2) hnm9 G hP hD hS 0 4 i_X6 rfl tyX6 tyX6_ok nmX6 rfl (by decide) q1_158 rfl rfl rfl (Nat.le_of_ble_eq_true rfl) dX6_init_48 (fun H locs hP hD hS => ?_)
  have hP : va_P D vwCl ([(h0, .inr (8, [.ref n1, .ref n2, .ref n3, .ref q1, .ref q2, .null, .int 0])), (q1, .inl (cA 0, 3, .inl (fun _ => 0))), (q2, .inl (cA 0, 3, .inl (fun _ => 0)))] ++ (((([] : va_W) ++ gws 1 6 (shmill 0) cA ad b1 σM0) ++ gws 7 5 (shmill 0) cA ad b2 σM0) ++ gws 12 4 (shmill 0) cA ad b3 σM0)) H := hP
  have hD : va_D A ([(h0, .inr (8, [.ref n1, .ref n2, .ref n3, .ref q1, .ref q2, .null, .int 0])), (q1, .inl (cA 0, 3, .inl (fun _ => 0))), (q2, .inl (cA 0, 3, .inl (fun _ => 0)))] ++ (((([] : va_W) ++ gws 1 6 (shmill 0) cA ad b1 σM0) ++ gws 7 5 (shmill 0) cA ad b2 σM0) ++ gws 12 4 (shmill 0) cA ad b3 σM0)) := hD
  refine lv_aload_n hx hb dX6_init_51 rfl (lv_at hl 0 rfl) ?_
  refine lv_bipush (v := 8) hx hb dX6_init_52 (by decide) ?_
  refine c_newa (atype := .int) (ty := .int) (F := [(h0, .inr (8, [.ref n1, .ref n2, .ref n3, .ref q1, .ref q2, .null, .int 0])), (q1, .inl (cA 0, 3, .inl (fun _ => 0))), (q2, .inl (cA 0, 3, .inl (fun _ => 0)))]) (B := (((([] : va_W) ++ gws 1 6 (shmill 0) cA ad b1 σM0) ++ gws 7 5 (shmill 0) cA ad b2 σM0) ++ gws 12 4 (shmill 0) cA ad b3 σM0)) 0 rfl (fun _ h => by cases h) G hP hD hS q1_91 rfl (8, .inl (fun _ => 0)) (fun _ => rfl) (by decide) rfl (by decide) (Nat.le_of_ble_eq_true rfl) (Nat.le_of_ble_eq_true rfl) dX6_init_54 (fun q3 H hP hD hS => ?_)
  have hP : va_P D vwCl ([(h0, .inr (8, [.ref n1, .ref n2, .ref n3, .ref q1, .ref q2, .null, .int 0])), (q1, .inl (cA 0, 3, .inl (fun _ => 0))), (q2, .inl (cA 0, 3, .inl (fun _ => 0))), (q3, .inl (cA 0, 8, .inl (fun _ => 0)))] ++ (((([] : va_W) ++ gws 1 6 (shmill 0) cA ad b1 σM0) ++ gws 7 5 (shmill 0) cA ad b2 σM0) ++ gws 12 4 (shmill 0) cA ad b3 σM0)) H := hP
  have hD : va_D A ([(h0, .inr (8, [.ref n1, .ref n2, .ref n3, .ref q1, .ref q2, .null, .int 0])), (q1, .inl (cA 0, 3, .inl (fun _ => 0))), (q2, .inl (cA 0, 3, .inl (fun _ => 0))), (q3, .inl (cA 0, 8, .inl (fun _ => 0)))] ++ (((([] : va_W) ++ gws 1 6 (shmill 0) cA ad b1 σM0) ++ gws 7 5 (shmill 0) cA ad b2 σM0) ++ gws 12 4 (shmill 0) cA ad b3 σM0)) := hD
  refine c_put (F := [(h0, .inr (8, [.ref n1, .ref n2, .ref n3, .ref q1, .ref q2, .null, .int 0])), (q1, .inl (cA 0, 3, .inl (fun _ => 0))), (q2, .inl (cA 0, 3, .inl (fun _ => 0))), (q3, .inl (cA 0, 8, .inl (fun _ => 0)))]) (B := (((([] : va_W) ++ gws 1 6 (shmill 0) cA ad b1 σM0) ++ gws 7 5 (shmill 0) cA ad b2 σM0) ++ gws 12 4 (shmill 0) cA ad b3 σM0)) (ci := 8) (v := .ref q3) hnm9 G hP hD hS 0 5 i_X6 rfl tyX6 tyX6_ok nmX6 rfl (by decide) q1_160 rfl rfl rfl (Nat.le_of_ble_eq_true rfl) dX6_init_56 (fun H locs hP hD hS => ?_)
  have hP : va_P D vwCl ([(h0, .inr (8, [.ref n1, .ref n2, .ref n3, .ref q1, .ref q2, .ref q3, .int 0])), (q1, .inl (cA 0, 3, .inl (fun _ => 0))), (q2, .inl (cA 0, 3, .inl (fun _ => 0))), (q3, .inl (cA 0, 8, .inl (fun _ => 0)))] ++ (((([] : va_W) ++ gws 1 6 (shmill 0) cA ad b1 σM0) ++ gws 7 5 (shmill 0) cA ad b2 σM0) ++ gws 12 4 (shmill 0) cA ad b3 σM0)) H := hP
  have hD : va_D A ([(h0, .inr (8, [.ref n1, .ref n2, .ref n3, .ref q1, .ref q2, .ref q3, .int 0])), (q1, .inl (cA 0, 3, .inl (fun _ => 0))), (q2, .inl (cA 0, 3, .inl (fun _ => 0))), (q3, .inl (cA 0, 8, .inl (fun _ => 0)))] ++ (((([] : va_W) ++ gws 1 6 (shmill 0) cA ad b1 σM0) ++ gws 7 5 (shmill 0) cA ad b2 σM0) ++ gws 12 4 (shmill 0) cA ad b3 σM0)) := hD
  refine lv_aload_n hx hb dX6_init_59 rfl (lv_at hl 0 rfl) ?_
  refine lv_iconst (v := 0) hx hb dX6_init_60 (by decide) ?_
  refine c_put (F := [(h0, .inr (8, [.ref n1, .ref n2, .ref n3, .ref q1, .ref q2, .ref q3, .int 0])), (q1, .inl (cA 0, 3, .inl (fun _ => 0))), (q2, .inl (cA 0, 3, .inl (fun _ => 0))), (q3, .inl (cA 0, 8, .inl (fun _ => 0)))]) (B := (((([] : va_W) ++ gws 1 6 (shmill 0) cA ad b1 σM0) ++ gws 7 5 (shmill 0) cA ad b2 σM0) ++ gws 12 4 (shmill 0) cA ad b3 σM0)) (ci := 8) (v := .int 0) hnm9 G hP hD hS 0 6 i_X6 rfl tyX6 tyX6_ok nmX6 rfl (by decide) q1_162 rfl rfl rfl (Nat.le_of_ble_eq_true rfl) dX6_init_61 (fun H locs hP hD hS => ?_)
  have hP : va_P D vwCl ([(h0, .inr (8, [.ref n1, .ref n2, .ref n3, .ref q1, .ref q2, .ref q3, .int 0])), (q1, .inl (cA 0, 3, .inl (fun _ => 0))), (q2, .inl (cA 0, 3, .inl (fun _ => 0))), (q3, .inl (cA 0, 8, .inl (fun _ => 0)))] ++ (((([] : va_W) ++ gws 1 6 (shmill 0) cA ad b1 σM0) ++ gws 7 5 (shmill 0) cA ad b2 σM0) ++ gws 12 4 (shmill 0) cA ad b3 σM0)) H := hP
  have hD : va_D A ([(h0, .inr (8, [.ref n1, .ref n2, .ref n3, .ref q1, .ref q2, .ref q3, .int 0])), (q1, .inl (cA 0, 3, .inl (fun _ => 0))), (q2, .inl (cA 0, 3, .inl (fun _ => 0))), (q3, .inl (cA 0, 8, .inl (fun _ => 0)))] ++ (((([] : va_W) ++ gws 1 6 (shmill 0) cA ad b1 σM0) ++ gws 7 5 (shmill 0) cA ad b2 σM0) ++ gws 12 4 (shmill 0) cA ad b3 σM0)) := hD
  refine lv_iconst (v := 0) hx hb dX6_init_64 (by decide) ?_
  refine lv_istore_n (lv' := [(1, .int 0), (0, .ref h0)]) hx hb dX6_init_65 rfl hl (by decide) rfl (fun ls hl => ?_)
  refine lv_iload_n hx hb dX6_init_66 rfl (lv_at hl 0 rfl) ?_
  refine lv_iconst (v := 3) hx hb dX6_init_67 (by decide) ?_
  refine lv_icmp_ge (tgt := 84) hx hb dX6_init_68 (by decide) (fun c9 => absurd c9 (by decide)) (fun _ => ?_)
  refine lv_aload_n hx hb dX6_init_71 rfl (lv_at hl 1 rfl) ?_
  refine c_get (F := [(h0, .inr (8, [.ref n1, .ref n2, .ref n3, .ref q1, .ref q2, .ref q3, .int 0])), (q1, .inl (cA 0, 3, .inl (fun _ => 0))), (q2, .inl (cA 0, 3, .inl (fun _ => 0))), (q3, .inl (cA 0, 8, .inl (fun _ => 0)))]) (B := (((([] : va_W) ++ gws 1 6 (shmill 0) cA ad b1 σM0) ++ gws 7 5 (shmill 0) cA ad b2 σM0) ++ gws 12 4 (shmill 0) cA ad b3 σM0)) (ci := 8) (v := .ref q1) G hP 0 3 i_X6 rfl rfl (by decide) q1_156 rfl dX6_init_72 ?_
  refine lv_iload_n hx hb dX6_init_75 rfl (lv_at hl 0 rfl) ?_
  refine lv_iconst (v := 1) hx hb dX6_init_76 (by decide) ?_
  refine c_iast (F := [(h0, .inr (8, [.ref n1, .ref n2, .ref n3, .ref q1, .ref q2, .ref q3, .int 0])), (q1, .inl (cA 0, 3, .inl (fun _ => 0))), (q2, .inl (cA 0, 3, .inl (fun _ => 0))), (q3, .inl (cA 0, 8, .inl (fun _ => 0)))]) (B := (((([] : va_W) ++ gws 1 6 (shmill 0) cA ad b1 σM0) ++ gws 7 5 (shmill 0) cA ad b2 σM0) ++ gws 12 4 (shmill 0) cA ad b3 σM0)) 0 rfl G hP hD hS 1 rfl (by unfold vp_in; decide) dX6_init_77 (fun H locs hP hD hS => ?_)
  have hP : va_P D vwCl ([(h0, .inr (8, [.ref n1, .ref n2, .ref n3, .ref q1, .ref q2, .ref q3, .int 0])), (q1, .inl (cA 0, 3, .inl (upd (fun _ => 0) 0 1))), (q2, .inl (cA 0, 3, .inl (fun _ => 0))), (q3, .inl (cA 0, 8, .inl (fun _ => 0)))] ++ (((([] : va_W) ++ gws 1 6 (shmill 0) cA ad b1 σM0) ++ gws 7 5 (shmill 0) cA ad b2 σM0) ++ gws 12 4 (shmill 0) cA ad b3 σM0)) H := hP
  have hD : va_D A ([(h0, .inr (8, [.ref n1, .ref n2, .ref n3, .ref q1, .ref q2, .ref q3, .int 0])), (q1, .inl (cA 0, 3, .inl (upd (fun _ => 0) 0 1))), (q2, .inl (cA 0, 3, .inl (fun _ => 0))), (q3, .inl (cA 0, 8, .inl (fun _ => 0)))] ++ (((([] : va_W) ++ gws 1 6 (shmill 0) cA ad b1 σM0) ++ gws 7 5 (shmill 0) cA ad b2 σM0) ++ gws 12 4 (shmill 0) cA ad b3 σM0)) := hD
  refine lv_iinc (v := 1) (lv' := [(1, .int 1), (0, .ref h0)]) hx hb dX6_init_78 hl (k := 0) rfl (by decide) (by decide) rfl (fun ls hl => ?_)
  refine lv_goto (tgt := 66) hx hb dX6_init_81 (by decide) ?_
  refine lv_iload_n hx hb dX6_init_66 rfl (lv_at hl 0 rfl) ?_
  refine lv_iconst (v := 3) hx hb dX6_init_67 (by decide) ?_
  refine lv_icmp_ge (tgt := 84) hx hb dX6_init_68 (by decide) (fun c9 => absurd c9 (by decide)) (fun _ => ?_)
  refine lv_aload_n hx hb dX6_init_71 rfl (lv_at hl 1 rfl) ?_
  refine c_get (F := [(h0, .inr (8, [.ref n1, .ref n2, .ref n3, .ref q1, .ref q2, .ref q3, .int 0])), (q1, .inl (cA 0, 3, .inl (upd (fun _ => 0) 0 1))), (q2, .inl (cA 0, 3, .inl (fun _ => 0))), (q3, .inl (cA 0, 8, .inl (fun _ => 0)))]) (B := (((([] : va_W) ++ gws 1 6 (shmill 0) cA ad b1 σM0) ++ gws 7 5 (shmill 0) cA ad b2 σM0) ++ gws 12 4 (shmill 0) cA ad b3 σM0)) (ci := 8) (v := .ref q1) G hP 0 3 i_X6 rfl rfl (by decide) q1_156 rfl dX6_init_72 ?_
  refine lv_iload_n hx hb dX6_init_75 rfl (lv_at hl 0 rfl) ?_
  refine lv_iconst (v := 1) hx hb dX6_init_76 (by decide) ?_
  refine c_iast (F := [(h0, .inr (8, [.ref n1, .ref n2, .ref n3, .ref q1, .ref q2, .ref q3, .int 0])), (q1, .inl (cA 0, 3, .inl (upd (fun _ => 0) 0 1))), (q2, .inl (cA 0, 3, .inl (fun _ => 0))), (q3, .inl (cA 0, 8, .inl (fun _ => 0)))]) (B := (((([] : va_W) ++ gws 1 6 (shmill 0) cA ad b1 σM0) ++ gws 7 5 (shmill 0) cA ad b2 σM0) ++ gws 12 4 (shmill 0) cA ad b3 σM0)) 1 rfl G hP hD hS 1 rfl (by unfold vp_in; decide) dX6_init_77 (fun H locs hP hD hS => ?_)
  have hP : va_P D vwCl ([(h0, .inr (8, [.ref n1, .ref n2, .ref n3, .ref q1, .ref q2, .ref q3, .int 0])), (q1, .inl (cA 0, 3, .inl (upd (upd (fun _ => 0) 0 1) 1 1))), (q2, .inl (cA 0, 3, .inl (fun _ => 0))), (q3, .inl (cA 0, 8, .inl (fun _ => 0)))] ++ (((([] : va_W) ++ gws 1 6 (shmill 0) cA ad b1 σM0) ++ gws 7 5 (shmill 0) cA ad b2 σM0) ++ gws 12 4 (shmill 0) cA ad b3 σM0)) H := hP
  have hD : va_D A ([(h0, .inr (8, [.ref n1, .ref n2, .ref n3, .ref q1, .ref q2, .ref q3, .int 0])), (q1, .inl (cA 0, 3, .inl (upd (upd (fun _ => 0) 0 1) 1 1))), (q2, .inl (cA 0, 3, .inl (fun _ => 0))), (q3, .inl (cA 0, 8, .inl (fun _ => 0)))] ++ (((([] : va_W) ++ gws 1 6 (shmill 0) cA ad b1 σM0) ++ gws 7 5 (shmill 0) cA ad b2 σM0) ++ gws 12 4 (shmill 0) cA ad b3 σM0)) := hD
  refine lv_iinc (v := 2) (lv' := [(1, .int 2), (0, .ref h0)]) hx hb dX6_init_78 hl (k := 0) rfl (by decide) (by decide) rfl (fun ls hl => ?_)
  refine lv_goto (tgt := 66) hx hb dX6_init_81 (by decide) ?_
  refine lv_iload_n hx hb dX6_init_66 rfl (lv_at hl 0 rfl) ?_
  refine lv_iconst (v := 3) hx hb dX6_init_67 (by decide) ?_
  refine lv_icmp_ge (tgt := 84) hx hb dX6_init_68 (by decide) (fun c9 => absurd c9 (by decide)) (fun _ => ?_)
  refine lv_aload_n hx hb dX6_init_71 rfl (lv_at hl 1 rfl) ?_
  refine c_get (F := [(h0, .inr (8, [.ref n1, .ref n2, .ref n3, .ref q1, .ref q2, .ref q3, .int 0])), (q1, .inl (cA 0, 3, .inl (upd (upd (fun _ => 0) 0 1) 1 1))), (q2, .inl (cA 0, 3, .inl (fun _ => 0))), (q3, .inl (cA 0, 8, .inl (fun _ => 0)))]) (B := (((([] : va_W) ++ gws 1 6 (shmill 0) cA ad b1 σM0) ++ gws 7 5 (shmill 0) cA ad b2 σM0) ++ gws 12 4 (shmill 0) cA ad b3 σM0)) (ci := 8) (v := .ref q1) G hP 0 3 i_X6 rfl rfl (by decide) q1_156 rfl dX6_init_72 ?_
  refine lv_iload_n hx hb dX6_init_75 rfl (lv_at hl 0 rfl) ?_
  refine lv_iconst (v := 1) hx hb dX6_init_76 (by decide) ?_
  refine c_iast (F := [(h0, .inr (8, [.ref n1, .ref n2, .ref n3, .ref q1, .ref q2, .ref q3, .int 0])), (q1, .inl (cA 0, 3, .inl (upd (upd (fun _ => 0) 0 1) 1 1))), (q2, .inl (cA 0, 3, .inl (fun _ => 0))), (q3, .inl (cA 0, 8, .inl (fun _ => 0)))]) (B := (((([] : va_W) ++ gws 1 6 (shmill 0) cA ad b1 σM0) ++ gws 7 5 (shmill 0) cA ad b2 σM0) ++ gws 12 4 (shmill 0) cA ad b3 σM0)) 2 rfl G hP hD hS 1 rfl (by unfold vp_in; decide) dX6_init_77 (fun H locs hP hD hS => ?_)
  have hP : va_P D vwCl ([(h0, .inr (8, [.ref n1, .ref n2, .ref n3, .ref q1, .ref q2, .ref q3, .int 0])), (q1, .inl (cA 0, 3, .inl (upd (upd (upd (fun _ => 0) 0 1) 1 1) 2 1))), (q2, .inl (cA 0, 3, .inl (fun _ => 0))), (q3, .inl (cA 0, 8, .inl (fun _ => 0)))] ++ (((([] : va_W) ++ gws 1 6 (shmill 0) cA ad b1 σM0) ++ gws 7 5 (shmill 0) cA ad b2 σM0) ++ gws 12 4 (shmill 0) cA ad b3 σM0)) H := hP
  have hD : va_D A ([(h0, .inr (8, [.ref n1, .ref n2, .ref n3, .ref q1, .ref q2, .ref q3, .int 0])), (q1, .inl (cA 0, 3, .inl (upd (upd (upd (fun _ => 0) 0 1) 1 1) 2 1))), (q2, .inl (cA 0, 3, .inl (fun _ => 0))), (q3, .inl (cA 0, 8, .inl (fun _ => 0)))] ++ (((([] : va_W) ++ gws 1 6 (shmill 0) cA ad b1 σM0) ++ gws 7 5 (shmill 0) cA ad b2 σM0) ++ gws 12 4 (shmill 0) cA ad b3 σM0)) := hD
  refine lv_iinc (v := 3) (lv' := [(1, .int 3), (0, .ref h0)]) hx hb dX6_init_78 hl (k := 0) rfl (by decide) (by decide) rfl (fun ls hl => ?_)
  refine lv_goto (tgt := 66) hx hb dX6_init_81 (by decide) ?_
  refine lv_iload_n hx hb dX6_init_66 rfl (lv_at hl 0 rfl) ?_
  refine lv_iconst (v := 3) hx hb dX6_init_67 (by decide) ?_
  refine lv_icmp_ge (tgt := 84) hx hb dX6_init_68 (by decide) (fun _ => ?_) (fun c9 => absurd (by decide) c9)
  refine lv_iconst (v := 0) hx hb dX6_init_84 (by decide) ?_
  refine lv_istore_n (lv' := [(1, .int 0), (0, .ref h0)]) hx hb dX6_init_85 rfl hl (by decide) rfl (fun ls hl => ?_)
  refine lv_iload_n hx hb dX6_init_86 rfl (lv_at hl 0 rfl) ?_
  refine lv_bipush (v := 8) hx hb dX6_init_87 (by decide) ?_
  refine lv_icmp_ge (tgt := 105) hx hb dX6_init_89 (by decide) (fun c9 => absurd c9 (by decide)) (fun _ => ?_)
  refine lv_aload_n hx hb dX6_init_92 rfl (lv_at hl 1 rfl) ?_
  refine c_get (F := [(h0, .inr (8, [.ref n1, .ref n2, .ref n3, .ref q1, .ref q2, .ref q3, .int 0])), (q1, .inl (cA 0, 3, .inl (upd (upd (upd (fun _ => 0) 0 1) 1 1) 2 1))), (q2, .inl (cA 0, 3, .inl (fun _ => 0))), (q3, .inl (cA 0, 8, .inl (fun _ => 0)))]) (B := (((([] : va_W) ++ gws 1 6 (shmill 0) cA ad b1 σM0) ++ gws 7 5 (shmill 0) cA ad b2 σM0) ++ gws 12 4 (shmill 0) cA ad b3 σM0)) (ci := 8) (v := .ref q3) G hP 0 5 i_X6 rfl rfl (by decide) q1_160 rfl dX6_init_93 ?_
  refine lv_iload_n hx hb dX6_init_96 rfl (lv_at hl 0 rfl) ?_
  refine lv_iconst (v := 3) hx hb dX6_init_97 (by decide) ?_
  refine c_iast (F := [(h0, .inr (8, [.ref n1, .ref n2, .ref n3, .ref q1, .ref q2, .ref q3, .int 0])), (q1, .inl (cA 0, 3, .inl (upd (upd (upd (fun _ => 0) 0 1) 1 1) 2 1))), (q2, .inl (cA 0, 3, .inl (fun _ => 0))), (q3, .inl (cA 0, 8, .inl (fun _ => 0)))]) (B := (((([] : va_W) ++ gws 1 6 (shmill 0) cA ad b1 σM0) ++ gws 7 5 (shmill 0) cA ad b2 σM0) ++ gws 12 4 (shmill 0) cA ad b3 σM0)) 0 rfl G hP hD hS 3 rfl (by unfold vp_in; decide) dX6_init_98 (fun H locs hP hD hS => ?_)
  have hP : va_P D vwCl ([(h0, .inr (8, [.ref n1, .ref n2, .ref n3, .ref q1, .ref q2, .ref q3, .int 0])), (q1, .inl (cA 0, 3, .inl (upd (upd (upd (fun _ => 0) 0 1) 1 1) 2 1))), (q2, .inl (cA 0, 3, .inl (fun _ => 0))), (q3, .inl (cA 0, 8, .inl (upd (fun _ => 0) 0 3)))] ++ (((([] : va_W) ++ gws 1 6 (shmill 0) cA ad b1 σM0) ++ gws 7 5 (shmill 0) cA ad b2 σM0) ++ gws 12 4 (shmill 0) cA ad b3 σM0)) H := hP
  have hD : va_D A ([(h0, .inr (8, [.ref n1, .ref n2, .ref n3, .ref q1, .ref q2, .ref q3, .int 0])), (q1, .inl (cA 0, 3, .inl (upd (upd (upd (fun _ => 0) 0 1) 1 1) 2 1))), (q2, .inl (cA 0, 3, .inl (fun _ => 0))), (q3, .inl (cA 0, 8, .inl (upd (fun _ => 0) 0 3)))] ++ (((([] : va_W) ++ gws 1 6 (shmill 0) cA ad b1 σM0) ++ gws 7 5 (shmill 0) cA ad b2 σM0) ++ gws 12 4 (shmill 0) cA ad b3 σM0)) := hD
  refine lv_iinc (v := 1) (lv' := [(1, .int 1), (0, .ref h0)]) hx hb dX6_init_99 hl (k := 0) rfl (by decide) (by decide) rfl (fun ls hl => ?_)
  refine lv_goto (tgt := 86) hx hb dX6_init_102 (by decide) ?_
  refine lv_iload_n hx hb dX6_init_86 rfl (lv_at hl 0 rfl) ?_
  refine lv_bipush (v := 8) hx hb dX6_init_87 (by decide) ?_
  refine lv_icmp_ge (tgt := 105) hx hb dX6_init_89 (by decide) (fun c9 => absurd c9 (by decide)) (fun _ => ?_)
  refine lv_aload_n hx hb dX6_init_92 rfl (lv_at hl 1 rfl) ?_
  refine c_get (F := [(h0, .inr (8, [.ref n1, .ref n2, .ref n3, .ref q1, .ref q2, .ref q3, .int 0])), (q1, .inl (cA 0, 3, .inl (upd (upd (upd (fun _ => 0) 0 1) 1 1) 2 1))), (q2, .inl (cA 0, 3, .inl (fun _ => 0))), (q3, .inl (cA 0, 8, .inl (upd (fun _ => 0) 0 3)))]) (B := (((([] : va_W) ++ gws 1 6 (shmill 0) cA ad b1 σM0) ++ gws 7 5 (shmill 0) cA ad b2 σM0) ++ gws 12 4 (shmill 0) cA ad b3 σM0)) (ci := 8) (v := .ref q3) G hP 0 5 i_X6 rfl rfl (by decide) q1_160 rfl dX6_init_93 ?_
  refine lv_iload_n hx hb dX6_init_96 rfl (lv_at hl 0 rfl) ?_
  refine lv_iconst (v := 3) hx hb dX6_init_97 (by decide) ?_
  refine c_iast (F := [(h0, .inr (8, [.ref n1, .ref n2, .ref n3, .ref q1, .ref q2, .ref q3, .int 0])), (q1, .inl (cA 0, 3, .inl (upd (upd (upd (fun _ => 0) 0 1) 1 1) 2 1))), (q2, .inl (cA 0, 3, .inl (fun _ => 0))), (q3, .inl (cA 0, 8, .inl (upd (fun _ => 0) 0 3)))]) (B := (((([] : va_W) ++ gws 1 6 (shmill 0) cA ad b1 σM0) ++ gws 7 5 (shmill 0) cA ad b2 σM0) ++ gws 12 4 (shmill 0) cA ad b3 σM0)) 1 rfl G hP hD hS 3 rfl (by unfold vp_in; decide) dX6_init_98 (fun H locs hP hD hS => ?_)
  have hP : va_P D vwCl ([(h0, .inr (8, [.ref n1, .ref n2, .ref n3, .ref q1, .ref q2, .ref q3, .int 0])), (q1, .inl (cA 0, 3, .inl (upd (upd (upd (fun _ => 0) 0 1) 1 1) 2 1))), (q2, .inl (cA 0, 3, .inl (fun _ => 0))), (q3, .inl (cA 0, 8, .inl (upd (upd (fun _ => 0) 0 3) 1 3)))] ++ (((([] : va_W) ++ gws 1 6 (shmill 0) cA ad b1 σM0) ++ gws 7 5 (shmill 0) cA ad b2 σM0) ++ gws 12 4 (shmill 0) cA ad b3 σM0)) H := hP
  have hD : va_D A ([(h0, .inr (8, [.ref n1, .ref n2, .ref n3, .ref q1, .ref q2, .ref q3, .int 0])), (q1, .inl (cA 0, 3, .inl (upd (upd (upd (fun _ => 0) 0 1) 1 1) 2 1))), (q2, .inl (cA 0, 3, .inl (fun _ => 0))), (q3, .inl (cA 0, 8, .inl (upd (upd (fun _ => 0) 0 3) 1 3)))] ++ (((([] : va_W) ++ gws 1 6 (shmill 0) cA ad b1 σM0) ++ gws 7 5 (shmill 0) cA ad b2 σM0) ++ gws 12 4 (shmill 0) cA ad b3 σM0)) := hD
  refine lv_iinc (v := 2) (lv' := [(1, .int 2), (0, .ref h0)]) hx hb dX6_init_99 hl (k := 0) rfl (by decide) (by decide) rfl (fun ls hl => ?_)
  refine lv_goto (tgt := 86) hx hb dX6_init_102 (by decide) ?_
  refine lv_iload_n hx hb dX6_init_86 rfl (lv_at hl 0 rfl) ?_
  refine lv_bipush (v := 8) hx hb dX6_init_87 (by decide) ?_
  refine lv_icmp_ge (tgt := 105) hx hb dX6_init_89 (by decide) (fun c9 => absurd c9 (by decide)) (fun _ => ?_)
  refine lv_aload_n hx hb dX6_init_92 rfl (lv_at hl 1 rfl) ?_
  refine c_get (F := [(h0, .inr (8, [.ref n1, .ref n2, .ref n3, .ref q1, .ref q2, .ref q3, .int 0])), (q1, .inl (cA 0, 3, .inl (upd (upd (upd (fun _ => 0) 0 1) 1 1) 2 1))), (q2, .inl (cA 0, 3, .inl (fun _ => 0))), (q3, .inl (cA 0, 8, .inl (upd (upd (fun _ => 0) 0 3) 1 3)))]) (B := (((([] : va_W) ++ gws 1 6 (shmill 0) cA ad b1 σM0) ++ gws 7 5 (shmill 0) cA ad b2 σM0) ++ gws 12 4 (shmill 0) cA ad b3 σM0)) (ci := 8) (v := .ref q3) G hP 0 5 i_X6 rfl rfl (by decide) q1_160 rfl dX6_init_93 ?_
  refine lv_iload_n hx hb dX6_init_96 rfl (lv_at hl 0 rfl) ?_
  refine lv_iconst (v := 3) hx hb dX6_init_97 (by decide) ?_
  refine c_iast (F := [(h0, .inr (8, [.ref n1, .ref n2, .ref n3, .ref q1, .ref q2, .ref q3, .int 0])), (q1, .inl (cA 0, 3, .inl (upd (upd (upd (fun _ => 0) 0 1) 1 1) 2 1))), (q2, .inl (cA 0, 3, .inl (fun _ => 0))), (q3, .inl (cA 0, 8, .inl (upd (upd (fun _ => 0) 0 3) 1 3)))]) (B := (((([] : va_W) ++ gws 1 6 (shmill 0) cA ad b1 σM0) ++ gws 7 5 (shmill 0) cA ad b2 σM0) ++ gws 12 4 (shmill 0) cA ad b3 σM0)) 2 rfl G hP hD hS 3 rfl (by unfold vp_in; decide) dX6_init_98 (fun H locs hP hD hS => ?_)
  have hP : va_P D vwCl ([(h0, .inr (8, [.ref n1, .ref n2, .ref n3, .ref q1, .ref q2, .ref q3, .int 0])), (q1, .inl (cA 0, 3, .inl (upd (upd (upd (fun _ => 0) 0 1) 1 1) 2 1))), (q2, .inl (cA 0, 3, .inl (fun _ => 0))), (q3, .inl (cA 0, 8, .inl (upd (upd (upd (fun _ => 0) 0 3) 1 3) 2 3)))] ++ (((([] : va_W) ++ gws 1 6 (shmill 0) cA ad b1 σM0) ++ gws 7 5 (shmill 0) cA ad b2 σM0) ++ gws 12 4 (shmill 0) cA ad b3 σM0)) H := hP
  have hD : va_D A ([(h0, .inr (8, [.ref n1, .ref n2, .ref n3, .ref q1, .ref q2, .ref q3, .int 0])), (q1, .inl (cA 0, 3, .inl (upd (upd (upd (fun _ => 0) 0 1) 1 1) 2 1))), (q2, .inl (cA 0, 3, .inl (fun _ => 0))), (q3, .inl (cA 0, 8, .inl (upd (upd (upd (fun _ => 0) 0 3) 1 3) 2 3)))] ++ (((([] : va_W) ++ gws 1 6 (shmill 0) cA ad b1 σM0) ++ gws 7 5 (shmill 0) cA ad b2 σM0) ++ gws 12 4 (shmill 0) cA ad b3 σM0)) := hD
  refine lv_iinc (v := 3) (lv' := [(1, .int 3), (0, .ref h0)]) hx hb dX6_init_99 hl (k := 0) rfl (by decide) (by decide) rfl (fun ls hl => ?_)
  refine lv_goto (tgt := 86) hx hb dX6_init_102 (by decide) ?_
  refine lv_iload_n hx hb dX6_init_86 rfl (lv_at hl 0 rfl) ?_
  refine lv_bipush (v := 8) hx hb dX6_init_87 (by decide) ?_
  refine lv_icmp_ge (tgt := 105) hx hb dX6_init_89 (by decide) (fun c9 => absurd c9 (by decide)) (fun _ => ?_)
  refine lv_aload_n hx hb dX6_init_92 rfl (lv_at hl 1 rfl) ?_
  refine c_get (F := [(h0, .inr (8, [.ref n1, .ref n2, .ref n3, .ref q1, .ref q2, .ref q3, .int 0])), (q1, .inl (cA 0, 3, .inl (upd (upd (upd (fun _ => 0) 0 1) 1 1) 2 1))), (q2, .inl (cA 0, 3, .inl (fun _ => 0))), (q3, .inl (cA 0, 8, .inl (upd (upd (upd (fun _ => 0) 0 3) 1 3) 2 3)))]) (B := (((([] : va_W) ++ gws 1 6 (shmill 0) cA ad b1 σM0) ++ gws 7 5 (shmill 0) cA ad b2 σM0) ++ gws 12 4 (shmill 0) cA ad b3 σM0)) (ci := 8) (v := .ref q3) G hP 0 5 i_X6 rfl rfl (by decide) q1_160 rfl dX6_init_93 ?_
  refine lv_iload_n hx hb dX6_init_96 rfl (lv_at hl 0 rfl) ?_
  refine lv_iconst (v := 3) hx hb dX6_init_97 (by decide) ?_
  refine c_iast (F := [(h0, .inr (8, [.ref n1, .ref n2, .ref n3, .ref q1, .ref q2, .ref q3, .int 0])), (q1, .inl (cA 0, 3, .inl (upd (upd (upd (fun _ => 0) 0 1) 1 1) 2 1))), (q2, .inl (cA 0, 3, .inl (fun _ => 0))), (q3, .inl (cA 0, 8, .inl (upd (upd (upd (fun _ => 0) 0 3) 1 3) 2 3)))]) (B := (((([] : va_W) ++ gws 1 6 (shmill 0) cA ad b1 σM0) ++ gws 7 5 (shmill 0) cA ad b2 σM0) ++ gws 12 4 (shmill 0) cA ad b3 σM0)) 3 rfl G hP hD hS 3 rfl (by unfold vp_in; decide) dX6_init_98 (fun H locs hP hD hS => ?_)
  have hP : va_P D vwCl ([(h0, .inr (8, [.ref n1, .ref n2, .ref n3, .ref q1, .ref q2, .ref q3, .int 0])), (q1, .inl (cA 0, 3, .inl (upd (upd (upd (fun _ => 0) 0 1) 1 1) 2 1))), (q2, .inl (cA 0, 3, .inl (fun _ => 0))), (q3, .inl (cA 0, 8, .inl (upd (upd (upd (upd (fun _ => 0) 0 3) 1 3) 2 3) 3 3)))] ++ (((([] : va_W) ++ gws 1 6 (shmill 0) cA ad b1 σM0) ++ gws 7 5 (shmill 0) cA ad b2 σM0) ++ gws 12 4 (shmill 0) cA ad b3 σM0)) H := hP
  have hD : va_D A ([(h0, .inr (8, [.ref n1, .ref n2, .ref n3, .ref q1, .ref q2, .ref q3, .int 0])), (q1, .inl (cA 0, 3, .inl (upd (upd (upd (fun _ => 0) 0 1) 1 1) 2 1))), (q2, .inl (cA 0, 3, .inl (fun _ => 0))), (q3, .inl (cA 0, 8, .inl (upd (upd (upd (upd (fun _ => 0) 0 3) 1 3) 2 3) 3 3)))] ++ (((([] : va_W) ++ gws 1 6 (shmill 0) cA ad b1 σM0) ++ gws 7 5 (shmill 0) cA ad b2 σM0) ++ gws 12 4 (shmill 0) cA ad b3 σM0)) := hD
  refine lv_iinc (v := 4) (lv' := [(1, .int 4), (0, .ref h0)]) hx hb dX6_init_99 hl (k := 0) rfl (by decide) (by decide) rfl (fun ls hl => ?_)
  refine lv_goto (tgt := 86) hx hb dX6_init_102 (by decide) ?_
  refine lv_iload_n hx hb dX6_init_86 rfl (lv_at hl 0 rfl) ?_
  refine lv_bipush (v := 8) hx hb dX6_init_87 (by decide) ?_
  refine lv_icmp_ge (tgt := 105) hx hb dX6_init_89 (by decide) (fun c9 => absurd c9 (by decide)) (fun _ => ?_)
  refine lv_aload_n hx hb dX6_init_92 rfl (lv_at hl 1 rfl) ?_
  refine c_get (F := [(h0, .inr (8, [.ref n1, .ref n2, .ref n3, .ref q1, .ref q2, .ref q3, .int 0])), (q1, .inl (cA 0, 3, .inl (upd (upd (upd (fun _ => 0) 0 1) 1 1) 2 1))), (q2, .inl (cA 0, 3, .inl (fun _ => 0))), (q3, .inl (cA 0, 8, .inl (upd (upd (upd (upd (fun _ => 0) 0 3) 1 3) 2 3) 3 3)))]) (B := (((([] : va_W) ++ gws 1 6 (shmill 0) cA ad b1 σM0) ++ gws 7 5 (shmill 0) cA ad b2 σM0) ++ gws 12 4 (shmill 0) cA ad b3 σM0)) (ci := 8) (v := .ref q3) G hP 0 5 i_X6 rfl rfl (by decide) q1_160 rfl dX6_init_93 ?_
  refine lv_iload_n hx hb dX6_init_96 rfl (lv_at hl 0 rfl) ?_
  refine lv_iconst (v := 3) hx hb dX6_init_97 (by decide) ?_
  refine c_iast (F := [(h0, .inr (8, [.ref n1, .ref n2, .ref n3, .ref q1, .ref q2, .ref q3, .int 0])), (q1, .inl (cA 0, 3, .inl (upd (upd (upd (fun _ => 0) 0 1) 1 1) 2 1))), (q2, .inl (cA 0, 3, .inl (fun _ => 0))), (q3, .inl (cA 0, 8, .inl (upd (upd (upd (upd (fun _ => 0) 0 3) 1 3) 2 3) 3 3)))]) (B := (((([] : va_W) ++ gws 1 6 (shmill 0) cA ad b1 σM0) ++ gws 7 5 (shmill 0) cA ad b2 σM0) ++ gws 12 4 (shmill 0) cA ad b3 σM0)) 4 rfl G hP hD hS 3 rfl (by unfold vp_in; decide) dX6_init_98 (fun H locs hP hD hS => ?_)
  have hP : va_P D vwCl ([(h0, .inr (8, [.ref n1, .ref n2, .ref n3, .ref q1, .ref q2, .ref q3, .int 0])), (q1, .inl (cA 0, 3, .inl (upd (upd (upd (fun _ => 0) 0 1) 1 1) 2 1))), (q2, .inl (cA 0, 3, .inl (fun _ => 0))), (q3, .inl (cA 0, 8, .inl (upd (upd (upd (upd (upd (fun _ => 0) 0 3) 1 3) 2 3) 3 3) 4 3)))] ++ (((([] : va_W) ++ gws 1 6 (shmill 0) cA ad b1 σM0) ++ gws 7 5 (shmill 0) cA ad b2 σM0) ++ gws 12 4 (shmill 0) cA ad b3 σM0)) H := hP
  have hD : va_D A ([(h0, .inr (8, [.ref n1, .ref n2, .ref n3, .ref q1, .ref q2, .ref q3, .int 0])), (q1, .inl (cA 0, 3, .inl (upd (upd (upd (fun _ => 0) 0 1) 1 1) 2 1))), (q2, .inl (cA 0, 3, .inl (fun _ => 0))), (q3, .inl (cA 0, 8, .inl (upd (upd (upd (upd (upd (fun _ => 0) 0 3) 1 3) 2 3) 3 3) 4 3)))] ++ (((([] : va_W) ++ gws 1 6 (shmill 0) cA ad b1 σM0) ++ gws 7 5 (shmill 0) cA ad b2 σM0) ++ gws 12 4 (shmill 0) cA ad b3 σM0)) := hD
  refine lv_iinc (v := 5) (lv' := [(1, .int 5), (0, .ref h0)]) hx hb dX6_init_99 hl (k := 0) rfl (by decide) (by decide) rfl (fun ls hl => ?_)
  refine lv_goto (tgt := 86) hx hb dX6_init_102 (by decide) ?_
  refine lv_iload_n hx hb dX6_init_86 rfl (lv_at hl 0 rfl) ?_
  refine lv_bipush (v := 8) hx hb dX6_init_87 (by decide) ?_
  refine lv_icmp_ge (tgt := 105) hx hb dX6_init_89 (by decide) (fun c9 => absurd c9 (by decide)) (fun _ => ?_)
  refine lv_aload_n hx hb dX6_init_92 rfl (lv_at hl 1 rfl) ?_
  refine c_get (F := [(h0, .inr (8, [.ref n1, .ref n2, .ref n3, .ref q1, .ref q2, .ref q3, .int 0])), (q1, .inl (cA 0, 3, .inl (upd (upd (upd (fun _ => 0) 0 1) 1 1) 2 1))), (q2, .inl (cA 0, 3, .inl (fun _ => 0))), (q3, .inl (cA 0, 8, .inl (upd (upd (upd (upd (upd (fun _ => 0) 0 3) 1 3) 2 3) 3 3) 4 3)))]) (B := (((([] : va_W) ++ gws 1 6 (shmill 0) cA ad b1 σM0) ++ gws 7 5 (shmill 0) cA ad b2 σM0) ++ gws 12 4 (shmill 0) cA ad b3 σM0)) (ci := 8) (v := .ref q3) G hP 0 5 i_X6 rfl rfl (by decide) q1_160 rfl dX6_init_93 ?_
  refine lv_iload_n hx hb dX6_init_96 rfl (lv_at hl 0 rfl) ?_
  refine lv_iconst (v := 3) hx hb dX6_init_97 (by decide) ?_
  refine c_iast (F := [(h0, .inr (8, [.ref n1, .ref n2, .ref n3, .ref q1, .ref q2, .ref q3, .int 0])), (q1, .inl (cA 0, 3, .inl (upd (upd (upd (fun _ => 0) 0 1) 1 1) 2 1))), (q2, .inl (cA 0, 3, .inl (fun _ => 0))), (q3, .inl (cA 0, 8, .inl (upd (upd (upd (upd (upd (fun _ => 0) 0 3) 1 3) 2 3) 3 3) 4 3)))]) (B := (((([] : va_W) ++ gws 1 6 (shmill 0) cA ad b1 σM0) ++ gws 7 5 (shmill 0) cA ad b2 σM0) ++ gws 12 4 (shmill 0) cA ad b3 σM0)) 5 rfl G hP hD hS 3 rfl (by unfold vp_in; decide) dX6_init_98 (fun H locs hP hD hS => ?_)
  have hP : va_P D vwCl ([(h0, .inr (8, [.ref n1, .ref n2, .ref n3, .ref q1, .ref q2, .ref q3, .int 0])), (q1, .inl (cA 0, 3, .inl (upd (upd (upd (fun _ => 0) 0 1) 1 1) 2 1))), (q2, .inl (cA 0, 3, .inl (fun _ => 0))), (q3, .inl (cA 0, 8, .inl (upd (upd (upd (upd (upd (upd (fun _ => 0) 0 3) 1 3) 2 3) 3 3) 4 3) 5 3)))] ++ (((([] : va_W) ++ gws 1 6 (shmill 0) cA ad b1 σM0) ++ gws 7 5 (shmill 0) cA ad b2 σM0) ++ gws 12 4 (shmill 0) cA ad b3 σM0)) H := hP
  have hD : va_D A ([(h0, .inr (8, [.ref n1, .ref n2, .ref n3, .ref q1, .ref q2, .ref q3, .int 0])), (q1, .inl (cA 0, 3, .inl (upd (upd (upd (fun _ => 0) 0 1) 1 1) 2 1))), (q2, .inl (cA 0, 3, .inl (fun _ => 0))), (q3, .inl (cA 0, 8, .inl (upd (upd (upd (upd (upd (upd (fun _ => 0) 0 3) 1 3) 2 3) 3 3) 4 3) 5 3)))] ++ (((([] : va_W) ++ gws 1 6 (shmill 0) cA ad b1 σM0) ++ gws 7 5 (shmill 0) cA ad b2 σM0) ++ gws 12 4 (shmill 0) cA ad b3 σM0)) := hD
  refine lv_iinc (v := 6) (lv' := [(1, .int 6), (0, .ref h0)]) hx hb dX6_init_99 hl (k := 0) rfl (by decide) (by decide) rfl (fun ls hl => ?_)
  refine lv_goto (tgt := 86) hx hb dX6_init_102 (by decide) ?_
  refine lv_iload_n hx hb dX6_init_86 rfl (lv_at hl 0 rfl) ?_
  refine lv_bipush (v := 8) hx hb dX6_init_87 (by decide) ?_
  refine lv_icmp_ge (tgt := 105) hx hb dX6_init_89 (by decide) (fun c9 => absurd c9 (by decide)) (fun _ => ?_)
  refine lv_aload_n hx hb dX6_init_92 rfl (lv_at hl 1 rfl) ?_
  refine c_get (F := [(h0, .inr (8, [.ref n1, .ref n2, .ref n3, .ref q1, .ref q2, .ref q3, .int 0])), (q1, .inl (cA 0, 3, .inl (upd (upd (upd (fun _ => 0) 0 1) 1 1) 2 1))), (q2, .inl (cA 0, 3, .inl (fun _ => 0))), (q3, .inl (cA 0, 8, .inl (upd (upd (upd (upd (upd (upd (fun _ => 0) 0 3) 1 3) 2 3) 3 3) 4 3) 5 3)))]) (B := (((([] : va_W) ++ gws 1 6 (shmill 0) cA ad b1 σM0) ++ gws 7 5 (shmill 0) cA ad b2 σM0) ++ gws 12 4 (shmill 0) cA ad b3 σM0)) (ci := 8) (v := .ref q3) G hP 0 5 i_X6 rfl rfl (by decide) q1_160 rfl dX6_init_93 ?_
  refine lv_iload_n hx hb dX6_init_96 rfl (lv_at hl 0 rfl) ?_
  refine lv_iconst (v := 3) hx hb dX6_init_97 (by decide) ?_
  refine c_iast (F := [(h0, .inr (8, [.ref n1, .ref n2, .ref n3, .ref q1, .ref q2, .ref q3, .int 0])), (q1, .inl (cA 0, 3, .inl (upd (upd (upd (fun _ => 0) 0 1) 1 1) 2 1))), (q2, .inl (cA 0, 3, .inl (fun _ => 0))), (q3, .inl (cA 0, 8, .inl (upd (upd (upd (upd (upd (upd (fun _ => 0) 0 3) 1 3) 2 3) 3 3) 4 3) 5 3)))]) (B := (((([] : va_W) ++ gws 1 6 (shmill 0) cA ad b1 σM0) ++ gws 7 5 (shmill 0) cA ad b2 σM0) ++ gws 12 4 (shmill 0) cA ad b3 σM0)) 6 rfl G hP hD hS 3 rfl (by unfold vp_in; decide) dX6_init_98 (fun H locs hP hD hS => ?_)
  have hP : va_P D vwCl ([(h0, .inr (8, [.ref n1, .ref n2, .ref n3, .ref q1, .ref q2, .ref q3, .int 0])), (q1, .inl (cA 0, 3, .inl (upd (upd (upd (fun _ => 0) 0 1) 1 1) 2 1))), (q2, .inl (cA 0, 3, .inl (fun _ => 0))), (q3, .inl (cA 0, 8, .inl (upd (upd (upd (upd (upd (upd (upd (fun _ => 0) 0 3) 1 3) 2 3) 3 3) 4 3) 5 3) 6 3)))] ++ (((([] : va_W) ++ gws 1 6 (shmill 0) cA ad b1 σM0) ++ gws 7 5 (shmill 0) cA ad b2 σM0) ++ gws 12 4 (shmill 0) cA ad b3 σM0)) H := hP
  have hD : va_D A ([(h0, .inr (8, [.ref n1, .ref n2, .ref n3, .ref q1, .ref q2, .ref q3, .int 0])), (q1, .inl (cA 0, 3, .inl (upd (upd (upd (fun _ => 0) 0 1) 1 1) 2 1))), (q2, .inl (cA 0, 3, .inl (fun _ => 0))), (q3, .inl (cA 0, 8, .inl (upd (upd (upd (upd (upd (upd (upd (fun _ => 0) 0 3) 1 3) 2 3) 3 3) 4 3) 5 3) 6 3)))] ++ (((([] : va_W) ++ gws 1 6 (shmill 0) cA ad b1 σM0) ++ gws 7 5 (shmill 0) cA ad b2 σM0) ++ gws 12 4 (shmill 0) cA ad b3 σM0)) := hD
  refine lv_iinc (v := 7) (lv' := [(1, .int 7), (0, .ref h0)]) hx hb dX6_init_99 hl (k := 0) rfl (by decide) (by decide) rfl (fun ls hl => ?_)
  refine lv_goto (tgt := 86) hx hb dX6_init_102 (by decide) ?_
  refine lv_iload_n hx hb dX6_init_86 rfl (lv_at hl 0 rfl) ?_
  refine lv_bipush (v := 8) hx hb dX6_init_87 (by decide) ?_
  refine lv_icmp_ge (tgt := 105) hx hb dX6_init_89 (by decide) (fun c9 => absurd c9 (by decide)) (fun _ => ?_)
  refine lv_aload_n hx hb dX6_init_92 rfl (lv_at hl 1 rfl) ?_
  refine c_get (F := [(h0, .inr (8, [.ref n1, .ref n2, .ref n3, .ref q1, .ref q2, .ref q3, .int 0])), (q1, .inl (cA 0, 3, .inl (upd (upd (upd (fun _ => 0) 0 1) 1 1) 2 1))), (q2, .inl (cA 0, 3, .inl (fun _ => 0))), (q3, .inl (cA 0, 8, .inl (upd (upd (upd (upd (upd (upd (upd (fun _ => 0) 0 3) 1 3) 2 3) 3 3) 4 3) 5 3) 6 3)))]) (B := (((([] : va_W) ++ gws 1 6 (shmill 0) cA ad b1 σM0) ++ gws 7 5 (shmill 0) cA ad b2 σM0) ++ gws 12 4 (shmill 0) cA ad b3 σM0)) (ci := 8) (v := .ref q3) G hP 0 5 i_X6 rfl rfl (by decide) q1_160 rfl dX6_init_93 ?_
  refine lv_iload_n hx hb dX6_init_96 rfl (lv_at hl 0 rfl) ?_
  refine lv_iconst (v := 3) hx hb dX6_init_97 (by decide) ?_
  refine c_iast (F := [(h0, .inr (8, [.ref n1, .ref n2, .ref n3, .ref q1, .ref q2, .ref q3, .int 0])), (q1, .inl (cA 0, 3, .inl (upd (upd (upd (fun _ => 0) 0 1) 1 1) 2 1))), (q2, .inl (cA 0, 3, .inl (fun _ => 0))), (q3, .inl (cA 0, 8, .inl (upd (upd (upd (upd (upd (upd (upd (fun _ => 0) 0 3) 1 3) 2 3) 3 3) 4 3) 5 3) 6 3)))]) (B := (((([] : va_W) ++ gws 1 6 (shmill 0) cA ad b1 σM0) ++ gws 7 5 (shmill 0) cA ad b2 σM0) ++ gws 12 4 (shmill 0) cA ad b3 σM0)) 7 rfl G hP hD hS 3 rfl (by unfold vp_in; decide) dX6_init_98 (fun H locs hP hD hS => ?_)
  have hP : va_P D vwCl ([(h0, .inr (8, [.ref n1, .ref n2, .ref n3, .ref q1, .ref q2, .ref q3, .int 0])), (q1, .inl (cA 0, 3, .inl (upd (upd (upd (fun _ => 0) 0 1) 1 1) 2 1))), (q2, .inl (cA 0, 3, .inl (fun _ => 0))), (q3, .inl (cA 0, 8, .inl (upd (upd (upd (upd (upd (upd (upd (upd (fun _ => 0) 0 3) 1 3) 2 3) 3 3) 4 3) 5 3) 6 3) 7 3)))] ++ (((([] : va_W) ++ gws 1 6 (shmill 0) cA ad b1 σM0) ++ gws 7 5 (shmill 0) cA ad b2 σM0) ++ gws 12 4 (shmill 0) cA ad b3 σM0)) H := hP
  have hD : va_D A ([(h0, .inr (8, [.ref n1, .ref n2, .ref n3, .ref q1, .ref q2, .ref q3, .int 0])), (q1, .inl (cA 0, 3, .inl (upd (upd (upd (fun _ => 0) 0 1) 1 1) 2 1))), (q2, .inl (cA 0, 3, .inl (fun _ => 0))), (q3, .inl (cA 0, 8, .inl (upd (upd (upd (upd (upd (upd (upd (upd (fun _ => 0) 0 3) 1 3) 2 3) 3 3) 4 3) 5 3) 6 3) 7 3)))] ++ (((([] : va_W) ++ gws 1 6 (shmill 0) cA ad b1 σM0) ++ gws 7 5 (shmill 0) cA ad b2 σM0) ++ gws 12 4 (shmill 0) cA ad b3 σM0)) := hD
  refine lv_iinc (v := 8) (lv' := [(1, .int 8), (0, .ref h0)]) hx hb dX6_init_99 hl (k := 0) rfl (by decide) (by decide) rfl (fun ls hl => ?_)
  refine lv_goto (tgt := 86) hx hb dX6_init_102 (by decide) ?_
  refine lv_iload_n hx hb dX6_init_86 rfl (lv_at hl 0 rfl) ?_
  refine lv_bipush (v := 8) hx hb dX6_init_87 (by decide) ?_
  refine lv_icmp_ge (tgt := 105) hx hb dX6_init_89 (by decide) (fun _ => ?_) (fun c9 => absurd (by decide) c9)
  have hp9 : List.Perm (α := Nat × va_E) ([(h0, .inr (8, [.ref n1, .ref n2, .ref n3, .ref q1, .ref q2, .ref q3, .int 0])), (q1, .inl (cA 0, 3, .inl (upd (upd (upd (fun _ => 0) 0 1) 1 1) 2 1))), (q2, .inl (cA 0, 3, .inl (fun _ => 0))), (q3, .inl (cA 0, 8, .inl (upd (upd (upd (upd (upd (upd (upd (upd (fun _ => 0) 0 3) 1 3) 2 3) 3 3) 4 3) 5 3) 6 3) 7 3)))] ++ (((([] : va_W) ++ gws 1 6 (shmill 0) cA ad b1 σM0) ++ gws 7 5 (shmill 0) cA ad b2 σM0) ++ gws 12 4 (shmill 0) cA ad b3 σM0)) (gws 0 19 (shmill 0) cA ad (fun k => if k = 0 then h0 else if k < 7 then b1 k else if k < 12 then b2 k else if k < 16 then b3 k else if k = 16 then q1 else if k = 17 then q2 else q3) σM0) := by
    rw [← hokb1, ← hokb2, ← hokb3]
    refine List.Perm.trans (List.Perm.append_left [(h0, .inr (8, [.ref (b1 1), .ref (b2 7), .ref (b3 12), .ref q1, .ref q2, .ref q3, .int 0]))] (List.perm_append_comm (l₁ := [(q1, .inl (cA 0, 3, .inl (upd (upd (upd (fun _ => 0) 0 1) 1 1) 2 1))), (q2, .inl (cA 0, 3, .inl (fun _ => 0))), (q3, .inl (cA 0, 8, .inl (upd (upd (upd (upd (upd (upd (upd (upd (fun _ => 0) 0 3) 1 3) 2 3) 3 3) 4 3) 5 3) 6 3) 7 3)))]) (l₂ := (((([] : va_W) ++ gws 1 6 (shmill 0) cA ad b1 σM0) ++ gws 7 5 (shmill 0) cA ad b2 σM0) ++ gws 12 4 (shmill 0) cA ad b3 σM0)))) ?_
    exact List.Perm.of_eq rfl
  exact c_ret (Wb := fun b : Nat → Nat => gws 0 19 (shmill 0) cA ad b σM0) (fun k => if k = 0 then h0 else if k < 7 then b1 k else if k < 12 then b2 k else if k < 16 then b3 k else if k = 16 then q1 else if k = 17 then q2 else q3) rfl G (hP.perm hp9) (hD.perm hp9) hS (by decide) dX6_init_105
