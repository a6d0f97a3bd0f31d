def xcN : List String := ["java/lang/IllegalArgumentException", "java/lang/IndexOutOfBoundsException", "java/util/NoSuchElementException", "java/lang/IllegalStateException", "java/lang/UnsupportedOperationException", "java/lang/ArithmeticException"]
/-- an exception class, by its code: 1, 2, .. -/
def xcls (c : Nat) : String := xcN.getD (c - 1) ""
abbrev xw1 : List Cond := vx_atS RX11 274 "java/lang/IllegalArgumentException" ["java/lang/RuntimeException", "java/lang/Exception"]
theorem xg1 : (xw1.filter goodWord).all (fun w => decide (w ∈ lw_tbl)) = true := by decide +kernel
abbrev xw2 : List Cond := vx_atS RX11 343 "java/lang/IndexOutOfBoundsException" ["java/lang/RuntimeException", "java/lang/Exception"]
theorem xg2 : (xw2.filter goodWord).all (fun w => decide (w ∈ lw_tbl)) = true := by decide +kernel
abbrev xw3 : List Cond := nseS RX11 142
theorem xg3 : (xw3.filter goodWord).all (fun w => decide (w ∈ lw_tbl)) = true := by decide +kernel
abbrev xw4 : List Cond := vx_atS RX11 160 "java/lang/IllegalStateException" ["java/lang/RuntimeException", "java/lang/Exception"]
theorem xg4 : (xw4.filter goodWord).all (fun w => decide (w ∈ lw_tbl)) = true := by decide +kernel
abbrev xw5 : List Cond := vx_atS RX11 412 "java/lang/UnsupportedOperationException" ["java/lang/RuntimeException", "java/lang/Exception"]
theorem xg5 : (xw5.filter goodWord).all (fun w => decide (w ∈ lw_tbl)) = true := by decide +kernel
abbrev xw6 : List Cond := vx_atS RX11 307 "java/lang/ArithmeticException" ["java/lang/RuntimeException", "java/lang/Exception"]
theorem xg6 : (xw6.filter goodWord).all (fun w => decide (w ∈ lw_tbl)) = true := by decide +kernel
def XL : List Cond := xw1.filter (fun w => !goodWord w) ++ (xw2.filter (fun w => !goodWord w) ++ (xw3.filter (fun w => !goodWord w) ++ (xw4.filter (fun w => !goodWord w) ++ (xw5.filter (fun w => !goodWord w) ++ (xw6.filter (fun w => !goodWord w))))))
def kd (w : Cond) : Bool := match w with | .castable .. => true | .declares _ => true | _ => false
theorem XL_kd : XL.all kd = true := by decide +kernel
theorem XL_tbl : XL.all (fun w => decide (w ∈ lw_tbl)) = true := by decide +kernel
def STRS : List (Nat × String) := [(140, "no such rank"), (158, "the noise is on a wheel"), (176, "the noise waits"), (188, "the wheel holds no noise"), (272, "steps must be from 0 to 60"), (305, "no noise waits"), (348, "the character code must be from 32 to 126"), (353, "the script buffer has 60 characters"), (367, "the script does not have the required form"), (372, "a command failed"), (377, "there was no such script"), (380, "there is nothing to undo"), (385, "there is no snapshot"), (400, "an argument is out of its range"), (402, "no such wheel"), (404, "no such noise"), (406, "the state does not allow this"), (410, "there are fewer full sacks"), (419, "no such band"), (424, "no such grade"), (429, "no such noise in the log"), (431, "this does not happen")]
theorem nw_warm {w : Cond} {s U : State} (hk : kd w = true) (hW : s.WarmedH U.vm) (h : va_Nw w s) : va_Nw w U := by
  cases w <;> first | exact h.warmC hW | exact h.warmD hW | cases hk
theorem nw_use {w : Cond} {s : State} {args : Array Value} (hk : kd w = true) (h : va_Nw w s) : w.before args s = true := by
  cases w <;> first | exact va_Nw.use rfl h | cases hk
theorem nw_of {w : Cond} {s : State} {args : Array Value} (hk : kd w = true) (h : w.before args s = true) : va_Nw w s := by
  cases w <;> first | exact va_Nw.of rfl h | cases hk
theorem nw_same {w : Cond} {s U : State} (hk : kd w = true) (hv : s.vm = U.vm) (h : va_Nw w s) : va_Nw w U := by
  cases w <;> first | exact va_Nw.same rfl hv h | cases hk
/-- what a throw asks of the state -/
def XF (A : Nat → Prop) (U : State) : Prop := (∀ w ∈ XL, va_Nw w U) ∧ vx_Zq Bundle.tN "UNASSIGNED_STACK" Bundle.steD A U U.heap ∧ vx_Zq Bundle.tN "SUPPRESSED_SENTINEL" Bundle.listD A U U.heap ∧ ∀ q ∈ STRS, ∃ sa : Nat, vk_R RX11 q.1 q.2 sa U
def STX (ST : gST) : Prop := ∀ (A : Nat → Prop) (U : State), ST A U → XF A U
theorem x_at {XW : List Cond} {args : Array Value} {s : State} (hts : ∀ w ∈ BIG, w.before args s = true) (hXL : ∀ w ∈ XL, va_Nw w s) (h1 : (XW.filter goodWord).all (fun w => decide (w ∈ lw_tbl)) = true) (h2 : ∀ w ∈ XW.filter (fun w => !goodWord w), w ∈ XL) : ∀ w ∈ XW, w.before args s = true := by
  refine vx_hat (B := XL) (fun w hw => hts w (big_in (of_decide_eq_true (List.all_eq_true.mp h1 w hw)) (List.mem_filter.mp hw).2)) h2 (fun w hw => nw_use (List.all_eq_true.mp XL_kd w hw) (hXL w hw))
theorem xl1 : ∀ w ∈ xw1.filter (fun w => !goodWord w), w ∈ XL := fun w h => (List.mem_append_left _ h)
theorem xo1 : ∀ w ∈ Cond.classLink RX11 270 "java/lang/IllegalArgumentException" :: Cond.initialized "java/lang/IllegalArgumentException" :: xw1, vx_ot w = true := by
  have h : (Cond.classLink RX11 270 "java/lang/IllegalArgumentException" :: Cond.initialized "java/lang/IllegalArgumentException" :: xw1).all vx_ot = true := by decide +kernel
  exact fun w hw => List.all_eq_true.mp h w hw
theorem xl2 : ∀ w ∈ xw2.filter (fun w => !goodWord w), w ∈ XL := fun w h => (List.mem_append_right _ (List.mem_append_left _ h))
theorem xo2 : ∀ w ∈ Cond.classLink RX11 339 "java/lang/IndexOutOfBoundsException" :: Cond.initialized "java/lang/IndexOutOfBoundsException" :: xw2, vx_ot w = true := by
  have h : (Cond.classLink RX11 339 "java/lang/IndexOutOfBoundsException" :: Cond.initialized "java/lang/IndexOutOfBoundsException" :: xw2).all vx_ot = true := by decide +kernel
  exact fun w hw => List.all_eq_true.mp h w hw
theorem xl3 : ∀ w ∈ xw3.filter (fun w => !goodWord w), w ∈ XL := fun w h => (List.mem_append_right _ (List.mem_append_right _ (List.mem_append_left _ h)))
theorem xo3 : ∀ w ∈ Cond.classLink RX11 138 "java/util/NoSuchElementException" :: Cond.initialized "java/util/NoSuchElementException" :: xw3, vx_ot w = true := by
  have h : (Cond.classLink RX11 138 "java/util/NoSuchElementException" :: Cond.initialized "java/util/NoSuchElementException" :: xw3).all vx_ot = true := by decide +kernel
  exact fun w hw => List.all_eq_true.mp h w hw
theorem xl4 : ∀ w ∈ xw4.filter (fun w => !goodWord w), w ∈ XL := fun w h => (List.mem_append_right _ (List.mem_append_right _ (List.mem_append_right _ (List.mem_append_left _ h))))
theorem xo4 : ∀ w ∈ Cond.classLink RX11 156 "java/lang/IllegalStateException" :: Cond.initialized "java/lang/IllegalStateException" :: xw4, vx_ot w = true := by
  have h : (Cond.classLink RX11 156 "java/lang/IllegalStateException" :: Cond.initialized "java/lang/IllegalStateException" :: xw4).all vx_ot = true := by decide +kernel
  exact fun w hw => List.all_eq_true.mp h w hw
theorem xl5 : ∀ w ∈ xw5.filter (fun w => !goodWord w), w ∈ XL := fun w h => (List.mem_append_right _ (List.mem_append_right _ (List.mem_append_right _ (List.mem_append_right _ (List.mem_append_left _ h)))))
theorem xo5 : ∀ w ∈ Cond.classLink RX11 408 "java/lang/UnsupportedOperationException" :: Cond.initialized "java/lang/UnsupportedOperationException" :: xw5, vx_ot w = true := by
  have h : (Cond.classLink RX11 408 "java/lang/UnsupportedOperationException" :: Cond.initialized "java/lang/UnsupportedOperationException" :: xw5).all vx_ot = true := by decide +kernel
  exact fun w hw => List.all_eq_true.mp h w hw
theorem xl6 : ∀ w ∈ xw6.filter (fun w => !goodWord w), w ∈ XL := fun w h => (List.mem_append_right _ (List.mem_append_right _ (List.mem_append_right _ (List.mem_append_right _ (List.mem_append_right _ h)))))
theorem xo6 : ∀ w ∈ Cond.classLink RX11 303 "java/lang/ArithmeticException" :: Cond.initialized "java/lang/ArithmeticException" :: xw6, vx_ot w = true := by
  have h : (Cond.classLink RX11 303 "java/lang/ArithmeticException" :: Cond.initialized "java/lang/ArithmeticException" :: xw6).all vx_ot = true := by decide +kernel
  exact fun w hw => List.all_eq_true.mp h w hw
-- ===== the pure side of a method that may throw: (0, v) it answers v; (c, _) it throws xcls c =====
def OX {α β : Type} (x : Option ((Nat × α) × St)) (d : β) (K : α → St → Option ((Nat × β) × St)) : Option ((Nat × β) × St) := match x with
  | none => none
  | some q => if q.1.1 = 0 then K q.1.2 q.2 else some ((q.1.1, d), q.2)
theorem ox_e {α β : Type} {x : Option ((Nat × α) × St)} {d : β} {K : α → St → Option ((Nat × β) × St)} {r : (Nat × β) × St} (h : OX x d K = some r) : ∃ (c : Nat) (v : α) (s : St), x = some ((c, v), s) ∧ (if c = 0 then K v s else some ((c, d), s)) = some r := by
  cases x with
  | none => cases h
  | some q => exact ⟨q.1.1, q.1.2, q.2, rfl, h⟩
abbrev RMX (n d : Nat) : Room := { frames := d, cells := n, slots := 6 * n, locals := 40 * d }
def gXC (D : va_G) (tys : List (ClassId × FieldType)) (A : Nat → Prop) (wd : St → va_W) (c : Nat) (σ' : St) : String → State → State → Prop :=
  vx_X (fun s1 => c ≠ 0 ∧ s1 = σ') (fun E s1 t => E = xcls c ∧ va_P D vwCl (wd s1) t.heap ∧ va_K D vwCl tys t ∧ va_D A (wd s1)) A
def gQxi (D : va_G) (tys : List (ClassId × FieldType)) (A : Nat → Prop) (wd : St → va_W) (c : Nat) (r : Int32) (σ' : St) : Array Value → State → Outcome → State → Prop :=
  va_Qi (fun r1 s1 => (c = 0 ∧ r1 = r) ∧ s1 = σ') (fun s1 t => va_P D vwCl (wd s1) t.heap ∧ va_K D vwCl tys t ∧ va_D A (wd s1)) A
def gQxd (D : va_G) (tys : List (ClassId × FieldType)) (A : Nat → Prop) (wd : St → va_W) (c : Nat) (r : UInt64) (σ' : St) : Array Value → State → Outcome → State → Prop :=
  va_Qd (fun r1 s1 => (c = 0 ∧ r1 = r) ∧ s1 = σ') (fun s1 t => va_P D vwCl (wd s1) t.heap ∧ va_K D vwCl tys t ∧ va_D A (wd s1)) A
def gQxf (D : va_G) (tys : List (ClassId × FieldType)) (A : Nat → Prop) (wd : St → va_W) (c : Nat) (r : UInt32) (σ' : St) : Array Value → State → Outcome → State → Prop :=
  va_Qf (fun r1 s1 => (c = 0 ∧ r1 = r) ∧ s1 = σ') (fun s1 t => va_P D vwCl (wd s1) t.heap ∧ va_K D vwCl tys t ∧ va_D A (wd s1)) A
def gQxv (D : va_G) (tys : List (ClassId × FieldType)) (A : Nat → Prop) (wd : St → va_W) (c : Nat) (σ' : St) : Array Value → State → Outcome → State → Prop :=
  va_Qv (fun s1 => c = 0 ∧ s1 = σ') (fun s1 t => va_P D vwCl (wd s1) t.heap ∧ va_K D vwCl tys t ∧ va_D A (wd s1)) A
/-- the contract of a method that may throw -/
def gMetX (l : Launch) (y : MethodName) (cc : ByteArray) (maxL : Nat) (ret : Option FieldType) (n d : Nat) (D : va_G) (tys : List (ClassId × FieldType)) (ST : gST) (ws : va_W) (av : List Value) (Qk : (Nat → Prop) → Array Value → State → Outcome → State → Prop) (Xk : (Nat → Prop) → String → State → State → Prop) : Prop :=
  ∀ sz : Nat, vx_Met l y (.code y cc maxL ret :: BIG) (RMX n d) (gPre D tys ST ws sz av) (Qk (va_A ws sz)) (Xk (va_A ws sz)) n (6 * n) (va_A ws sz)
theorem g_ofWX {l : Launch} {y : MethodName} {cc : ByteArray} {maxL n d : Nat} {ret : Option FieldType} {D : va_G} {tys : List (ClassId × FieldType)} {ST : gST} {ws : va_W} {av : List Value} {Qk : (Nat → Prop) → Array Value → State → Outcome → State → Prop} {Xk : (Nat → Prop) → String → State → State → Prop} (hT : STok ST) (hy : plainName y.cls = true) (hav : (lg_sl av).length ≤ maxL)
    (body : ∀ p e s m args below meth c ls A, GC p s m args meth c cc maxL y.cls ret A D tys ST → (∀ x ∈ c.exceptionTable.toList, False) → va_P D vwCl ws s.heap → va_D A ws → lv_has ls maxL (lv_args 0 av) → W p l e (RMX n d) s m args below meth c s.heap [] 0 0 (vx_MQ below (Qk A) (Xk A) args s n (6 * n) A) (F0 m 0 ls [])) : gMetX l y cc maxL ret n d D tys ST ws av Qk Xk := by
  intro sz
  refine vx_ofW (cc := cc) (maxL := maxL) (ret := ret) hy rfl ?_
  intro p e s m args below meth c s₁ B hml hnt hv
  obtain ⟨rfl, hsz, hP, hK, hD0, hN, hX⟩ := hv
  subst hsz
  have hts0 := atoms_spec (ws := .code y cc maxL ret :: BIG) B.pre
  rw [lg_entry_eq]
  exact body p e s m av.toArray below meth c _ _ ⟨B.exec, B.bytes, hml, findClass_of_methodNamed B.named, fun w h => hts0 w (List.mem_cons_of_mem _ h), B.returns, B.notSynchronized, fun q h => Or.inr h, hK, hN, hX, hT⟩ hnt hP hD0.self (lv_entry av hav)
section X10
variable {p : Program} {l : Launch} {e : Env} {R : Room} {s : State} {m : MethodId} {args : Array Value} {below : List Frame} {meth : Method} {c : Code} {H : Heap} {locs : List Loc} {cells slots : Nat} {Q : State → Prop}
variable {cc : ByteArray} {maxL : Nat} {ret : Option FieldType} {pc : Nat} {ls : Array Slot} {rest : List Value} {D : va_G} {A : Nat → Prop} {cA : Nat → ClassId} {ad a : Nat → Nat} {fr : va_W} {σ : St}
variable {ST : gST} {own : String} {N : Nat} {sh : Nat → Sh} {tys : List (ClassId × FieldType)} {n cR : Nat} {σ' : St}
theorem gx_reti {v r : Int32} {ty : FieldType} (G : GC p s m args meth c cc maxL own (some ty) A D tys ST) (hP : va_P D vwCl (gwd N sh cA ad a fr σ) H) (hD : va_D A (gwd N sh cA ad a fr σ)) (hS : va_S A s.heap H locs) (h : (some ((0, v), σ) : Option ((Nat × Int32) × St)) = some ((cR, r), σ')) (hn : narrow ty (.int v) = .int v) (hc : cells ≤ n ∧ slots ≤ 6 * n) (hdg : decode cc pc = .ok (.ireturn, 1)) {XC : String → State → State → Prop} : W p l e R s m args below meth c H locs cells slots (vx_MQ below (gQxi D tys A (gwd N sh cA ad a fr) cR r σ') XC args s n (6 * n) A) (F0 m pc ls [.int v]) := by
  cases h
  obtain ⟨hx, hb, hml, hown, hts, hr, hlocks, hA, hK, hN, hX, hT⟩ := G
  refine W.widen (k := n) (n := 6 * n) hc.1 hc.2 (vx_ret ?_)
  exact W.zret hx hb hr hn (fun t ht hW => ⟨⟨v, σ, rfl, ⟨⟨rfl, rfl⟩, rfl⟩, by rw [ht]; exact hP, va_K.moved hW.alike hK, hD⟩, hS.F ht⟩) hS.2.2 hdg
theorem gx_retd {v r : UInt64} (G : GC p s m args meth c cc maxL own (some .double) A D tys ST) (hP : va_P D vwCl (gwd N sh cA ad a fr σ) H) (hD : va_D A (gwd N sh cA ad a fr σ)) (hS : va_S A s.heap H locs) (h : (some ((0, v), σ) : Option ((Nat × UInt64) × St)) = some ((cR, r), σ')) (hc : cells ≤ n ∧ slots ≤ 6 * n) (hdg : decode cc pc = .ok (.dreturn, 1)) {XC : String → State → State → Prop} : W p l e R s m args below meth c H locs cells slots (vx_MQ below (gQxd D tys A (gwd N sh cA ad a fr) cR r σ') XC args s n (6 * n) A) (F0 m pc ls [.double v]) := by
  cases h
  obtain ⟨hx, hb, hml, hown, hts, hr, hlocks, hA, hK, hN, hX, hT⟩ := G
  refine W.widen (k := n) (n := 6 * n) hc.1 hc.2 (vx_ret ?_)
  exact W.dret hx hb hr (fun t ht hW => ⟨⟨v, σ, rfl, ⟨⟨rfl, rfl⟩, rfl⟩, by rw [ht]; exact hP, va_K.moved hW.alike hK, hD⟩, hS.F ht⟩) hS.2.2 hdg
theorem gx_retf {v r : UInt32} (G : GC p s m args meth c cc maxL own (some .float) A D tys ST) (hP : va_P D vwCl (gwd N sh cA ad a fr σ) H) (hD : va_D A (gwd N sh cA ad a fr σ)) (hS : va_S A s.heap H locs) (h : (some ((0, v), σ) : Option ((Nat × UInt32) × St)) = some ((cR, r), σ')) (hc : cells ≤ n ∧ slots ≤ 6 * n) (hdg : decode cc pc = .ok (.freturn, 1)) {XC : String → State → State → Prop} : W p l e R s m args below meth c H locs cells slots (vx_MQ below (gQxf D tys A (gwd N sh cA ad a fr) cR r σ') XC args s n (6 * n) A) (F0 m pc ls [.float v]) := by
  cases h
  obtain ⟨hx, hb, hml, hown, hts, hr, hlocks, hA, hK, hN, hX, hT⟩ := G
  refine W.widen (k := n) (n := 6 * n) hc.1 hc.2 (vx_ret ?_)
  exact W.fret hx hb hr (fun t ht hW => ⟨⟨v, σ, rfl, ⟨⟨rfl, rfl⟩, rfl⟩, by rw [ht]; exact hP, va_K.moved hW.alike hK, hD⟩, hS.F ht⟩) hS.2.2 hdg
theorem gx_retv {v r : Int32} (G : GC p s m args meth c cc maxL own none A D tys ST) (hP : va_P D vwCl (gwd N sh cA ad a fr σ) H) (hD : va_D A (gwd N sh cA ad a fr σ)) (hS : va_S A s.heap H locs) (h : (some ((0, v), σ) : Option ((Nat × Int32) × St)) = some ((cR, r), σ')) (hc : cells ≤ n ∧ slots ≤ 6 * n) (hdg : decode cc pc = .ok (.return_, 1)) {XC : String → State → State → Prop} : W p l e R s m args below meth c H locs cells slots (vx_MQ below (gQxv D tys A (gwd N sh cA ad a fr) cR σ') XC args s n (6 * n) A) (F0 m pc ls []) := by
  cases h
  obtain ⟨hx, hb, hml, hown, hts, hr, hlocks, hA, hK, hN, hX, hT⟩ := G
  refine W.widen (k := n) (n := 6 * n) hc.1 hc.2 (vx_ret ?_)
  exact W.vret hx hb hr (fun t ht hW => ⟨⟨σ, rfl, ⟨rfl, rfl⟩, by rw [ht]; exact hP, va_K.moved hW.alike hK, hD⟩, hS.F ht⟩) hS.2.2 hdg
theorem gx_throw {β : Type} {vr r : β} {E tx : String} {XW : List Cond} {cE ik is ic : Nat} (hl : l.stackTraces = false) (hSX : STX ST) (hE : xcls cE = E) (hE0 : cE ≠ 0) (hXW : XW = vx_atS own ic E ["java/lang/RuntimeException", "java/lang/Exception"]) (h1 : (XW.filter goodWord).all (fun w => decide (w ∈ lw_tbl)) = true) (h2 : ∀ w ∈ XW.filter (fun w => !goodWord w), w ∈ XL) (h3 : ∀ w ∈ Cond.classLink own ik E :: Cond.initialized E :: XW, vx_ot w = true) (hfit : Bundle.fit E = true) (hk : Cond.classLink own ik E ∈ BIG) (hi : Cond.initialized E ∈ BIG) (hs : (is, tx) ∈ STRS) (hO : own = RX11)
    (G : GC p s m args meth c cc maxL own ret A D tys ST) (hnt : ∀ x ∈ c.exceptionTable.toList, False) (hP : va_P D vwCl (gwd N sh cA ad a fr σ) H) (hD : va_D A (gwd N sh cA ad a fr σ)) (hS : va_S A s.heap H locs) (h : (some ((cE, vr), σ) : Option ((Nat × β) × St)) = some ((cR, r), σ')) (hls : ls.size = maxL)
    (d0 : decode cc pc = .ok (.new ik, 3)) (d3 : decode cc (pc + 3) = .ok (.dup, 1)) (d4 : decode cc (pc + 4) = .ok (.ldc is, 2)) (d6 : decode cc (pc + 6) = .ok (.invokespecial ic, 3)) (d9 : decode cc (pc + 9) = .ok (.athrow, 1)) (hR : 6 ≤ R.frames ∧ 100 ≤ R.locals ∧ cells + 1 ≤ R.cells ∧ slots + 6 ≤ R.slots ∧ cells + 1 ≤ n ∧ slots + 6 ≤ 6 * n) (hcat : (rest.map fun v => v.category).sum ≤ 8) {Qc : Array Value → State → Outcome → State → Prop} : W p l e R s m args below meth c H locs cells slots (vx_MQ below Qc (gXC D tys A (gwd N sh cA ad a fr) cR σ') args s n (6 * n) A) (F0 m pc ls rest) := by
  cases h
  subst hXW
  subst hO
  obtain ⟨hx, hb, hml, hown, hts, hr, hlocks, hA, hK, hN, hX, hT⟩ := G
  obtain ⟨hXL, hU, hNl, hstr⟩ := hSX _ _ hX
  obtain ⟨sa, hsa⟩ := hstr _ hs
  have hF := g_free hD hS hA
  refine vx_throwS (names := ["java/lang/RuntimeException", "java/lang/Exception"]) (A := A) hx hb hl hown hfit (by decide +kernel) (hts _ hk) (hts _ hi) hsa (x_at hts hXL h1 h2) h3 hU hNl hS (hls.trans hml.symm) d0 d3 d4 d6 d9 (fun x hx9 => (hnt x hx9).elim) (by show 2 + 3 < R.frames; omega) (by show _ + (13 * (2 + 1) + 43) ≤ R.locals; omega) hR.2.2.1 hR.2.2.2.1 hlocks (fun t hvm hz hk9 => ?_) hS.2.2 hR.2.2.2.2.1 hR.2.2.2.2.2
  refine ⟨σ, ⟨hE0, rfl⟩, ⟨hE.symm, hP.kept (fun k q hq => hk9 _ (hP k q hq).lt), va_K.moved hvm hK, hD⟩, Nat.le_trans hS.1 hz, fun q hq hnA => ?_⟩
  rw [hk9 q (Nat.lt_of_lt_of_le hq hS.1)]
  exact hS.2.1 q hq hnA
theorem gx_throwW {β : Type} {vr r : β} {E tx : String} {XW : List Cond} {cE ik is ic : Nat} (hl : l.stackTraces = false) (hSX : STX ST) (hE : xcls cE = E) (hE0 : cE ≠ 0) (hXW : XW = vx_atS own ic E ["java/lang/RuntimeException", "java/lang/Exception"]) (h1 : (XW.filter goodWord).all (fun w => decide (w ∈ lw_tbl)) = true) (h2 : ∀ w ∈ XW.filter (fun w => !goodWord w), w ∈ XL) (h3 : ∀ w ∈ Cond.classLink own ik E :: Cond.initialized E :: XW, vx_ot w = true) (hfit : Bundle.fit E = true) (hk : Cond.classLink own ik E ∈ BIG) (hi : Cond.initialized E ∈ BIG) (hs : (is, tx) ∈ STRS) (hO : own = RX11)
    (G : GC p s m args meth c cc maxL own ret A D tys ST) (hnt : ∀ x ∈ c.exceptionTable.toList, False) (hP : va_P D vwCl (gwd N sh cA ad a fr σ) H) (hD : va_D A (gwd N sh cA ad a fr σ)) (hS : va_S A s.heap H locs) (h : (some ((cE, vr), σ) : Option ((Nat × β) × St)) = some ((cR, r), σ')) (hls : ls.size = maxL)
    (d0 : decode cc pc = .ok (.new ik, 3)) (d3 : decode cc (pc + 3) = .ok (.dup, 1)) (d4 : decode cc (pc + 4) = .ok (.ldc_w is, 3)) (d6 : decode cc (pc + 7) = .ok (.invokespecial ic, 3)) (d9 : decode cc (pc + 10) = .ok (.athrow, 1)) (hR : 6 ≤ R.frames ∧ 100 ≤ R.locals ∧ cells + 1 ≤ R.cells ∧ slots + 6 ≤ R.slots ∧ cells + 1 ≤ n ∧ slots + 6 ≤ 6 * n) (hcat : (rest.map fun v => v.category).sum ≤ 8) {Qc : Array Value → State → Outcome → State → Prop} : W p l e R s m args below meth c H locs cells slots (vx_MQ below Qc (gXC D tys A (gwd N sh cA ad a fr) cR σ') args s n (6 * n) A) (F0 m pc ls rest) := by
  cases h
  subst hXW
  subst hO
  obtain ⟨hx, hb, hml, hown, hts, hr, hlocks, hA, hK, hN, hX, hT⟩ := G
  obtain ⟨hXL, hU, hNl, hstr⟩ := hSX _ _ hX
  obtain ⟨sa, hsa⟩ := hstr _ hs
  have hF := g_free hD hS hA
  refine vx_throwSW (names := ["java/lang/RuntimeException", "java/lang/Exception"]) (A := A) hx hb hl hown hfit (by decide +kernel) (hts _ hk) (hts _ hi) hsa (x_at hts hXL h1 h2) h3 hU hNl hS (hls.trans hml.symm) d0 d3 d4 d6 d9 (fun x hx9 => (hnt x hx9).elim) (by show 2 + 3 < R.frames; omega) (by show _ + (13 * (2 + 1) + 43) ≤ R.locals; omega) hR.2.2.1 hR.2.2.2.1 hlocks (fun t hvm hz hk9 => ?_) hS.2.2 hR.2.2.2.2.1 hR.2.2.2.2.2
  refine ⟨σ, ⟨hE0, rfl⟩, ⟨hE.symm, hP.kept (fun k q hq => hk9 _ (hP k q hq).lt), va_K.moved hvm hK, hD⟩, Nat.le_trans hS.1 hz, fun q hq hnA => ?_⟩
  rw [hk9 q (Nat.lt_of_lt_of_le hq hS.1)]
  exact hS.2.1 q hq hnA
theorem gx_throwN {β : Type} {vr r : β} {E tx : String} {XW : List Cond} {cE ik is ic : Nat} (hl : l.stackTraces = false) (hSX : STX ST) (hE : xcls cE = E) (hE0 : cE ≠ 0) (hEN : E = nseN) (hXW : XW = nseS own ic) (h1 : (XW.filter goodWord).all (fun w => decide (w ∈ lw_tbl)) = true) (h2 : ∀ w ∈ XW.filter (fun w => !goodWord w), w ∈ XL) (h3 : ∀ w ∈ Cond.classLink own ik E :: Cond.initialized E :: XW, vx_ot w = true) (hfit : Bundle.fit E = true) (hk : Cond.classLink own ik E ∈ BIG) (hi : Cond.initialized E ∈ BIG) (hs : (is, tx) ∈ STRS) (hO : own = RX11)
    (G : GC p s m args meth c cc maxL own ret A D tys ST) (hnt : ∀ x ∈ c.exceptionTable.toList, False) (hP : va_P D vwCl (gwd N sh cA ad a fr σ) H) (hD : va_D A (gwd N sh cA ad a fr σ)) (hS : va_S A s.heap H locs) (h : (some ((cE, vr), σ) : Option ((Nat × β) × St)) = some ((cR, r), σ')) (hls : ls.size = maxL)
    (d0 : decode cc pc = .ok (.new ik, 3)) (d3 : decode cc (pc + 3) = .ok (.dup, 1)) (d4 : decode cc (pc + 4) = .ok (.ldc is, 2)) (d6 : decode cc (pc + 6) = .ok (.invokespecial ic, 3)) (d9 : decode cc (pc + 9) = .ok (.athrow, 1)) (hR : 6 ≤ R.frames ∧ 100 ≤ R.locals ∧ cells + 1 ≤ R.cells ∧ slots + 6 ≤ R.slots ∧ cells + 1 ≤ n ∧ slots + 6 ≤ 6 * n) (hcat : (rest.map fun v => v.category).sum ≤ 8) {Qc : Array Value → State → Outcome → State → Prop} : W p l e R s m args below meth c H locs cells slots (vx_MQ below Qc (gXC D tys A (gwd N sh cA ad a fr) cR σ') args s n (6 * n) A) (F0 m pc ls rest) := by
  cases h
  subst hEN
  subst hXW
  subst hO
  obtain ⟨hx, hb, hml, hown, hts, hr, hlocks, hA, hK, hN, hX, hT⟩ := G
  obtain ⟨hXL, hU, hNl, hstr⟩ := hSX _ _ hX
  obtain ⟨sa, hsa⟩ := hstr _ hs
  have hF := g_free hD hS hA
  refine nx_throwS (A := A) hx hb hl hown (hts _ hk) (hts _ hi) hsa (x_at hts hXL h1 h2) h3 hU hNl hS (hls.trans hml.symm) d0 d3 d4 d6 d9 (fun x hx9 => (hnt x hx9).elim) (by show 2 + 3 < R.frames; omega) (by show _ + (13 * (2 + 1) + 43) ≤ R.locals; omega) hR.2.2.1 hR.2.2.2.1 hlocks (fun t hvm hz hk9 => ?_) hS.2.2 hR.2.2.2.2.1 hR.2.2.2.2.2
  refine ⟨σ, ⟨hE0, rfl⟩, ⟨hE.symm, hP.kept (fun k q hq => hk9 _ (hP k q hq).lt), va_K.moved hvm hK, hD⟩, Nat.le_trans hS.1 hz, fun q hq hnA => ?_⟩
  rw [hk9 q (Nat.lt_of_lt_of_le hq hS.1)]
  exact hS.2.1 q hq hnA
theorem gx_throwNW {β : Type} {vr r : β} {E tx : String} {XW : List Cond} {cE ik is ic : Nat} (hl : l.stackTraces = false) (hSX : STX ST) (hE : xcls cE = E) (hE0 : cE ≠ 0) (hEN : E = nseN) (hXW : XW = nseS own ic) (h1 : (XW.filter goodWord).all (fun w => decide (w ∈ lw_tbl)) = true) (h2 : ∀ w ∈ XW.filter (fun w => !goodWord w), w ∈ XL) (h3 : ∀ w ∈ Cond.classLink own ik E :: Cond.initialized E :: XW, vx_ot w = true) (hfit : Bundle.fit E = true) (hk : Cond.classLink own ik E ∈ BIG) (hi : Cond.initialized E ∈ BIG) (hs : (is, tx) ∈ STRS) (hO : own = RX11)
    (G : GC p s m args meth c cc maxL own ret A D tys ST) (hnt : ∀ x ∈ c.exceptionTable.toList, False) (hP : va_P D vwCl (gwd N sh cA ad a fr σ) H) (hD : va_D A (gwd N sh cA ad a fr σ)) (hS : va_S A s.heap H locs) (h : (some ((cE, vr), σ) : Option ((Nat × β) × St)) = some ((cR, r), σ')) (hls : ls.size = maxL)
    (d0 : decode cc pc = .ok (.new ik, 3)) (d3 : decode cc (pc + 3) = .ok (.dup, 1)) (d4 : decode cc (pc + 4) = .ok (.ldc_w is, 3)) (d6 : decode cc (pc + 7) = .ok (.invokespecial ic, 3)) (d9 : decode cc (pc + 10) = .ok (.athrow, 1)) (hR : 6 ≤ R.frames ∧ 100 ≤ R.locals ∧ cells + 1 ≤ R.cells ∧ slots + 6 ≤ R.slots ∧ cells + 1 ≤ n ∧ slots + 6 ≤ 6 * n) (hcat : (rest.map fun v => v.category).sum ≤ 8) {Qc : Array Value → State → Outcome → State → Prop} : W p l e R s m args below meth c H locs cells slots (vx_MQ below Qc (gXC D tys A (gwd N sh cA ad a fr) cR σ') args s n (6 * n) A) (F0 m pc ls rest) := by
  cases h
  subst hEN
  subst hXW
  subst hO
  obtain ⟨hx, hb, hml, hown, hts, hr, hlocks, hA, hK, hN, hX, hT⟩ := G
  obtain ⟨hXL, hU, hNl, hstr⟩ := hSX _ _ hX
  obtain ⟨sa, hsa⟩ := hstr _ hs
  have hF := g_free hD hS hA
  refine nx_throwSW (A := A) hx hb hl hown (hts _ hk) (hts _ hi) hsa (x_at hts hXL h1 h2) h3 hU hNl hS (hls.trans hml.symm) d0 d3 d4 d6 d9 (fun x hx9 => (hnt x hx9).elim) (by show 2 + 3 < R.frames; omega) (by show _ + (13 * (2 + 1) + 43) ≤ R.locals; omega) hR.2.2.1 hR.2.2.2.1 hlocks (fun t hvm hz hk9 => ?_) hS.2.2 hR.2.2.2.2.1 hR.2.2.2.2.2
  refine ⟨σ, ⟨hE0, rfl⟩, ⟨hE.symm, hP.kept (fun k q hq => hk9 _ (hP k q hq).lt), va_K.moved hvm hK, hD⟩, Nat.le_trans hS.1 hz, fun q hq hnA => ?_⟩
  rw [hk9 q (Nat.lt_of_lt_of_le hq hS.1)]
  exact hS.2.1 q hq hnA
end X10
section X11
variable {p : Program} {l : Launch} {e : Env} {R : Room} {s : State} {m : MethodId} {args : Array Value} {below : List Frame} {meth : Method} {c : Code} {H : Heap} {locs : List Loc} {cells slots : Nat} {Q : State → Prop}
variable {cc : ByteArray} {maxL : Nat} {ret : Option FieldType} {pc : Nat} {ls : Array Slot} {rest : List Value} {D : va_G} {A : Nat → Prop} {cA : Nat → ClassId} {ad a : Nat → Nat} {fr : va_W} {σ : St}
variable {ST : gST} {own : String} {N : Nat} {sh : Nat → Sh} {tys : List (ClassId × FieldType)}
theorem gg_callVi {d1 : Nat} {y : MethodName} {bytes : ByteArray} {n nA index ci : Nat} {ret' : Option FieldType} {C : String} {T : u_T} {M : Nat} {sl : List Nat} {σ1 : St} {r : Int32} {As st0 : List Value} {k : Nat} (hM : gMet l y bytes n ret' d1 D tys ST (gwd N sh cA ad a fr σ) (.ref (a k) :: As) (fun A => gQi D tys A (gwd N sh cA ad a fr) r σ1)) (G : GC p s m args meth c cc maxL own ret A D tys ST) (hP : va_P D vwCl (gwd N sh cA ad a fr σ) H) (hD : va_D A (gwd N sh cA ad a fr σ)) (hS : va_S A s.heap H locs)
    (hg : GoodIn BIG (wsV own index C y (.code y bytes n ret' :: BIG))) (hd : y.cls = C ∧ y.cls ≠ "java/lang/invoke/MethodHandle" ∧ y.cls ≠ "java/lang/invoke/VarHandle" ∧ (parseMethodDescriptor y.desc).map (fun d => d.parameters.length) = some nA) (hr : d1 + 1 ≤ R.frames ∧ 19 + n + 40 * d1 ≤ R.locals ∧ cells ≤ R.cells ∧ slots ≤ R.slots) (hk : k < N) (hs : sh k = .inl (ci, sl)) (hc : vwCl[ci]? = some (C, T, M)) (hn : As.length = nA) (hls : ls.size = maxL) (rest : List Value) (hst : st0 = As.reverse ++ .ref (a k) :: rest) (hcat : (rest.map fun v => v.category).sum ≤ 8) (hdg : decode cc pc = .ok (.invokevirtual index, 3))
    (kk : ∀ (H1 : Heap) (locs1 : List Loc), va_P D vwCl (gwd N sh cA ad a fr σ1) H1 → va_D A (gwd N sh cA ad a fr σ1) → va_S A s.heap H1 locs1 → W p l e R s m args below meth c H1 locs1 cells slots Q (F0 m (pc + 3) ls (.int r :: rest))) : W p l e R s m args below meth c H locs cells slots Q (F0 m pc ls st0) := by
  obtain ⟨hx, hb, hml, hown, hts, -, hlocks, hA, hK, hN, hX, hT⟩ := G
  have hF := g_free hD hS hA
  refine va_calli (va_runV (As := As) (rest := rest) ⟨hx, hb, hml, hown, hts⟩ (hM H.size) (cwV nA hts hg rfl rfl rfl hd ⟨by show d1 + 1 ≤ R.frames; exact hr.1, by show 8 + (n + 11) + 40 * d1 ≤ R.locals; omega⟩) ⟨gPre_blind hT, va_recv hK hP hc (gwd_get hk hs), fun U hU hW => ⟨rfl, by rw [hU], by rw [hU]; exact hP, va_K.moved hW.alike hK, hD.weaken (fun _ _ _ _ => trivial), hN.warm hW, hT.2 _ _ _ _ _ _ hX hS hU hW hF⟩⟩ rfl hn hls hst (lv_room hcat) hdg ⟨by show cells + 0 ≤ R.cells; omega, by show slots + 0 ≤ R.slots; omega⟩) hS (fun q _ h => hF q h) hF (fun r9 u9 t H1 locs1 ht hvm hw hB hz1 hk1 hS1 => ?_)
  obtain ⟨rfl, rfl⟩ := hw
  obtain ⟨hP1, hK1, hD1⟩ := hB
  rw [ht] at hP1
  exact kk H1 locs1 hP1 (hD1.weaken (fun _ q _ h => hF q.1 h)) hS1

theorem gg_callVv {d1 : Nat} {y : MethodName} {bytes : ByteArray} {n nA index ci : Nat} {ret' : Option FieldType} {C : String} {T : u_T} {M : Nat} {sl : List Nat} {σ1 : St} {As st0 : List Value} {k : Nat} (hM : gMet l y bytes n ret' d1 D tys ST (gwd N sh cA ad a fr σ) (.ref (a k) :: As) (fun A => gQv D tys A (gwd N sh cA ad a fr) σ1)) (G : GC p s m args meth c cc maxL own ret A D tys ST) (hP : va_P D vwCl (gwd N sh cA ad a fr σ) H) (hD : va_D A (gwd N sh cA ad a fr σ)) (hS : va_S A s.heap H locs)
    (hg : GoodIn BIG (wsV own index C y (.code y bytes n ret' :: BIG))) (hd : y.cls = C ∧ y.cls ≠ "java/lang/invoke/MethodHandle" ∧ y.cls ≠ "java/lang/invoke/VarHandle" ∧ (parseMethodDescriptor y.desc).map (fun d => d.parameters.length) = some nA) (hr : d1 + 1 ≤ R.frames ∧ 19 + n + 40 * d1 ≤ R.locals ∧ cells ≤ R.cells ∧ slots ≤ R.slots) (hk : k < N) (hs : sh k = .inl (ci, sl)) (hc : vwCl[ci]? = some (C, T, M)) (hn : As.length = nA) (hls : ls.size = maxL) (rest : List Value) (hst : st0 = As.reverse ++ .ref (a k) :: rest) (hcat : (rest.map fun v => v.category).sum ≤ 8) (hdg : decode cc pc = .ok (.invokevirtual index, 3))
    (kk : ∀ (H1 : Heap) (locs1 : List Loc), va_P D vwCl (gwd N sh cA ad a fr σ1) H1 → va_D A (gwd N sh cA ad a fr σ1) → va_S A s.heap H1 locs1 → W p l e R s m args below meth c H1 locs1 cells slots Q (F0 m (pc + 3) ls rest)) : W p l e R s m args below meth c H locs cells slots Q (F0 m pc ls st0) := by
  obtain ⟨hx, hb, hml, hown, hts, -, hlocks, hA, hK, hN, hX, hT⟩ := G
  have hF := g_free hD hS hA
  refine va_callv (va_runV (As := As) (rest := rest) ⟨hx, hb, hml, hown, hts⟩ (hM H.size) (cwV nA hts hg rfl rfl rfl hd ⟨by show d1 + 1 ≤ R.frames; exact hr.1, by show 8 + (n + 11) + 40 * d1 ≤ R.locals; omega⟩) ⟨gPre_blind hT, va_recv hK hP hc (gwd_get hk hs), fun U hU hW => ⟨rfl, by rw [hU], by rw [hU]; exact hP, va_K.moved hW.alike hK, hD.weaken (fun _ _ _ _ => trivial), hN.warm hW, hT.2 _ _ _ _ _ _ hX hS hU hW hF⟩⟩ rfl hn hls hst (lv_room hcat) hdg ⟨by show cells + 0 ≤ R.cells; omega, by show slots + 0 ≤ R.slots; omega⟩) hS (fun q _ h => hF q h) hF (fun u9 t H1 locs1 ht hvm hw hB hz1 hk1 hS1 => ?_)
  subst hw
  obtain ⟨hP1, hK1, hD1⟩ := hB
  rw [ht] at hP1
  exact kk H1 locs1 hP1 (hD1.weaken (fun _ q _ h => hF q.1 h)) hS1

theorem gg_callSXi {d1 : Nat} {y : MethodName} {bytes : ByteArray} {n nA index : Nat} {ret' : Option FieldType} {σ1 : St} {r : Int32} {As st0 : List Value} (hM : gMet l y bytes n ret' d1 D tys ST (gwd N sh cA ad a fr σ) As (fun A => gQi D tys A (gwd N sh cA ad a fr) r σ1)) (G : GC p s m args meth c cc maxL own ret A D tys ST) (hP : va_P D vwCl (gwd N sh cA ad a fr σ) H) (hD : va_D A (gwd N sh cA ad a fr σ)) (hS : va_S A s.heap H locs)
    (hg : GoodIn BIG (va_wsS own index y (.code y bytes n ret' :: BIG))) (hd : y.cls ≠ "java/lang/invoke/MethodHandle" ∧ y.cls ≠ "java/lang/invoke/VarHandle" ∧ (parseMethodDescriptor y.desc).map (fun d => d.parameters.length) = some nA) (hr : d1 + 1 ≤ R.frames ∧ 19 + n + 40 * d1 ≤ R.locals ∧ cells ≤ R.cells ∧ slots ≤ R.slots) (hn : As.length = nA) (hls : ls.size = maxL) (rest : List Value) (hst : st0 = As.reverse ++ rest) (hcat : (rest.map fun v => v.category).sum ≤ 8) (hdg : decode cc pc = .ok (.invokestatic index, 3))
    (kk : ∀ (H1 : Heap) (locs1 : List Loc), va_P D vwCl (gwd N sh cA ad a fr σ1) H1 → va_D A (gwd N sh cA ad a fr σ1) → va_S A s.heap H1 locs1 → W p l e R s m args below meth c H1 locs1 cells slots Q (F0 m (pc + 3) ls (.int r :: rest))) : W p l e R s m args below meth c H locs cells slots Q (F0 m pc ls st0) := by
  obtain ⟨hx, hb, hml, hown, hts, -, hlocks, hA, hK, hN, hX, hT⟩ := G
  have hF := g_free hD hS hA
  refine va_calli (va_runS (As := As) (rest := rest) ⟨hx, hb, hml, hown, hts⟩ (hM H.size) (va_cwS nA hts hg rfl rfl rfl hd ⟨by show d1 + 1 ≤ R.frames; exact hr.1, by show 8 + (n + 11) + 40 * d1 ≤ R.locals; omega⟩) ⟨gPre_blind hT, fun U hU hW => ⟨rfl, by rw [hU], by rw [hU]; exact hP, va_K.moved hW.alike hK, hD.weaken (fun _ _ _ _ => trivial), hN.warm hW, hT.2 _ _ _ _ _ _ hX hS hU hW hF⟩⟩ rfl hn hls hst (lv_room hcat) hdg ⟨by show cells + 0 ≤ R.cells; omega, by show slots + 0 ≤ R.slots; omega⟩) hS (fun q _ h => hF q h) hF (fun r9 u9 t H1 locs1 ht hvm hw hB hz1 hk1 hS1 => ?_)
  obtain ⟨rfl, rfl⟩ := hw
  obtain ⟨hP1, hK1, hD1⟩ := hB
  rw [ht] at hP1
  exact kk H1 locs1 hP1 (hD1.weaken (fun _ q _ h => hF q.1 h)) hS1

theorem gg_callSXv {d1 : Nat} {y : MethodName} {bytes : ByteArray} {n nA index : Nat} {ret' : Option FieldType} {σ1 : St} {As st0 : List Value} (hM : gMet l y bytes n ret' d1 D tys ST (gwd N sh cA ad a fr σ) As (fun A => gQv D tys A (gwd N sh cA ad a fr) σ1)) (G : GC p s m args meth c cc maxL own ret A D tys ST) (hP : va_P D vwCl (gwd N sh cA ad a fr σ) H) (hD : va_D A (gwd N sh cA ad a fr σ)) (hS : va_S A s.heap H locs)
    (hg : GoodIn BIG (va_wsS own index y (.code y bytes n ret' :: BIG))) (hd : y.cls ≠ "java/lang/invoke/MethodHandle" ∧ y.cls ≠ "java/lang/invoke/VarHandle" ∧ (parseMethodDescriptor y.desc).map (fun d => d.parameters.length) = some nA) (hr : d1 + 1 ≤ R.frames ∧ 19 + n + 40 * d1 ≤ R.locals ∧ cells ≤ R.cells ∧ slots ≤ R.slots) (hn : As.length = nA) (hls : ls.size = maxL) (rest : List Value) (hst : st0 = As.reverse ++ rest) (hcat : (rest.map fun v => v.category).sum ≤ 8) (hdg : decode cc pc = .ok (.invokestatic index, 3))
    (kk : ∀ (H1 : Heap) (locs1 : List Loc), va_P D vwCl (gwd N sh cA ad a fr σ1) H1 → va_D A (gwd N sh cA ad a fr σ1) → va_S A s.heap H1 locs1 → W p l e R s m args below meth c H1 locs1 cells slots Q (F0 m (pc + 3) ls rest)) : W p l e R s m args below meth c H locs cells slots Q (F0 m pc ls st0) := by
  obtain ⟨hx, hb, hml, hown, hts, -, hlocks, hA, hK, hN, hX, hT⟩ := G
  have hF := g_free hD hS hA
  refine va_callv (va_runS (As := As) (rest := rest) ⟨hx, hb, hml, hown, hts⟩ (hM H.size) (va_cwS nA hts hg rfl rfl rfl hd ⟨by show d1 + 1 ≤ R.frames; exact hr.1, by show 8 + (n + 11) + 40 * d1 ≤ R.locals; omega⟩) ⟨gPre_blind hT, fun U hU hW => ⟨rfl, by rw [hU], by rw [hU]; exact hP, va_K.moved hW.alike hK, hD.weaken (fun _ _ _ _ => trivial), hN.warm hW, hT.2 _ _ _ _ _ _ hX hS hU hW hF⟩⟩ rfl hn hls hst (lv_room hcat) hdg ⟨by show cells + 0 ≤ R.cells; omega, by show slots + 0 ≤ R.slots; omega⟩) hS (fun q _ h => hF q h) hF (fun u9 t H1 locs1 ht hvm hw hB hz1 hk1 hS1 => ?_)
  subst hw
  obtain ⟨hP1, hK1, hD1⟩ := hB
  rw [ht] at hP1
  exact kk H1 locs1 hP1 (hD1.weaken (fun _ q _ h => hF q.1 h)) hS1

theorem gg_callVe {adE : Nat → Nat} {d1 : Nat} {y : MethodName} {bytes : ByteArray} {n nA index ci : Nat} {ret' : Option FieldType} {C : String} {T : u_T} {M : Nat} {sl : List Nat} {σ1 : St} {r : Int32} {As st0 : List Value} {k : Nat} (hM : gMet l y bytes n ret' d1 D tys ST (gwd N sh cA ad a fr σ) (.ref (a k) :: As) (fun A => gQe adE D tys A (gwd N sh cA ad a fr) r σ1)) (G : GC p s m args meth c cc maxL own ret A D tys ST) (hP : va_P D vwCl (gwd N sh cA ad a fr σ) H) (hD : va_D A (gwd N sh cA ad a fr σ)) (hS : va_S A s.heap H locs)
    (hg : GoodIn BIG (wsV own index C y (.code y bytes n ret' :: BIG))) (hd : y.cls = C ∧ y.cls ≠ "java/lang/invoke/MethodHandle" ∧ y.cls ≠ "java/lang/invoke/VarHandle" ∧ (parseMethodDescriptor y.desc).map (fun d => d.parameters.length) = some nA) (hr : d1 + 1 ≤ R.frames ∧ 19 + n + 40 * d1 ≤ R.locals ∧ cells ≤ R.cells ∧ slots ≤ R.slots) (hk : k < N) (hs : sh k = .inl (ci, sl)) (hc : vwCl[ci]? = some (C, T, M)) (hn : As.length = nA) (hls : ls.size = maxL) (rest : List Value) (hst : st0 = As.reverse ++ .ref (a k) :: rest) (hcat : (rest.map fun v => v.category).sum ≤ 8) (hdg : decode cc pc = .ok (.invokevirtual index, 3))
    (kk : ∀ (H1 : Heap) (locs1 : List Loc), va_P D vwCl (gwd N sh cA ad a fr σ1) H1 → va_D A (gwd N sh cA ad a fr σ1) → va_S A s.heap H1 locs1 → W p l e R s m args below meth c H1 locs1 cells slots Q (F0 m (pc + 3) ls (va_re adE (if r < 0 then none else some r.toNatClampNeg) :: rest))) : W p l e R s m args below meth c H locs cells slots Q (F0 m pc ls st0) := by
  obtain ⟨hx, hb, hml, hown, hts, -, hlocks, hA, hK, hN, hX, hT⟩ := G
  have hF := g_free hD hS hA
  refine va_calle (va_runV (As := As) (rest := rest) ⟨hx, hb, hml, hown, hts⟩ (hM H.size) (cwV nA hts hg rfl rfl rfl hd ⟨by show d1 + 1 ≤ R.frames; exact hr.1, by show 8 + (n + 11) + 40 * d1 ≤ R.locals; omega⟩) ⟨gPre_blind hT, va_recv hK hP hc (gwd_get hk hs), fun U hU hW => ⟨rfl, by rw [hU], by rw [hU]; exact hP, va_K.moved hW.alike hK, hD.weaken (fun _ _ _ _ => trivial), hN.warm hW, hT.2 _ _ _ _ _ _ hX hS hU hW hF⟩⟩ rfl hn hls hst (lv_room hcat) hdg ⟨by show cells + 0 ≤ R.cells; omega, by show slots + 0 ≤ R.slots; omega⟩) hS (fun q _ h => hF q h) hF (fun r9 u9 t H1 locs1 ht hvm hw hB hz1 hk1 hS1 => ?_)
  obtain ⟨rfl, rfl⟩ := hw
  obtain ⟨hP1, hK1, hD1⟩ := hB
  rw [ht] at hP1
  exact kk H1 locs1 hP1 (hD1.weaken (fun _ q _ h => hF q.1 h)) hS1

theorem gg_callSXe {adE : Nat → Nat} {d1 : Nat} {y : MethodName} {bytes : ByteArray} {n nA index : Nat} {ret' : Option FieldType} {σ1 : St} {r : Int32} {As st0 : List Value} (hM : gMet l y bytes n ret' d1 D tys ST (gwd N sh cA ad a fr σ) As (fun A => gQe adE D tys A (gwd N sh cA ad a fr) r σ1)) (G : GC p s m args meth c cc maxL own ret A D tys ST) (hP : va_P D vwCl (gwd N sh cA ad a fr σ) H) (hD : va_D A (gwd N sh cA ad a fr σ)) (hS : va_S A s.heap H locs)
    (hg : GoodIn BIG (va_wsS own index y (.code y bytes n ret' :: BIG))) (hd : y.cls ≠ "java/lang/invoke/MethodHandle" ∧ y.cls ≠ "java/lang/invoke/VarHandle" ∧ (parseMethodDescriptor y.desc).map (fun d => d.parameters.length) = some nA) (hr : d1 + 1 ≤ R.frames ∧ 19 + n + 40 * d1 ≤ R.locals ∧ cells ≤ R.cells ∧ slots ≤ R.slots) (hn : As.length = nA) (hls : ls.size = maxL) (rest : List Value) (hst : st0 = As.reverse ++ rest) (hcat : (rest.map fun v => v.category).sum ≤ 8) (hdg : decode cc pc = .ok (.invokestatic index, 3))
    (kk : ∀ (H1 : Heap) (locs1 : List Loc), va_P D vwCl (gwd N sh cA ad a fr σ1) H1 → va_D A (gwd N sh cA ad a fr σ1) → va_S A s.heap H1 locs1 → W p l e R s m args below meth c H1 locs1 cells slots Q (F0 m (pc + 3) ls (va_re adE (if r < 0 then none else some r.toNatClampNeg) :: rest))) : W p l e R s m args below meth c H locs cells slots Q (F0 m pc ls st0) := by
  obtain ⟨hx, hb, hml, hown, hts, -, hlocks, hA, hK, hN, hX, hT⟩ := G
  have hF := g_free hD hS hA
  refine va_calle (va_runS (As := As) (rest := rest) ⟨hx, hb, hml, hown, hts⟩ (hM H.size) (va_cwS nA hts hg rfl rfl rfl hd ⟨by show d1 + 1 ≤ R.frames; exact hr.1, by show 8 + (n + 11) + 40 * d1 ≤ R.locals; omega⟩) ⟨gPre_blind hT, fun U hU hW => ⟨rfl, by rw [hU], by rw [hU]; exact hP, va_K.moved hW.alike hK, hD.weaken (fun _ _ _ _ => trivial), hN.warm hW, hT.2 _ _ _ _ _ _ hX hS hU hW hF⟩⟩ rfl hn hls hst (lv_room hcat) hdg ⟨by show cells + 0 ≤ R.cells; omega, by show slots + 0 ≤ R.slots; omega⟩) hS (fun q _ h => hF q h) hF (fun r9 u9 t H1 locs1 ht hvm hw hB hz1 hk1 hS1 => ?_)
  obtain ⟨rfl, rfl⟩ := hw
  obtain ⟨hP1, hK1, hD1⟩ := hB
  rw [ht] at hP1
  exact kk H1 locs1 hP1 (hD1.weaken (fun _ q _ h => hF q.1 h)) hS1

theorem gx_callVi {β : Type} {dv rR : β} {n1 cR c1 nn : Nat} {σ' : St} {X : Option ((Nat × β) × St)} {Qc : Array Value → State → Outcome → State → Prop} {d1 : Nat} {y : MethodName} {bytes : ByteArray} {n nA index ci : Nat} {ret' : Option FieldType} {C : String} {T : u_T} {M : Nat} {sl : List Nat} {σ1 : St} {r : Int32} {As st0 : List Value} {k : Nat} (hM : gMetX l y bytes n ret' n1 d1 D tys ST (gwd N sh cA ad a fr σ) (.ref (a k) :: As) (fun A => gQxi D tys A (gwd N sh cA ad a fr) c1 r σ1) (fun A => gXC D tys A (gwd N sh cA ad a fr) c1 σ1)) (G : GC p s m args meth c cc maxL own ret A D tys ST) (hlk : (if c1 = 0 then X else some ((c1, dv), σ1)) = some ((cR, rR), σ')) (hnt : ∀ x ∈ c.exceptionTable.toList, False) (hP : va_P D vwCl (gwd N sh cA ad a fr σ) H) (hD : va_D A (gwd N sh cA ad a fr σ)) (hS : va_S A s.heap H locs)
    (hg : GoodIn BIG (wsV own index C y (.code y bytes n ret' :: BIG))) (hd : y.cls = C ∧ y.cls ≠ "java/lang/invoke/MethodHandle" ∧ y.cls ≠ "java/lang/invoke/VarHandle" ∧ (parseMethodDescriptor y.desc).map (fun d => d.parameters.length) = some nA) (hr : d1 + 1 ≤ R.frames ∧ 19 + n + 40 * d1 ≤ R.locals ∧ cells + n1 ≤ R.cells ∧ slots + 6 * n1 ≤ R.slots ∧ cells + n1 ≤ nn ∧ slots + 6 * n1 ≤ 6 * nn) (hk : k < N) (hs : sh k = .inl (ci, sl)) (hc : vwCl[ci]? = some (C, T, M)) (hn : As.length = nA) (hls : ls.size = maxL) (rest : List Value) (hst : st0 = As.reverse ++ .ref (a k) :: rest) (hcat : (rest.map fun v => v.category).sum ≤ 8) (hdg : decode cc pc = .ok (.invokevirtual index, 3))
    (kk : X = some ((cR, rR), σ') → ∀ (H1 : Heap) (locs1 : List Loc), va_P D vwCl (gwd N sh cA ad a fr σ1) H1 → va_D A (gwd N sh cA ad a fr σ1) → va_S A s.heap H1 locs1 → W p l e R s m args below meth c H1 locs1 (cells + n1) (slots + 6 * n1) (vx_MQ below Qc (gXC D tys A (gwd N sh cA ad a fr) cR σ') args s nn (6 * nn) A) (F0 m (pc + 3) ls (.int r :: rest))) : W p l e R s m args below meth c H locs cells slots (vx_MQ below Qc (gXC D tys A (gwd N sh cA ad a fr) cR σ') args s nn (6 * nn) A) (F0 m pc ls st0) := by
  obtain ⟨hx, hb, hml, hown, hts, -, hlocks, hA, hK, hN, hX, hT⟩ := G
  have hF := g_free hD hS hA
  refine vx_calli (vx_runV (As := As) (rest := rest) ⟨hx, hb, hml, hown, hts⟩ (hM H.size) (cwV nA hts hg rfl rfl rfl hd ⟨by show d1 + 1 ≤ R.frames; exact hr.1, by show 8 + (n + 11) + 40 * d1 ≤ R.locals; omega⟩) ⟨gPre_blind hT, va_recv hK hP hc (gwd_get hk hs), fun U hU hW => ⟨rfl, by rw [hU], by rw [hU]; exact hP, va_K.moved hW.alike hK, hD.weaken (fun _ _ _ _ => trivial), hN.warm hW, hT.2 _ _ _ _ _ _ hX hS hU hW hF⟩⟩ rfl hn hls hst (lv_room hcat) hdg ⟨hr.2.2.1, hr.2.2.2.1⟩) hS (fun q _ h => hF q h) hF (fun q _ h => hF q h) (fun E9 ce q9 u9 t H1 locs1 ht hvm hp hB hz1 hk1 hS1 hce hcv hcl => ?_) (fun r9 u9 t H1 locs1 ht hvm hw hB hz1 hk1 hS1 => ?_)
  · obtain ⟨hc0, rfl⟩ := hp
    obtain ⟨rfl, hP1, hK1, hD1⟩ := hB
    rw [if_neg hc0] at hlk
    cases hlk
    rw [ht] at hP1
    refine vx_out (fun x hx9 => (hnt x hx9).elim) hlocks hce hcv hcl (fun t9 ht9 hvm9 => ?_) hS1.2.2 hr.2.2.2.2.1 hr.2.2.2.2.2
    exact ⟨_, ⟨hc0, rfl⟩, ⟨rfl, by rw [ht9]; exact hP1, va_K.moved hvm9 hK, hD1.weaken (fun _ q _ h => hF q.1 h)⟩, hS1.F ht9⟩
  · obtain ⟨⟨hc0, rfl⟩, rfl⟩ := hw
    subst hc0
    rw [if_pos rfl] at hlk
    obtain ⟨hP1, hK1, hD1⟩ := hB
    rw [ht] at hP1
    exact kk hlk H1 locs1 hP1 (hD1.weaken (fun _ q _ h => hF q.1 h)) hS1

theorem gx_callSXi {β : Type} {dv rR : β} {n1 cR c1 nn : Nat} {σ' : St} {X : Option ((Nat × β) × St)} {Qc : Array Value → State → Outcome → State → Prop} {d1 : Nat} {y : MethodName} {bytes : ByteArray} {n nA index : Nat} {ret' : Option FieldType} {σ1 : St} {r : Int32} {As st0 : List Value} (hM : gMetX l y bytes n ret' n1 d1 D tys ST (gwd N sh cA ad a fr σ) As (fun A => gQxi D tys A (gwd N sh cA ad a fr) c1 r σ1) (fun A => gXC D tys A (gwd N sh cA ad a fr) c1 σ1)) (G : GC p s m args meth c cc maxL own ret A D tys ST) (hlk : (if c1 = 0 then X else some ((c1, dv), σ1)) = some ((cR, rR), σ')) (hnt : ∀ x ∈ c.exceptionTable.toList, False) (hP : va_P D vwCl (gwd N sh cA ad a fr σ) H) (hD : va_D A (gwd N sh cA ad a fr σ)) (hS : va_S A s.heap H locs)
    (hg : GoodIn BIG (va_wsS own index y (.code y bytes n ret' :: BIG))) (hd : y.cls ≠ "java/lang/invoke/MethodHandle" ∧ y.cls ≠ "java/lang/invoke/VarHandle" ∧ (parseMethodDescriptor y.desc).map (fun d => d.parameters.length) = some nA) (hr : d1 + 1 ≤ R.frames ∧ 19 + n + 40 * d1 ≤ R.locals ∧ cells + n1 ≤ R.cells ∧ slots + 6 * n1 ≤ R.slots ∧ cells + n1 ≤ nn ∧ slots + 6 * n1 ≤ 6 * nn) (hn : As.length = nA) (hls : ls.size = maxL) (rest : List Value) (hst : st0 = As.reverse ++ rest) (hcat : (rest.map fun v => v.category).sum ≤ 8) (hdg : decode cc pc = .ok (.invokestatic index, 3))
    (kk : X = some ((cR, rR), σ') → ∀ (H1 : Heap) (locs1 : List Loc), va_P D vwCl (gwd N sh cA ad a fr σ1) H1 → va_D A (gwd N sh cA ad a fr σ1) → va_S A s.heap H1 locs1 → W p l e R s m args below meth c H1 locs1 (cells + n1) (slots + 6 * n1) (vx_MQ below Qc (gXC D tys A (gwd N sh cA ad a fr) cR σ') args s nn (6 * nn) A) (F0 m (pc + 3) ls (.int r :: rest))) : W p l e R s m args below meth c H locs cells slots (vx_MQ below Qc (gXC D tys A (gwd N sh cA ad a fr) cR σ') args s nn (6 * nn) A) (F0 m pc ls st0) := by
  obtain ⟨hx, hb, hml, hown, hts, -, hlocks, hA, hK, hN, hX, hT⟩ := G
  have hF := g_free hD hS hA
  refine vx_calli (vx_runS (As := As) (rest := rest) ⟨hx, hb, hml, hown, hts⟩ (hM H.size) (va_cwS nA hts hg rfl rfl rfl hd ⟨by show d1 + 1 ≤ R.frames; exact hr.1, by show 8 + (n + 11) + 40 * d1 ≤ R.locals; omega⟩) ⟨gPre_blind hT, fun U hU hW => ⟨rfl, by rw [hU], by rw [hU]; exact hP, va_K.moved hW.alike hK, hD.weaken (fun _ _ _ _ => trivial), hN.warm hW, hT.2 _ _ _ _ _ _ hX hS hU hW hF⟩⟩ rfl hn hls hst (lv_room hcat) hdg ⟨hr.2.2.1, hr.2.2.2.1⟩) hS (fun q _ h => hF q h) hF (fun q _ h => hF q h) (fun E9 ce q9 u9 t H1 locs1 ht hvm hp hB hz1 hk1 hS1 hce hcv hcl => ?_) (fun r9 u9 t H1 locs1 ht hvm hw hB hz1 hk1 hS1 => ?_)
  · obtain ⟨hc0, rfl⟩ := hp
    obtain ⟨rfl, hP1, hK1, hD1⟩ := hB
    rw [if_neg hc0] at hlk
    cases hlk
    rw [ht] at hP1
    refine vx_out (fun x hx9 => (hnt x hx9).elim) hlocks hce hcv hcl (fun t9 ht9 hvm9 => ?_) hS1.2.2 hr.2.2.2.2.1 hr.2.2.2.2.2
    exact ⟨_, ⟨hc0, rfl⟩, ⟨rfl, by rw [ht9]; exact hP1, va_K.moved hvm9 hK, hD1.weaken (fun _ q _ h => hF q.1 h)⟩, hS1.F ht9⟩
  · obtain ⟨⟨hc0, rfl⟩, rfl⟩ := hw
    subst hc0
    rw [if_pos rfl] at hlk
    obtain ⟨hP1, hK1, hD1⟩ := hB
    rw [ht] at hP1
    exact kk hlk H1 locs1 hP1 (hD1.weaken (fun _ q _ h => hF q.1 h)) hS1

theorem gx_callSXv {β : Type} {dv rR : β} {n1 cR c1 nn : Nat} {σ' : St} {X : Option ((Nat × β) × St)} {Qc : Array Value → State → Outcome → State → Prop} {d1 : Nat} {y : MethodName} {bytes : ByteArray} {n nA index : Nat} {ret' : Option FieldType} {σ1 : St} {As st0 : List Value} (hM : gMetX l y bytes n ret' n1 d1 D tys ST (gwd N sh cA ad a fr σ) As (fun A => gQxv D tys A (gwd N sh cA ad a fr) c1 σ1) (fun A => gXC D tys A (gwd N sh cA ad a fr) c1 σ1)) (G : GC p s m args meth c cc maxL own ret A D tys ST) (hlk : (if c1 = 0 then X else some ((c1, dv), σ1)) = some ((cR, rR), σ')) (hnt : ∀ x ∈ c.exceptionTable.toList, False) (hP : va_P D vwCl (gwd N sh cA ad a fr σ) H) (hD : va_D A (gwd N sh cA ad a fr σ)) (hS : va_S A s.heap H locs)
    (hg : GoodIn BIG (va_wsS own index y (.code y bytes n ret' :: BIG))) (hd : y.cls ≠ "java/lang/invoke/MethodHandle" ∧ y.cls ≠ "java/lang/invoke/VarHandle" ∧ (parseMethodDescriptor y.desc).map (fun d => d.parameters.length) = some nA) (hr : d1 + 1 ≤ R.frames ∧ 19 + n + 40 * d1 ≤ R.locals ∧ cells + n1 ≤ R.cells ∧ slots + 6 * n1 ≤ R.slots ∧ cells + n1 ≤ nn ∧ slots + 6 * n1 ≤ 6 * nn) (hn : As.length = nA) (hls : ls.size = maxL) (rest : List Value) (hst : st0 = As.reverse ++ rest) (hcat : (rest.map fun v => v.category).sum ≤ 8) (hdg : decode cc pc = .ok (.invokestatic index, 3))
    (kk : X = some ((cR, rR), σ') → ∀ (H1 : Heap) (locs1 : List Loc), va_P D vwCl (gwd N sh cA ad a fr σ1) H1 → va_D A (gwd N sh cA ad a fr σ1) → va_S A s.heap H1 locs1 → W p l e R s m args below meth c H1 locs1 (cells + n1) (slots + 6 * n1) (vx_MQ below Qc (gXC D tys A (gwd N sh cA ad a fr) cR σ') args s nn (6 * nn) A) (F0 m (pc + 3) ls rest)) : W p l e R s m args below meth c H locs cells slots (vx_MQ below Qc (gXC D tys A (gwd N sh cA ad a fr) cR σ') args s nn (6 * nn) A) (F0 m pc ls st0) := by
  obtain ⟨hx, hb, hml, hown, hts, -, hlocks, hA, hK, hN, hX, hT⟩ := G
  have hF := g_free hD hS hA
  refine vx_callv (vx_runS (As := As) (rest := rest) ⟨hx, hb, hml, hown, hts⟩ (hM H.size) (va_cwS nA hts hg rfl rfl rfl hd ⟨by show d1 + 1 ≤ R.frames; exact hr.1, by show 8 + (n + 11) + 40 * d1 ≤ R.locals; omega⟩) ⟨gPre_blind hT, fun U hU hW => ⟨rfl, by rw [hU], by rw [hU]; exact hP, va_K.moved hW.alike hK, hD.weaken (fun _ _ _ _ => trivial), hN.warm hW, hT.2 _ _ _ _ _ _ hX hS hU hW hF⟩⟩ rfl hn hls hst (lv_room hcat) hdg ⟨hr.2.2.1, hr.2.2.2.1⟩) hS (fun q _ h => hF q h) hF (fun q _ h => hF q h) (fun E9 ce q9 u9 t H1 locs1 ht hvm hp hB hz1 hk1 hS1 hce hcv hcl => ?_) (fun u9 t H1 locs1 ht hvm hw hB hz1 hk1 hS1 => ?_)
  · obtain ⟨hc0, rfl⟩ := hp
    obtain ⟨rfl, hP1, hK1, hD1⟩ := hB
    rw [if_neg hc0] at hlk
    cases hlk
    rw [ht] at hP1
    refine vx_out (fun x hx9 => (hnt x hx9).elim) hlocks hce hcv hcl (fun t9 ht9 hvm9 => ?_) hS1.2.2 hr.2.2.2.2.1 hr.2.2.2.2.2
    exact ⟨_, ⟨hc0, rfl⟩, ⟨rfl, by rw [ht9]; exact hP1, va_K.moved hvm9 hK, hD1.weaken (fun _ q _ h => hF q.1 h)⟩, hS1.F ht9⟩
  · obtain ⟨hc0, rfl⟩ := hw
    subst hc0
    rw [if_pos rfl] at hlk
    obtain ⟨hP1, hK1, hD1⟩ := hB
    rw [ht] at hP1
    exact kk hlk H1 locs1 hP1 (hD1.weaken (fun _ q _ h => hF q.1 h)) hS1

end X11
