-- ===== the state's facts that every walk carries, kept over calls and writes =====
def bW (adW tt : Nat → Nat) (A : Nat → Prop) (U : State) : Prop := va_Z "java/lang/String" "COMPACT_STRINGS" "Z" (.int 1) A U U.heap ∧ vk_S 8 wLen wByt adW (fun i => tt (3 + i)) A U U.heap ∧ va_Zq "jdk/internal/util/Preconditions" "SIOOBE_FORMATTER" "Ljava/util/function/BiFunction;" A U U.heap
def bP (U : State) : Prop := ∀ args : Array Value, (Cond.selects RJ4 yJ5_newCapacity_0f7a4 yJ5_newCapacity_0f7a4).before args U = true ∧ (Cond.selects RJ4 yJ5_ensureCapacityInternal_d00df yJ5_ensureCapacityInternal_d00df).before args U = true
def bD (tt : Nat → Nat) (A : Nat → Prop) (U : State) : Prop := (va_Z "java/lang/Integer" "DigitOnes" "[B" (.ref (tt 11)) A U U.heap ∧ va_T .byte (tt 11) 100 (fun j => .int (sb_ones j)) A U U.heap) ∧ (va_Z "java/lang/Integer" "DigitTens" "[B" (.ref (tt 12)) A U U.heap ∧ va_T .byte (tt 12) 100 (fun j => .int (sb_tens j)) A U U.heap)
def bN (U : State) : Prop := ∀ q ∈ NCL, va_Nc q.1 q.2 U
def bO (U : State) : Prop := va_AO "NoiseMill$Mill" U ∧ va_AO "NoiseMill$Command" U
def STG (ad adF adW tt : Nat → Nat) : gST := fun A U => SF ad adF adW tt A U ∧ bW adW tt A U ∧ bP U ∧ bD tt A U ∧ XF A U ∧ bN U ∧ bO U
theorem sel_same {C : String} {y : MethodName} {u U : State} {a b : Array Value} (h : u.vm = U.vm) (hb : (Cond.selects C y y).before a u = true) : (Cond.selects C y y).before b U = true := va_tabs rfl h hb
theorem sel_warm {C : String} {y : MethodName} {s U : State} {a b : Array Value} (hy : y.cls ≠ "java/lang/invoke/MethodHandle" ∧ y.cls ≠ "java/lang/invoke/VarHandle") (hW : s.WarmedH U.vm) (hb : (Cond.selects C y y).before a s = true) : (Cond.selects C y y).before b U = true := by
  obtain ⟨c, r, m, h1, h2, h3, h4, mk, h5, h6⟩ := Cond.selects_spec hb
  exact va_tabs rfl (rfl : (s.setVm U.vm).vm = U.vm) (by rw [Cond.selects_setVm hW.alike h3 hy]; exact hb)
/-- a private method is its own choice, whatever class the object has that knows the method's class -/
theorem sel_priv {C : String} {y z : MethodName} {s : State} {a : Array Value} (hyz : y.cls = z.cls) (hy : y.cls ≠ "java/lang/invoke/MethodHandle" ∧ y.cls ≠ "java/lang/invoke/VarHandle") (hz : (Cond.selects C z z).before a s = true) (hpriv : (Cond.privateMethod y).before a s = true) (hinst : (Cond.instanceMethod y).before a s = true) : (Cond.selects C y y).before a s = true := by
  obtain ⟨c, r, m, h1, h2, h3, h4, mk, h5, h6⟩ := Cond.selects_spec hz
  obtain ⟨mk2, methM, hnamed, hmethM, -, -⟩ := Cond.instanceMethod_spec hinst
  have hfound : s.methodFound? y.cls y.name y.desc = some mk2 := State.methodFound?_of_named hnamed hy
  have e1 := findClass_of_methodNamed hnamed
  have e2 := findClass_of_methodNamed h3
  rw [hyz] at e1
  have hcls : mk2.cls = m.cls := Option.some.inj (e1.symm.trans e2)
  have hsel : selectMethod {} s.vm c mk2 = .method mk2 := selectMethod_private hmethM (Cond.privateMethod_at hpriv mk2 methM hnamed hmethM)
  simp only [Cond.before, Cond.holds, Cond.value, h1, hfound, hnamed, hsel, hcls, h5]
  simp; exact h6
section KEEP
variable {ad adF adW tt : Nat → Nat} {A A1 : Nat → Prop} {s U : State}
theorem SF.keep (h : SF ad adF adW tt A s) (hvm : s.vm.Alike U.vm) (hq : ∀ a : Nat, a < s.heap.size → ¬ A a → U.heap[a]? = s.heap[a]?) (hA : ∀ q, A1 q → A q) : SF ad adF adW tt A1 U := by
  obtain ⟨h1, h2, h3, ⟨h4, h5⟩, ⟨h6, h7⟩, h8, h9⟩ := h
  exact ⟨((h1.kept hq).narrow hA).moved hvm, ((h2.kept hq).narrow hA).moved hvm, ((h3.kept hq).narrow hA).moved hvm, ⟨((h4.kept hq).narrow hA).moved hvm, ((h5.kept hq).narrow hA).moved hvm⟩, ⟨((h6.kept hq).narrow hA).moved hvm, ((h7.kept hq).narrow hA).moved hvm⟩, ((h8.kept hq).narrow hA).moved hvm, ((h9.kept hq).narrow hA).moved hvm⟩
theorem bW.keep (h : bW adW tt A s) (hvm : s.vm.Alike U.vm) (hq : ∀ a : Nat, a < s.heap.size → ¬ A a → U.heap[a]? = s.heap[a]?) (hA : ∀ q, A1 q → A q) : bW adW tt A1 U := by
  obtain ⟨h1, h2, h3⟩ := h
  exact ⟨((h1.kept hq).narrow hA).moved hvm, ((h2.kept hq).narrow hA).moved hvm, ((h3.kept hq).narrow hA).moved hvm⟩
theorem bD.keep (h : bD tt A s) (hvm : s.vm.Alike U.vm) (hq : ∀ a : Nat, a < s.heap.size → ¬ A a → U.heap[a]? = s.heap[a]?) (hA : ∀ q, A1 q → A q) : bD tt A1 U := by
  obtain ⟨⟨h1, h2⟩, h3, h4⟩ := h
  exact ⟨⟨((h1.kept hq).narrow hA).moved hvm, ((h2.kept hq).narrow hA).moved hvm⟩, ((h3.kept hq).narrow hA).moved hvm, ((h4.kept hq).narrow hA).moved hvm⟩
theorem stg_ok : STok (STG ad adF adW tt) := by
  refine ⟨fun A U g mk a h => ?_, fun A A1 s U H locs h hS hH hW hA => ?_⟩
  · obtain ⟨h1, h2, h3, h4, ⟨x1, x2, x3, x4⟩, h6, h7⟩ := h
    have hvm : U.vm.Alike (U.calling g mk a).vm := Vm.Alike.refl U.vm
    have hq : ∀ b : Nat, b < U.heap.size → ¬ A b → (U.calling g mk a).heap[b]? = U.heap[b]? := fun _ _ _ => rfl
    have hA : ∀ q, A q → A q := fun _ h => h
    exact ⟨h1.keep hvm hq hA, h2.keep hvm hq hA, fun args => ⟨sel_same (u := U) (U := U.calling g mk a) (a := args) rfl (h3 args).1, sel_same (u := U) (U := U.calling g mk a) (a := args) rfl (h3 args).2⟩, h4.keep hvm hq hA, ⟨fun w hw => nw_same (s := U) (U := U.calling g mk a) (List.all_eq_true.mp XL_kd w hw) rfl (x1 w hw), x2.moved hvm, x3.moved hvm, fun q hq9 => (x4 q hq9).imp fun sa h9 => vk_R.same rfl h9⟩, fun q hq9 => (h6 q hq9).moved hvm, h7.1.moved hvm, h7.2.moved hvm⟩
  · obtain ⟨h1, h2, h3, h4, ⟨x1, x2, x3, x4⟩, h6, h7⟩ := h
    have hvm : s.vm.Alike U.vm := hW.alike
    have hq : ∀ b : Nat, b < s.heap.size → ¬ A b → U.heap[b]? = s.heap[b]? := fun b h1 h2 => by rw [hH]; exact hS.2.1 b h1 h2
    exact ⟨h1.keep hvm hq hA, h2.keep hvm hq hA, fun args => ⟨sel_warm (a := args) (by decide +kernel) hW (h3 args).1, sel_warm (a := args) (by decide +kernel) hW (h3 args).2⟩, h4.keep hvm hq hA, ⟨fun w hw => nw_warm (List.all_eq_true.mp XL_kd w hw) hW (x1 w hw), ((x2.kept hq).narrow hA).moved hvm, ((x3.kept hq).narrow hA).moved hvm, fun q hq9 => (x4 q hq9).imp fun sa h9 => h9.warm hW⟩, fun q hq9 => (h6 q hq9).moved hvm, h7.1.moved hvm, h7.2.moved hvm⟩
theorem stg_E : STE ad adF adW tt (STG ad adF adW tt) := ⟨stg_ok, fun _ _ h => h.1⟩
theorem stg_W : STW adW tt (STG ad adF adW tt) := fun _ _ h => h.2.1
theorem stg_P : STP (STG ad adF adW tt) := fun _ _ h => h.2.2.1
theorem stg_D : STD tt (STG ad adF adW tt) := fun _ _ h => h.2.2.2.1
theorem stg_X : STX (STG ad adF adW tt) := fun _ _ h => h.2.2.2.2.1
theorem stg_N : STN (STG ad adF adW tt) := fun _ _ h => h.2.2.2.2.2.1
theorem stg_O : STO (STG ad adF adW tt) := fun _ _ h => h.2.2.2.2.2.2
end KEEP
