-- ===== p61: the state's facts that every walk carries =====
def bW (adW tt : Nat → Nat) (A : Nat → Prop) (U : State) : Prop := va_Z "java/lang/String" "COMPACT_STRINGS" "Z" (.int 1) A U U.heap ∧ vk_S 8 wLen wByt adW (fun i => tt (3 + i)) A U U.heap ∧ va_Zq "jdk/internal/util/Preconditions" "SIOOBE_FORMATTER" "Ljava/util/function/BiFunction;" A U U.heap
def bD (tt : Nat → Nat) (A : Nat → Prop) (U : State) : Prop := (va_Z "java/lang/Integer" "DigitOnes" "[B" (.ref (tt 11)) A U U.heap ∧ va_T .byte (tt 11) 100 (fun j => .int (sb_ones j)) A U U.heap) ∧ (va_Z "java/lang/Integer" "DigitTens" "[B" (.ref (tt 12)) A U U.heap ∧ va_T .byte (tt 12) 100 (fun j => .int (sb_tens j)) A U U.heap)
def bN (U : State) : Prop := ∀ q ∈ NCL, va_Nc q.1 q.2 U
def bO (U : State) : Prop := va_AO "NoiseMill$Mill" U ∧ va_AO "NoiseMill$Command" U
def w7Q (U : State) : Prop := ∀ args : Array Value, ∀ y ∈ [yJ5_newCapacity_0f7a4, yJ5_ensureCapacityInternal_d00df, yJ5_putStringAt_47b60, yJ5_inflateIfNeededFor_a7421], (Cond.selects RJ4 y y).before args U = true
def vPool : List Nat := [168, 180, 188, 190, 196, 198, 200, 202, 204, 206, 208, 210, 212, 214, 231, 240]
def vTxt : List String := ["gear 1 4;mesh 7 9;clear 2;step 3", "step;gear 0 6", "step 41", "s", "st", "noise 0 9", "step ", "gear 0", "drop 123", "", "ship 0 6;", "sx", "clear 00", "z", "noise 2 5 ", ";noise 3 9 10;noise 2 5 1;gear 0 5;mesh 3 9"]
def w7K (adV : Nat → Nat) (U : State) : Prop := ∀ i, i < 16 → vk_R RL (vPool.getD i 0) (vTxt.getD i "") (adV i) U
def w7B (b L : Nat) (xs : Nat → Int32) (A : Nat → Prop) (U : State) : Prop := va_X b L xs U U.heap ∧ b < U.heap.size ∧ ¬ A b
def w7L (e0 mi : Nat) (A : Nat → Prop) (U : State) : Prop := va_Z "java/util/ArrayList" "DEFAULTCAPACITY_EMPTY_ELEMENTDATA" "[Ljava/lang/Object;" (.ref e0) A U U.heap ∧ va_T (.object "java/lang/Object") e0 0 (fun _ => .null) A U U.heap ∧ va_AO "java/lang/Object" U ∧ va_Nw (.castable "[I" "java/lang/Object") U ∧ va_Mi "[Ljava/lang/Object;" mi U ∧ va_Dc U
def w7F (U : State) : Prop := va_Fw RJx35411 ({ cls := "java/util/Iterator", name := "hasNext", desc := "()Z" } : MethodName) yJx35411_hasNext_aae02 U ∧ va_Fw RJx35411 ({ cls := "java/util/Iterator", name := "next", desc := "()Ljava/lang/Object;" } : MethodName) yJx35411_next_0502b U
abbrev PR : Type := (Nat → Nat) × (Nat → Nat) × (Nat → Nat) × (Nat → Nat) × (Nat → Nat) × (Nat → Nat) × Nat × Nat × (Nat → Int32) × Nat × Nat
abbrev PR.ad (P : PR) : Nat → Nat := P.1
abbrev PR.adF (P : PR) : Nat → Nat := P.2.1
abbrev PR.adW (P : PR) : Nat → Nat := P.2.2.1
abbrev PR.tt (P : PR) : Nat → Nat := P.2.2.2.1
abbrev PR.adV (P : PR) : Nat → Nat := P.2.2.2.2.1
abbrev PR.tv (P : PR) : Nat → Nat := P.2.2.2.2.2.1
abbrev PR.b (P : PR) : Nat := P.2.2.2.2.2.2.1
abbrev PR.L (P : PR) : Nat := P.2.2.2.2.2.2.2.1
abbrev PR.xs (P : PR) : Nat → Int32 := P.2.2.2.2.2.2.2.2.1
abbrev PR.e0 (P : PR) : Nat := P.2.2.2.2.2.2.2.2.2.1
abbrev PR.mi (P : PR) : Nat := P.2.2.2.2.2.2.2.2.2.2
def STG1 (P : PR) : gST := fun A U => SF P.ad P.adF P.adW P.tt A U ∧ bW P.adW P.tt A U ∧ w7Q U ∧ bD P.tt A U ∧ XF A U ∧ bN U ∧ bO U
def STG2 (P : PR) : gST := fun A U => vk_S 16 vLen vByt P.adV P.tv A U U.heap ∧ w7K P.adV U ∧ w7B P.b P.L P.xs A U ∧ w7L P.e0 P.mi A U ∧ w7F U ∧ va_Nw (.castable "[B" "java/lang/Cloneable") U
def STG (P : PR) : gST := fun A U => STG1 P A U ∧ STG2 P A U
theorem sel_same {C : String} {y : MethodName} {u U : State} {a b : Array Value} (h : u.vm = U.vm) (hb : (Cond.selects C y y).before a u = true) : (Cond.selects C y y).before b U = true := va_tabs rfl h hb
theorem sel_warm {C : String} {y : MethodName} {s U : State} {a b : Array Value} (hy : y.cls ≠ "java/lang/invoke/MethodHandle" ∧ y.cls ≠ "java/lang/invoke/VarHandle") (hW : s.WarmedH U.vm) (hb : (Cond.selects C y y).before a s = true) : (Cond.selects C y y).before b U = true := by
  obtain ⟨c, r, m, h1, h2, h3, h4, mk, h5, h6⟩ := Cond.selects_spec hb
  exact va_tabs rfl (rfl : (s.setVm U.vm).vm = U.vm) (by rw [Cond.selects_setVm hW.alike h3 hy]; exact hb)
/-- a private method is its own choice, whatever class the object has that knows the method's class -/
theorem sel_priv {C : String} {y z : MethodName} {s : State} {a : Array Value} (hyz : y.cls = z.cls) (hy : y.cls ≠ "java/lang/invoke/MethodHandle" ∧ y.cls ≠ "java/lang/invoke/VarHandle") (hz : (Cond.selects C z z).before a s = true) (hpriv : (Cond.privateMethod y).before a s = true) (hinst : (Cond.instanceMethod y).before a s = true) : (Cond.selects C y y).before a s = true := by
  obtain ⟨c, r, m, h1, h2, h3, h4, mk, h5, h6⟩ := Cond.selects_spec hz
  obtain ⟨mk2, methM, hnamed, hmethM, -, -⟩ := Cond.instanceMethod_spec hinst
  have hfound : s.methodFound? y.cls y.name y.desc = some mk2 := State.methodFound?_of_named hnamed hy
  have e1 := findClass_of_methodNamed hnamed
  have e2 := findClass_of_methodNamed h3
  rw [hyz] at e1
  have hcls : mk2.cls = m.cls := Option.some.inj (e1.symm.trans e2)
  have hsel : selectMethod {} s.vm c mk2 = .method mk2 := selectMethod_private hmethM (Cond.privateMethod_at hpriv mk2 methM hnamed hmethM)
  simp only [Cond.before, Cond.holds, Cond.value, h1, hfound, hnamed, hsel, hcls, h5]
  simp; exact h6
section KEEP
variable {ad adF adW tt : Nat → Nat} {A A1 : Nat → Prop} {s U : State}
theorem SF.keep (h : SF ad adF adW tt A s) (hvm : s.vm.Alike U.vm) (hq : ∀ a : Nat, a < s.heap.size → ¬ A a → U.heap[a]? = s.heap[a]?) (hA : ∀ q, A1 q → A q) : SF ad adF adW tt A1 U := by
  obtain ⟨h1, h2, h3, ⟨h4, h5⟩, ⟨h6, h7⟩, h8, h9⟩ := h
  exact ⟨((h1.kept hq).narrow hA).moved hvm, ((h2.kept hq).narrow hA).moved hvm, ((h3.kept hq).narrow hA).moved hvm, ⟨((h4.kept hq).narrow hA).moved hvm, ((h5.kept hq).narrow hA).moved hvm⟩, ⟨((h6.kept hq).narrow hA).moved hvm, ((h7.kept hq).narrow hA).moved hvm⟩, ((h8.kept hq).narrow hA).moved hvm, ((h9.kept hq).narrow hA).moved hvm⟩
theorem bW.keep (h : bW adW tt A s) (hvm : s.vm.Alike U.vm) (hq : ∀ a : Nat, a < s.heap.size → ¬ A a → U.heap[a]? = s.heap[a]?) (hA : ∀ q, A1 q → A q) : bW adW tt A1 U := by
  obtain ⟨h1, h2, h3⟩ := h
  exact ⟨((h1.kept hq).narrow hA).moved hvm, ((h2.kept hq).narrow hA).moved hvm, ((h3.kept hq).narrow hA).moved hvm⟩
theorem bD.keep (h : bD tt A s) (hvm : s.vm.Alike U.vm) (hq : ∀ a : Nat, a < s.heap.size → ¬ A a → U.heap[a]? = s.heap[a]?) (hA : ∀ q, A1 q → A q) : bD tt A1 U := by
  obtain ⟨⟨h1, h2⟩, h3, h4⟩ := h
  exact ⟨⟨((h1.kept hq).narrow hA).moved hvm, ((h2.kept hq).narrow hA).moved hvm⟩, ((h3.kept hq).narrow hA).moved hvm, ((h4.kept hq).narrow hA).moved hvm⟩
theorem w7L.keep {e0 mi : Nat} (h : w7L e0 mi A s) (hvm : s.vm.Alike U.vm) (hn : va_Nw (.castable "[I" "java/lang/Object") U) (hq : ∀ a : Nat, a < s.heap.size → ¬ A a → U.heap[a]? = s.heap[a]?) (hA : ∀ q, A1 q → A q) : w7L e0 mi A1 U := by
  obtain ⟨h1, h2, h3, h4, h5, h6⟩ := h
  exact ⟨((h1.kept hq).narrow hA).moved hvm, ((h2.kept hq).narrow hA).moved hvm, h3.moved hvm, hn, h5.moved hvm, h6.moved hvm⟩
theorem w7F.keep (h : w7F s) (hvm : s.vm.Alike U.vm) : w7F U := ⟨h.1.moved (by decide) hvm, h.2.moved (by decide) hvm⟩
theorem w7B.keep {b L : Nat} {xs : Nat → Int32} (h : w7B b L xs A s) (hvm : s.vm.Alike U.vm) (hz : s.heap.size ≤ U.heap.size) (hq : ∀ a : Nat, a < s.heap.size → ¬ A a → U.heap[a]? = s.heap[a]?) (hA : ∀ q, A1 q → A q) : w7B b L xs A1 U := ⟨(h.1.kept (hq _ h.2.1 h.2.2)).moved hvm, Nat.lt_of_lt_of_le h.2.1 hz, fun q => h.2.2 (hA _ q)⟩
theorem stg1_ok {P : PR} : STok (STG1 P) := by
  refine ⟨fun A U g mk a h => ?_, fun A A1 s U H locs h hS hH hW hA => ?_⟩
  · obtain ⟨h1, h2, h3, h4, ⟨x1, x2, x3, x4⟩, h6, h7⟩ := h
    have hvm : U.vm.Alike (U.calling g mk a).vm := Vm.Alike.refl U.vm
    have hq : ∀ b : Nat, b < U.heap.size → ¬ A b → (U.calling g mk a).heap[b]? = U.heap[b]? := fun _ _ _ => rfl
    have hA : ∀ q, A q → A q := fun _ h => h
    exact ⟨h1.keep hvm hq hA, h2.keep hvm hq hA, fun args y hy => sel_same (u := U) (U := U.calling g mk a) (a := args) rfl (h3 args y hy), h4.keep hvm hq hA, ⟨fun w hw => nw_same (s := U) (U := U.calling g mk a) (List.all_eq_true.mp XL_kd w hw) rfl (x1 w hw), x2.moved hvm, x3.moved hvm, fun q hq9 => (x4 q hq9).imp fun sa h9 => vk_R.same rfl h9⟩, fun q hq9 => (h6 q hq9).moved hvm, h7.1.moved hvm, h7.2.moved hvm⟩
  · obtain ⟨h1, h2, h3, h4, ⟨x1, x2, x3, x4⟩, h6, h7⟩ := h
    have hvm : s.vm.Alike U.vm := hW.alike
    have hq : ∀ b : Nat, b < s.heap.size → ¬ A b → U.heap[b]? = s.heap[b]? := fun b h1 h2 => by rw [hH]; exact hS.2.1 b h1 h2
    have hy4 : ∀ y ∈ [yJ5_newCapacity_0f7a4, yJ5_ensureCapacityInternal_d00df, yJ5_putStringAt_47b60, yJ5_inflateIfNeededFor_a7421], y.cls ≠ "java/lang/invoke/MethodHandle" ∧ y.cls ≠ "java/lang/invoke/VarHandle" := by decide +kernel
    exact ⟨h1.keep hvm hq hA, h2.keep hvm hq hA, fun args y hy => sel_warm (a := args) (hy4 y hy) hW (h3 args y hy), h4.keep hvm hq hA, ⟨fun w hw => nw_warm (List.all_eq_true.mp XL_kd w hw) hW (x1 w hw), ((x2.kept hq).narrow hA).moved hvm, ((x3.kept hq).narrow hA).moved hvm, fun q hq9 => (x4 q hq9).imp fun sa h9 => h9.warm hW⟩, fun q hq9 => (h6 q hq9).moved hvm, h7.1.moved hvm, h7.2.moved hvm⟩
theorem stg2_ok {P : PR} : STok (STG2 P) := by
  refine ⟨fun A U g mk a h => ?_, fun A A1 s U H locs h hS hH hW hA => ?_⟩
  · obtain ⟨h1, h2, h3, h4, h5, h6⟩ := h
    have hvm : U.vm.Alike (U.calling g mk a).vm := Vm.Alike.refl U.vm
    have hq : ∀ b : Nat, b < U.heap.size → ¬ A b → (U.calling g mk a).heap[b]? = U.heap[b]? := fun _ _ _ => rfl
    have hA : ∀ q, A q → A q := fun _ h => h
    exact ⟨((h1.kept hq).narrow hA).moved hvm, fun i hi => vk_R.same rfl (h2 i hi), h3.keep hvm (Nat.le_refl _) hq hA, h4.keep hvm (va_Nw.same (u := U) (U := U.calling g mk a) rfl rfl h4.2.2.2.1) hq hA, h5.keep hvm, va_Nw.same (u := U) (U := U.calling g mk a) rfl rfl h6⟩
  · obtain ⟨h1, h2, h3, h4, h5, h6⟩ := h
    have hvm : s.vm.Alike U.vm := hW.alike
    have hq : ∀ b : Nat, b < s.heap.size → ¬ A b → U.heap[b]? = s.heap[b]? := fun b h1 h2 => by rw [hH]; exact hS.2.1 b h1 h2
    exact ⟨((h1.kept hq).narrow hA).moved hvm, fun i hi => (h2 i hi).warm hW, h3.keep hvm (by rw [hH]; exact hS.1) hq hA, h4.keep hvm (va_Nw.warmC hW h4.2.2.2.1) hq hA, h5.keep hvm, va_Nw.warmC hW h6⟩
theorem stg_ok {P : PR} : STok (STG P) := ⟨fun A U g mk a h => ⟨stg1_ok.1 A U g mk a h.1, stg2_ok.1 A U g mk a h.2⟩, fun A A1 s U H locs h hS hH hW hA => ⟨stg1_ok.2 A A1 s U H locs h.1 hS hH hW hA, stg2_ok.2 A A1 s U H locs h.2 hS hH hW hA⟩⟩
variable {P : PR}
theorem stg_E : STE P.ad P.adF P.adW P.tt (STG P) := ⟨stg_ok, fun _ _ h => h.1.1⟩
theorem stg_W : STW P.adW P.tt (STG P) := fun _ _ h => h.1.2.1
theorem stg_Q : STQ (STG P) := fun _ _ h => h.1.2.2.1
theorem stg_D : STD P.tt (STG P) := fun _ _ h => h.1.2.2.2.1
theorem stg_X : STX (STG P) := fun _ _ h => h.1.2.2.2.2.1
theorem stg_N : STN (STG P) := fun _ _ h => h.1.2.2.2.2.2.1
theorem stg_O : STO (STG P) := fun _ _ h => h.1.2.2.2.2.2.2
theorem stg_V : STV P.adV P.tv (STG P) := fun _ _ h => h.2.1
theorem stg_B : STB P.b P.L P.xs (STG P) := fun _ _ h => h.2.2.2.1
theorem stg_L : STL P.e0 P.mi (STG P) := fun _ _ h => h.2.2.2.2.1
theorem stg_F : STF (STG P) := fun _ _ h => h.2.2.2.2.2.1
theorem stg_B2 {cA : Nat → ClassId} : STB2 cA (STG P) := fun _ _ h => h.2.2.2.2.2.2
end KEEP
