theorem q6_19 : Jvm.Cond.constant "jdk/internal/util/ArraysSupport" (200 : Nat) (2147483639 : Int32) ∈ BIG := bg6 (List.mem_of_getElem? (i := 19) rfl) rfl
-- ===== p61: lists =====
theorem dJxa1e45_init_da8c8_0 : decode cJxa1e45_init_da8c8 0 = .ok (.aload_n 0, 1) := by decide +kernel
theorem dJxa1e45_init_da8c8_1 : decode cJxa1e45_init_da8c8 1 = .ok (.invokespecial 1, 3) := by decide +kernel
theorem dJxa1e45_init_da8c8_4 : decode cJxa1e45_init_da8c8 4 = .ok (.return_, 1) := by decide +kernel
theorem dJxc12de_init_da8c8_0 : decode cJxc12de_init_da8c8 0 = .ok (.aload_n 0, 1) := by decide +kernel
theorem dJxc12de_init_da8c8_1 : decode cJxc12de_init_da8c8 1 = .ok (.invokespecial 1, 3) := by decide +kernel
theorem dJxc12de_init_da8c8_4 : decode cJxc12de_init_da8c8 4 = .ok (.aload_n 0, 1) := by decide +kernel
theorem dJxc12de_init_da8c8_5 : decode cJxc12de_init_da8c8 5 = .ok (.iconst 0, 1) := by decide +kernel
theorem dJxc12de_init_da8c8_6 : decode cJxc12de_init_da8c8 6 = .ok (.putfield 7, 3) := by decide +kernel
theorem dJxc12de_init_da8c8_9 : decode cJxc12de_init_da8c8 9 = .ok (.return_, 1) := by decide +kernel
theorem dJx4a65c_init_da8c8_0 : decode cJx4a65c_init_da8c8 0 = .ok (.aload_n 0, 1) := by decide +kernel
theorem dJx4a65c_init_da8c8_1 : decode cJx4a65c_init_da8c8 1 = .ok (.invokespecial 1, 3) := by decide +kernel
theorem dJx4a65c_init_da8c8_4 : decode cJx4a65c_init_da8c8 4 = .ok (.aload_n 0, 1) := by decide +kernel
theorem dJx4a65c_init_da8c8_5 : decode cJx4a65c_init_da8c8 5 = .ok (.getstatic 39, 3) := by decide +kernel
theorem dJx4a65c_init_da8c8_8 : decode cJx4a65c_init_da8c8 8 = .ok (.putfield 9, 3) := by decide +kernel
theorem dJx4a65c_init_da8c8_11 : decode cJx4a65c_init_da8c8 11 = .ok (.return_, 1) := by decide +kernel
theorem dJx4a65c_grow_92f84_0 : decode cJx4a65c_grow_92f84 0 = .ok (.aload_n 0, 1) := by decide +kernel
theorem dJx4a65c_grow_92f84_1 : decode cJx4a65c_grow_92f84 1 = .ok (.getfield 9, 3) := by decide +kernel
theorem dJx4a65c_grow_92f84_4 : decode cJx4a65c_grow_92f84 4 = .ok (.arraylength, 1) := by decide +kernel
theorem dJx4a65c_grow_92f84_5 : decode cJx4a65c_grow_92f84 5 = .ok (.istore_n 2, 1) := by decide +kernel
theorem dJx4a65c_grow_92f84_6 : decode cJx4a65c_grow_92f84 6 = .ok (.iload_n 2, 1) := by decide +kernel
theorem dJx4a65c_grow_92f84_7 : decode cJx4a65c_grow_92f84 7 = .ok (.ifCond .gt 13, 3) := by decide +kernel
theorem dJx4a65c_grow_92f84_10 : decode cJx4a65c_grow_92f84 10 = .ok (.aload_n 0, 1) := by decide +kernel
theorem dJx4a65c_grow_92f84_11 : decode cJx4a65c_grow_92f84 11 = .ok (.getfield 9, 3) := by decide +kernel
theorem dJx4a65c_grow_92f84_14 : decode cJx4a65c_grow_92f84 14 = .ok (.getstatic 39, 3) := by decide +kernel
theorem dJx4a65c_grow_92f84_17 : decode cJx4a65c_grow_92f84 17 = .ok (.if_acmp .eq 28, 3) := by decide +kernel
theorem dJx4a65c_grow_92f84_20 : decode cJx4a65c_grow_92f84 20 = .ok (.iload_n 2, 1) := by decide +kernel
theorem dJx4a65c_grow_92f84_21 : decode cJx4a65c_grow_92f84 21 = .ok (.iload_n 1, 1) := by decide +kernel
theorem dJx4a65c_grow_92f84_22 : decode cJx4a65c_grow_92f84 22 = .ok (.iload_n 2, 1) := by decide +kernel
theorem dJx4a65c_grow_92f84_23 : decode cJx4a65c_grow_92f84 23 = .ok (.isub, 1) := by decide +kernel
theorem dJx4a65c_grow_92f84_24 : decode cJx4a65c_grow_92f84 24 = .ok (.iload_n 2, 1) := by decide +kernel
theorem dJx4a65c_grow_92f84_25 : decode cJx4a65c_grow_92f84 25 = .ok (.iconst 1, 1) := by decide +kernel
theorem dJx4a65c_grow_92f84_26 : decode cJx4a65c_grow_92f84 26 = .ok (.ishr, 1) := by decide +kernel
theorem dJx4a65c_grow_92f84_27 : decode cJx4a65c_grow_92f84 27 = .ok (.invokestatic 73, 3) := by decide +kernel
theorem dJx4a65c_grow_92f84_30 : decode cJx4a65c_grow_92f84 30 = .ok (.istore_n 3, 1) := by decide +kernel
theorem dJx4a65c_grow_92f84_31 : decode cJx4a65c_grow_92f84 31 = .ok (.aload_n 0, 1) := by decide +kernel
theorem dJx4a65c_grow_92f84_32 : decode cJx4a65c_grow_92f84 32 = .ok (.aload_n 0, 1) := by decide +kernel
theorem dJx4a65c_grow_92f84_33 : decode cJx4a65c_grow_92f84 33 = .ok (.getfield 9, 3) := by decide +kernel
theorem dJx4a65c_grow_92f84_36 : decode cJx4a65c_grow_92f84 36 = .ok (.iload_n 3, 1) := by decide +kernel
theorem dJx4a65c_grow_92f84_37 : decode cJx4a65c_grow_92f84 37 = .ok (.invokestatic 66, 3) := by decide +kernel
theorem dJx4a65c_grow_92f84_40 : decode cJx4a65c_grow_92f84 40 = .ok (.dup_x1, 1) := by decide +kernel
theorem dJx4a65c_grow_92f84_41 : decode cJx4a65c_grow_92f84 41 = .ok (.putfield 9, 3) := by decide +kernel
theorem dJx4a65c_grow_92f84_44 : decode cJx4a65c_grow_92f84 44 = .ok (.areturn, 1) := by decide +kernel
theorem dJx4a65c_grow_92f84_45 : decode cJx4a65c_grow_92f84 45 = .ok (.aload_n 0, 1) := by decide +kernel
theorem dJx4a65c_grow_92f84_46 : decode cJx4a65c_grow_92f84 46 = .ok (.bipush 10, 2) := by decide +kernel
theorem dJx4a65c_grow_92f84_48 : decode cJx4a65c_grow_92f84 48 = .ok (.iload_n 1, 1) := by decide +kernel
theorem dJx4a65c_grow_92f84_49 : decode cJx4a65c_grow_92f84 49 = .ok (.invokestatic 79, 3) := by decide +kernel
theorem dJx4a65c_grow_92f84_52 : decode cJx4a65c_grow_92f84 52 = .ok (.anewarray 7, 3) := by decide +kernel
theorem dJx4a65c_grow_92f84_55 : decode cJx4a65c_grow_92f84 55 = .ok (.dup_x1, 1) := by decide +kernel
theorem dJx4a65c_grow_92f84_56 : decode cJx4a65c_grow_92f84 56 = .ok (.putfield 9, 3) := by decide +kernel
theorem dJx4a65c_grow_92f84_59 : decode cJx4a65c_grow_92f84 59 = .ok (.areturn, 1) := by decide +kernel
theorem dJx4a65c_grow_d5877_0 : decode cJx4a65c_grow_d5877 0 = .ok (.aload_n 0, 1) := by decide +kernel
theorem dJx4a65c_grow_d5877_1 : decode cJx4a65c_grow_d5877 1 = .ok (.aload_n 0, 1) := by decide +kernel
theorem dJx4a65c_grow_d5877_2 : decode cJx4a65c_grow_d5877 2 = .ok (.getfield 48, 3) := by decide +kernel
theorem dJx4a65c_grow_d5877_5 : decode cJx4a65c_grow_d5877 5 = .ok (.iconst 1, 1) := by decide +kernel
theorem dJx4a65c_grow_d5877_6 : decode cJx4a65c_grow_d5877 6 = .ok (.iadd, 1) := by decide +kernel
theorem dJx4a65c_grow_d5877_7 : decode cJx4a65c_grow_d5877 7 = .ok (.invokevirtual 69, 3) := by decide +kernel
theorem dJx4a65c_grow_d5877_10 : decode cJx4a65c_grow_d5877 10 = .ok (.areturn, 1) := by decide +kernel
theorem dJx4a65c_add_72be8_0 : decode cJx4a65c_add_72be8 0 = .ok (.iload_n 3, 1) := by decide +kernel
theorem dJx4a65c_add_72be8_1 : decode cJx4a65c_add_72be8 1 = .ok (.aload_n 2, 1) := by decide +kernel
theorem dJx4a65c_add_72be8_2 : decode cJx4a65c_add_72be8 2 = .ok (.arraylength, 1) := by decide +kernel
theorem dJx4a65c_add_72be8_3 : decode cJx4a65c_add_72be8 3 = .ok (.if_icmp .ne 8, 3) := by decide +kernel
theorem dJx4a65c_add_72be8_6 : decode cJx4a65c_add_72be8 6 = .ok (.aload_n 0, 1) := by decide +kernel
theorem dJx4a65c_add_72be8_7 : decode cJx4a65c_add_72be8 7 = .ok (.invokevirtual 129, 3) := by decide +kernel
theorem dJx4a65c_add_72be8_10 : decode cJx4a65c_add_72be8 10 = .ok (.astore_n 2, 1) := by decide +kernel
theorem dJx4a65c_add_72be8_11 : decode cJx4a65c_add_72be8 11 = .ok (.aload_n 2, 1) := by decide +kernel
theorem dJx4a65c_add_72be8_12 : decode cJx4a65c_add_72be8 12 = .ok (.iload_n 3, 1) := by decide +kernel
theorem dJx4a65c_add_72be8_13 : decode cJx4a65c_add_72be8 13 = .ok (.aload_n 1, 1) := by decide +kernel
theorem dJx4a65c_add_72be8_14 : decode cJx4a65c_add_72be8 14 = .ok (.aastore, 1) := by decide +kernel
theorem dJx4a65c_add_72be8_15 : decode cJx4a65c_add_72be8 15 = .ok (.aload_n 0, 1) := by decide +kernel
theorem dJx4a65c_add_72be8_16 : decode cJx4a65c_add_72be8 16 = .ok (.iload_n 3, 1) := by decide +kernel
theorem dJx4a65c_add_72be8_17 : decode cJx4a65c_add_72be8 17 = .ok (.iconst 1, 1) := by decide +kernel
theorem dJx4a65c_add_72be8_18 : decode cJx4a65c_add_72be8 18 = .ok (.iadd, 1) := by decide +kernel
theorem dJx4a65c_add_72be8_19 : decode cJx4a65c_add_72be8 19 = .ok (.putfield 48, 3) := by decide +kernel
theorem dJx4a65c_add_72be8_22 : decode cJx4a65c_add_72be8 22 = .ok (.return_, 1) := by decide +kernel
theorem dJx4a65c_add_9ea2d_0 : decode cJx4a65c_add_9ea2d 0 = .ok (.aload_n 0, 1) := by decide +kernel
theorem dJx4a65c_add_9ea2d_1 : decode cJx4a65c_add_9ea2d 1 = .ok (.dup, 1) := by decide +kernel
theorem dJx4a65c_add_9ea2d_2 : decode cJx4a65c_add_9ea2d 2 = .ok (.getfield 63, 3) := by decide +kernel
theorem dJx4a65c_add_9ea2d_5 : decode cJx4a65c_add_9ea2d 5 = .ok (.iconst 1, 1) := by decide +kernel
theorem dJx4a65c_add_9ea2d_6 : decode cJx4a65c_add_9ea2d 6 = .ok (.iadd, 1) := by decide +kernel
theorem dJx4a65c_add_9ea2d_7 : decode cJx4a65c_add_9ea2d 7 = .ok (.putfield 63, 3) := by decide +kernel
theorem dJx4a65c_add_9ea2d_10 : decode cJx4a65c_add_9ea2d 10 = .ok (.aload_n 0, 1) := by decide +kernel
theorem dJx4a65c_add_9ea2d_11 : decode cJx4a65c_add_9ea2d 11 = .ok (.aload_n 1, 1) := by decide +kernel
theorem dJx4a65c_add_9ea2d_12 : decode cJx4a65c_add_9ea2d 12 = .ok (.aload_n 0, 1) := by decide +kernel
theorem dJx4a65c_add_9ea2d_13 : decode cJx4a65c_add_9ea2d 13 = .ok (.getfield 9, 3) := by decide +kernel
theorem dJx4a65c_add_9ea2d_16 : decode cJx4a65c_add_9ea2d 16 = .ok (.aload_n 0, 1) := by decide +kernel
theorem dJx4a65c_add_9ea2d_17 : decode cJx4a65c_add_9ea2d 17 = .ok (.getfield 48, 3) := by decide +kernel
theorem dJx4a65c_add_9ea2d_20 : decode cJx4a65c_add_9ea2d 20 = .ok (.invokevirtual 131, 3) := by decide +kernel
theorem dJx4a65c_add_9ea2d_23 : decode cJx4a65c_add_9ea2d 23 = .ok (.iconst 1, 1) := by decide +kernel
theorem dJx4a65c_add_9ea2d_24 : decode cJx4a65c_add_9ea2d 24 = .ok (.ireturn, 1) := by decide +kernel
theorem dJ7_copyOf_1904c_0 : decode cJ7_copyOf_1904c 0 = .ok (.aload_n 0, 1) := by decide +kernel
theorem dJ7_copyOf_1904c_1 : decode cJ7_copyOf_1904c 1 = .ok (.iload_n 1, 1) := by decide +kernel
theorem dJ7_copyOf_1904c_2 : decode cJ7_copyOf_1904c 2 = .ok (.aload_n 0, 1) := by decide +kernel
theorem dJ7_copyOf_1904c_3 : decode cJ7_copyOf_1904c 3 = .ok (.invokevirtual 86, 3) := by decide +kernel
theorem dJ7_copyOf_1904c_6 : decode cJ7_copyOf_1904c 6 = .ok (.invokestatic 300, 3) := by decide +kernel
theorem dJ7_copyOf_1904c_9 : decode cJ7_copyOf_1904c 9 = .ok (.areturn, 1) := by decide +kernel
theorem dJ7_copyOf_6403c_0 : decode cJ7_copyOf_6403c 0 = .ok (.aload_n 2, 1) := by decide +kernel
theorem dJ7_copyOf_6403c_1 : decode cJ7_copyOf_6403c 1 = .ok (.ldc 110, 2) := by decide +kernel
theorem dJ7_copyOf_6403c_3 : decode cJ7_copyOf_6403c 3 = .ok (.if_acmp .ne 10, 3) := by decide +kernel
theorem dJ7_copyOf_6403c_6 : decode cJ7_copyOf_6403c 6 = .ok (.iload_n 1, 1) := by decide +kernel
theorem dJ7_copyOf_6403c_7 : decode cJ7_copyOf_6403c 7 = .ok (.anewarray 2, 3) := by decide +kernel
theorem dJ7_copyOf_6403c_10 : decode cJ7_copyOf_6403c 10 = .ok (.goto 14, 3) := by decide +kernel
theorem dJ7_copyOf_6403c_13 : decode cJ7_copyOf_6403c 13 = .ok (.aload_n 2, 1) := by decide +kernel
theorem dJ7_copyOf_6403c_14 : decode cJ7_copyOf_6403c 14 = .ok (.invokevirtual 90, 3) := by decide +kernel
theorem dJ7_copyOf_6403c_17 : decode cJ7_copyOf_6403c 17 = .ok (.iload_n 1, 1) := by decide +kernel
theorem dJ7_copyOf_6403c_18 : decode cJ7_copyOf_6403c 18 = .ok (.invokestatic 95, 3) := by decide +kernel
theorem dJ7_copyOf_6403c_21 : decode cJ7_copyOf_6403c 21 = .ok (.checkcast 110, 3) := by decide +kernel
theorem dJ7_copyOf_6403c_24 : decode cJ7_copyOf_6403c 24 = .ok (.astore_n 3, 1) := by decide +kernel
theorem dJ7_copyOf_6403c_25 : decode cJ7_copyOf_6403c 25 = .ok (.aload_n 0, 1) := by decide +kernel
theorem dJ7_copyOf_6403c_26 : decode cJ7_copyOf_6403c 26 = .ok (.iconst 0, 1) := by decide +kernel
theorem dJ7_copyOf_6403c_27 : decode cJ7_copyOf_6403c 27 = .ok (.aload_n 3, 1) := by decide +kernel
theorem dJ7_copyOf_6403c_28 : decode cJ7_copyOf_6403c 28 = .ok (.iconst 0, 1) := by decide +kernel
theorem dJ7_copyOf_6403c_29 : decode cJ7_copyOf_6403c 29 = .ok (.aload_n 0, 1) := by decide +kernel
theorem dJ7_copyOf_6403c_30 : decode cJ7_copyOf_6403c 30 = .ok (.arraylength, 1) := by decide +kernel
theorem dJ7_copyOf_6403c_31 : decode cJ7_copyOf_6403c 31 = .ok (.iload_n 1, 1) := by decide +kernel
theorem dJ7_copyOf_6403c_32 : decode cJ7_copyOf_6403c 32 = .ok (.invokestatic 304, 3) := by decide +kernel
theorem dJ7_copyOf_6403c_35 : decode cJ7_copyOf_6403c 35 = .ok (.invokestatic 150, 3) := by decide +kernel
theorem dJ7_copyOf_6403c_38 : decode cJ7_copyOf_6403c 38 = .ok (.aload_n 3, 1) := by decide +kernel
theorem dJ7_copyOf_6403c_39 : decode cJ7_copyOf_6403c 39 = .ok (.areturn, 1) := by decide +kernel
theorem dJ8_newLength_cabcc_0 : decode cJ8_newLength_cabcc 0 = .ok (.iload_n 0, 1) := by decide +kernel
theorem dJ8_newLength_cabcc_1 : decode cJ8_newLength_cabcc 1 = .ok (.iload_n 1, 1) := by decide +kernel
theorem dJ8_newLength_cabcc_2 : decode cJ8_newLength_cabcc 2 = .ok (.iload_n 2, 1) := by decide +kernel
theorem dJ8_newLength_cabcc_3 : decode cJ8_newLength_cabcc 3 = .ok (.invokestatic 194, 3) := by decide +kernel
theorem dJ8_newLength_cabcc_6 : decode cJ8_newLength_cabcc 6 = .ok (.iadd, 1) := by decide +kernel
theorem dJ8_newLength_cabcc_7 : decode cJ8_newLength_cabcc 7 = .ok (.istore_n 3, 1) := by decide +kernel
theorem dJ8_newLength_cabcc_8 : decode cJ8_newLength_cabcc 8 = .ok (.iconst 0, 1) := by decide +kernel
theorem dJ8_newLength_cabcc_9 : decode cJ8_newLength_cabcc 9 = .ok (.iload_n 3, 1) := by decide +kernel
theorem dJ8_newLength_cabcc_10 : decode cJ8_newLength_cabcc 10 = .ok (.if_icmp .ge 11, 3) := by decide +kernel
theorem dJ8_newLength_cabcc_13 : decode cJ8_newLength_cabcc 13 = .ok (.iload_n 3, 1) := by decide +kernel
theorem dJ8_newLength_cabcc_14 : decode cJ8_newLength_cabcc 14 = .ok (.ldc 200, 2) := by decide +kernel
theorem dJ8_newLength_cabcc_16 : decode cJ8_newLength_cabcc 16 = .ok (.if_icmp .gt 5, 3) := by decide +kernel
theorem dJ8_newLength_cabcc_19 : decode cJ8_newLength_cabcc 19 = .ok (.iload_n 3, 1) := by decide +kernel
theorem dJ8_newLength_cabcc_20 : decode cJ8_newLength_cabcc 20 = .ok (.ireturn, 1) := by decide +kernel
theorem dJ8_newLength_cabcc_21 : decode cJ8_newLength_cabcc 21 = .ok (.iload_n 0, 1) := by decide +kernel
theorem dJ8_newLength_cabcc_22 : decode cJ8_newLength_cabcc 22 = .ok (.iload_n 1, 1) := by decide +kernel
theorem dJ8_newLength_cabcc_23 : decode cJ8_newLength_cabcc 23 = .ok (.invokestatic 201, 3) := by decide +kernel
theorem dJ8_newLength_cabcc_26 : decode cJ8_newLength_cabcc 26 = .ok (.ireturn, 1) := by decide +kernel
theorem i_Jx4a65c : ∀ w ∈ u_ws RJx4a65c TJx4a65c 3, w ∈ BIG := show ∀ w ∈ ([u_lay RJx4a65c TJx4a65c 0, u_lay RJx4a65c TJx4a65c 1, u_lay RJx4a65c TJx4a65c 2] : List Cond), w ∈ BIG from List.forall_mem_cons.mpr ⟨q5_225, List.forall_mem_cons.mpr ⟨q5_221, List.forall_mem_cons.mpr ⟨q5_223, List.forall_mem_nil _⟩⟩⟩
/-- what lists ask of the state -/
def STL (e0 mi : Nat) (ST : gST) : Prop := ∀ (A : Nat → Prop) (U : State), ST A U → va_Z "java/util/ArrayList" "DEFAULTCAPACITY_EMPTY_ELEMENTDATA" "[Ljava/lang/Object;" (.ref e0) A U U.heap ∧ va_T (.object "java/lang/Object") e0 0 (fun _ => .null) A U U.heap ∧ va_AO "java/lang/Object" U ∧ va_Nw (.castable "[I" "java/lang/Object") U ∧ va_Mi "[Ljava/lang/Object;" mi U ∧ va_Dc U
/-- rows of five numbers -/
def rwW (cA : Nat → ClassId) (R : List (Nat × (Nat → Int32))) : va_W := R.map fun x => (x.1, .inl (cA 0, 5, .inl x.2))
theorem rwW_get {cA : Nat → ClassId} {R : List (Nat × (Nat → Int32))} {i : Nat} {x : Nat × (Nat → Int32)} (h : R[i]? = some x) : (rwW cA R)[i]? = some (x.1, .inl (cA 0, 5, .inl x.2)) := by
  unfold rwW
  rw [List.getElem?_map, h]
  rfl
theorem rw_any {D : va_G} {cA : Nat → ClassId} {s : State} {H : Heap} {w : va_W} {k v n : Nat} {f : Nat → Int32} (hK : va_K D vwCl (TYS cA) s) (hP : va_P D vwCl w H) (hca : va_Nw (.castable "[I" "java/lang/Object") s) (h : w[k]? = some (v, .inl (cA 0, n, .inl f))) : va_Any "java/lang/Object" s H v := by
  have h1 := hP k _ h
  have h2 : s.vm.findClass "[I" = some (cA 0) := (hK.2 0 (cA 0, .int) rfl).2
  obtain ⟨kC, hkC, -⟩ := Vm.findClass_spec h2
  obtain ⟨c0, t1, f1, f2, f3⟩ := Cond.castable_spec (va_Nw.use (A := #[]) rfl hca)
  cases h2.symm.trans f1
  refine ⟨_, h1, rfl, ⟨kC, hkC⟩, fun comp hc => ?_⟩
  cases hc.symm.trans f2
  exact f3
theorem get2 {α : Type} {a b : α} {l : List α} {k : Nat} : ([a, b] ++ l)[2 + k]? = l[k]? := by
  rw [Nat.add_comm]
  rfl
abbrev LB : Type := Int32 × Nat × Nat × (Nat → Option Nat)
/-- a list of c elements at z, once it has an array -/
def lsC (cA : Nat → ClassId) (z c : Nat) (b : LB) : va_W := [(z, .inr (4, [.int b.1, .ref b.2.1, .int (nI c)])), (b.2.1, .inl (cA 6, b.2.2.1, .inr (.inr (.inr (.inr b.2.2.2)))))]
def LBok (as : List Nat) (b : LB) : Prop := (b.2.2.1 = 10 ∨ b.2.2.1 = 15) ∧ as.length ≤ b.2.2.1 ∧ ∀ i, i < as.length → b.2.2.2 i = some (as.getD i 0)
set_option maxHeartbeats 4000000 in
set_option maxRecDepth 100000 in
theorem mAC_init (l : Launch) (D : va_G) (cA : Nat → ClassId) (ST : gST) (hT : STok ST) (e0 mi : Nat) (hL : STL e0 mi ST) (z : Nat) (mm cc0 : Int32) (v1 : Value) : gMetC l yJxa1e45_init_da8c8 cJxa1e45_init_da8c8 1 1 0 0 D (TYS cA) ST ([(z, .inr (4, [.int mm, v1, .int cc0]))] ++ ([] : va_W)) [.ref z] (fun _ : Unit => True) (fun _ => [(z, .inr (4, [.int mm, v1, .int cc0]))] ++ ([] : va_W)) := by
  refine g_ofWC hT (by decide +kernel) (Nat.le_of_ble_eq_true rfl) ?_
  intro p e s m args below meth c ls A G hnm9 hP hD hl
  have hnm9 : meth.name = "<init>" := hnm9
  have G : GC p s m args meth c cJxa1e45_init_da8c8 1 RJxa1e45 none A D (TYS cA) ST := G
  have hx := G.1
  have hb := G.2.1
  have hS : va_S A s.heap s.heap [] := va_S.rf
  have hP : va_P D vwCl ([(z, .inr (4, [.int mm, v1, .int cc0]))] ++ ([] : va_W)) s.heap := hP
  have hD : va_D A ([(z, .inr (4, [.int mm, v1, .int cc0]))] ++ ([] : va_W)) := hD
  have hl : lv_has ls 1 [(0, .ref z)] := hl
  refine lv_aload_n hx hb dJxa1e45_init_da8c8_0 rfl (lv_at hl 0 rfl) ?_
  refine c_objInit G q5_210 q1_46 q1_47 hl.1 dJxa1e45_init_da8c8_1 (by decide) (Nat.le_of_ble_eq_true rfl) ?_
  exact c_ret () trivial G hP hD hS (by decide) dJxa1e45_init_da8c8_4
set_option maxHeartbeats 4000000 in
set_option maxRecDepth 100000 in
theorem mAL0_init (l : Launch) (D : va_G) (cA : Nat → ClassId) (ST : gST) (hT : STok ST) (e0 mi : Nat) (hL : STL e0 mi ST) (z : Nat) (mm cc0 : Int32) (v1 : Value) : gMetC l yJxc12de_init_da8c8 cJxc12de_init_da8c8 1 2 0 0 D (TYS cA) ST ([(z, .inr (4, [.int mm, v1, .int cc0]))] ++ ([] : va_W)) [.ref z] (fun _ : Unit => True) (fun _ => [(z, .inr (4, [.int 0, v1, .int cc0]))] ++ ([] : va_W)) := by
  refine g_ofWC hT (by decide +kernel) (Nat.le_of_ble_eq_true rfl) ?_
  intro p e s m args below meth c ls A G hnm9 hP hD hl
  have hnm9 : meth.name = "<init>" := hnm9
  have G : GC p s m args meth c cJxc12de_init_da8c8 1 RJxc12de none A D (TYS cA) ST := G
  have hx := G.1
  have hb := G.2.1
  have hS : va_S A s.heap s.heap [] := va_S.rf
  have hP : va_P D vwCl ([(z, .inr (4, [.int mm, v1, .int cc0]))] ++ ([] : va_W)) s.heap := hP
  have hD : va_D A ([(z, .inr (4, [.int mm, v1, .int cc0]))] ++ ([] : va_W)) := hD
  have hl : lv_has ls 1 [(0, .ref z)] := hl
  refine lv_aload_n hx hb dJxc12de_init_da8c8_0 rfl (lv_at hl 0 rfl) ?_
  refine c_callI (F := ([] : va_W)) (B := ([] : va_W)) (mAC_init l D cA ST hT e0 mi hL z mm cc0 v1) G hP hD hS q5_207 q5_208 q1_29 q5_209 rfl (by decide +kernel) ⟨Nat.le_of_ble_eq_true rfl, Nat.le_of_ble_eq_true rfl, Nat.le_of_ble_eq_true rfl, Nat.le_of_ble_eq_true rfl⟩ hl.1 (Nat.le_of_ble_eq_true rfl) dJxc12de_init_da8c8_1 (fun _ H locs _ hP hD hS => ?_)
  have hP : va_P D vwCl ([(z, .inr (4, [.int mm, v1, .int cc0]))] ++ ([] : va_W)) H := hP
  have hD : va_D A ([(z, .inr (4, [.int mm, v1, .int cc0]))] ++ ([] : va_W)) := hD
  refine lv_aload_n hx hb dJxc12de_init_da8c8_4 rfl (lv_at hl 0 rfl) ?_
  refine lv_iconst (v := 0) hx hb dJxc12de_init_da8c8_5 (by decide) ?_
  refine c_put (F := [(z, .inr (4, [.int mm, v1, .int cc0]))]) (B := ([] : va_W)) (ci := 4) (v := .int 0) hnm9 G hP hD hS 0 0 i_Jx4a65c rfl tyJx4a65c tyJx4a65c_ok nmJx4a65c rfl (by decide) q5_217 rfl rfl rfl (Nat.le_of_ble_eq_true rfl) dJxc12de_init_da8c8_6 (fun H locs hP hD hS => ?_)
  have hP : va_P D vwCl ([(z, .inr (4, [.int 0, v1, .int cc0]))] ++ ([] : va_W)) H := hP
  have hD : va_D A ([(z, .inr (4, [.int 0, v1, .int cc0]))] ++ ([] : va_W)) := hD
  exact c_ret () trivial G hP hD hS (by decide) dJxc12de_init_da8c8_9
set_option maxHeartbeats 4000000 in
set_option maxRecDepth 100000 in
theorem mAL_init (l : Launch) (D : va_G) (cA : Nat → ClassId) (ST : gST) (hT : STok ST) (e0 mi : Nat) (hL : STL e0 mi ST) (z : Nat) : gMetC l yJx4a65c_init_da8c8 cJx4a65c_init_da8c8 1 3 0 0 D (TYS cA) ST ([(z, .inr (4, [.int 0, .null, .int 0]))] ++ ([] : va_W)) [.ref z] (fun _ : Unit => True) (fun _ => [(z, .inr (4, [.int 0, .ref e0, .int 0]))] ++ ([] : va_W)) := by
  refine g_ofWC hT (by decide +kernel) (Nat.le_of_ble_eq_true rfl) ?_
  intro p e s m args below meth c ls A G hnm9 hP hD hl
  have hnm9 : meth.name = "<init>" := hnm9
  have G : GC p s m args meth c cJx4a65c_init_da8c8 1 RJx4a65c none A D (TYS cA) ST := G
  have hx := G.1
  have hb := G.2.1
  have hS : va_S A s.heap s.heap [] := va_S.rf
  have hP : va_P D vwCl ([(z, .inr (4, [.int 0, .null, .int 0]))] ++ ([] : va_W)) s.heap := hP
  have hD : va_D A ([(z, .inr (4, [.int 0, .null, .int 0]))] ++ ([] : va_W)) := hD
  have hl : lv_has ls 1 [(0, .ref z)] := hl
  refine lv_aload_n hx hb dJx4a65c_init_da8c8_0 rfl (lv_at hl 0 rfl) ?_
  refine c_callI (F := ([] : va_W)) (B := ([] : va_W)) (mAL0_init l D cA ST hT e0 mi hL z 0 0 .null) G hP hD hS q5_204 q5_205 q1_30 q5_206 rfl (by decide +kernel) ⟨Nat.le_of_ble_eq_true rfl, Nat.le_of_ble_eq_true rfl, Nat.le_of_ble_eq_true rfl, Nat.le_of_ble_eq_true rfl⟩ hl.1 (Nat.le_of_ble_eq_true rfl) dJx4a65c_init_da8c8_1 (fun _ H locs _ hP hD hS => ?_)
  have hP : va_P D vwCl ([(z, .inr (4, [.int 0, .null, .int 0]))] ++ ([] : va_W)) H := hP
  have hD : va_D A ([(z, .inr (4, [.int 0, .null, .int 0]))] ++ ([] : va_W)) := hD
  refine lv_aload_n hx hb dJx4a65c_init_da8c8_4 rfl (lv_at hl 0 rfl) ?_
  refine va_gets hx hb (hL _ _ G.2.2.2.2.2.2.2.2.2.2.1).1 hS G.2.2.2.1 (G.2.2.2.2.1 _ q5_211) (fun _ h9 => h9) dJx4a65c_init_da8c8_5 ?_
  refine c_put (F := [(z, .inr (4, [.int 0, .null, .int 0]))]) (B := ([] : va_W)) (ci := 4) (v := .ref e0) hnm9 G hP hD hS 0 1 i_Jx4a65c rfl tyJx4a65c tyJx4a65c_ok nmJx4a65c rfl (by decide) q5_213 rfl rfl rfl (Nat.le_of_ble_eq_true rfl) dJx4a65c_init_da8c8_8 (fun H locs hP hD hS => ?_)
  have hP : va_P D vwCl ([(z, .inr (4, [.int 0, .ref e0, .int 0]))] ++ ([] : va_W)) H := hP
  have hD : va_D A ([(z, .inr (4, [.int 0, .ref e0, .int 0]))] ++ ([] : va_W)) := hD
  exact c_ret () trivial G hP hD hS (by decide) dJx4a65c_init_da8c8_11
set_option maxHeartbeats 4000000 in
set_option maxRecDepth 100000 in
theorem mM_max (l : Launch) (D : va_G) (cA : Nat → ClassId) (ST : gST) (hT : STok ST) (x y : Nat) (hx9 : x < 2 ^ 31) (hy : y < 2 ^ 31) : gMetG l yJ9_max_7cf53 cJ9_max_7cf53 2 (some .int) 0 0 0 D (TYS cA) ST ([] ++ ([] : va_W)) [.int (nI x), .int (nI y)] (gGi D (TYS cA) (fun r (_ : Unit) => r = if x < y then nI y else nI x) (fun _ => [])) := by
  refine g_ofWG hT (by decide +kernel) (Nat.le_of_ble_eq_true rfl) ?_
  intro p e s m args below meth c ls A G hP hD hl
  have G : GC p s m args meth c cJ9_max_7cf53 2 RJ9 (some .int) A D (TYS cA) ST := G
  have hx := G.1
  have hb := G.2.1
  have hS : va_S A s.heap s.heap [] := va_S.rf
  have hP : va_P D vwCl ([] ++ ([] : va_W)) s.heap := hP
  have hD : va_D A ([] ++ ([] : va_W)) := hD
  have hl : lv_has ls 2 [(0, .int (nI x)), (1, .int (nI y))] := hl
  refine lv_iload_n hx hb dJ9_max_7cf53_0 rfl (lv_at hl 0 rfl) ?_
  refine lv_iload_n hx hb dJ9_max_7cf53_1 rfl (lv_at hl 1 rfl) ?_
  by_cases h1 : x < y
  · skip
    refine lv_icmp_lt (tgt := 9) hx hb dJ9_max_7cf53_2 (by decide) (fun _ => ?_) (fun c9 => absurd (nI_lt h1 hy) c9)
    refine lv_iload_n hx hb dJ9_max_7cf53_9 rfl (lv_at hl 1 rfl) ?_
    exact c_reti () (if_pos h1).symm rfl G hP hD hS (by decide) dJ9_max_7cf53_10
  refine lv_icmp_lt (tgt := 9) hx hb dJ9_max_7cf53_2 (by decide) (fun c9 => absurd c9 (nI_nlt (by omega) hx9)) (fun _ => ?_)
  refine lv_iload_n hx hb dJ9_max_7cf53_5 rfl (lv_at hl 0 rfl) ?_
  refine lv_goto (tgt := 10) hx hb dJ9_max_7cf53_6 (by decide) ?_
  exact c_reti () (if_neg h1).symm rfl G hP hD hS (by decide) dJ9_max_7cf53_10
set_option maxHeartbeats 4000000 in
set_option maxRecDepth 100000 in
theorem mM_min (l : Launch) (D : va_G) (cA : Nat → ClassId) (ST : gST) (hT : STok ST) (x y : Nat) (hx9 : x < 2 ^ 31) (hy : y < 2 ^ 31) : gMetG l yJ9_min_7cf53 cJ9_min_7cf53 2 (some .int) 0 0 0 D (TYS cA) ST ([] ++ ([] : va_W)) [.int (nI x), .int (nI y)] (gGi D (TYS cA) (fun r (_ : Unit) => r = if y < x then nI y else nI x) (fun _ => [])) := by
  refine g_ofWG hT (by decide +kernel) (Nat.le_of_ble_eq_true rfl) ?_
  intro p e s m args below meth c ls A G hP hD hl
  have G : GC p s m args meth c cJ9_min_7cf53 2 RJ9 (some .int) A D (TYS cA) ST := G
  have hx := G.1
  have hb := G.2.1
  have hS : va_S A s.heap s.heap [] := va_S.rf
  have hP : va_P D vwCl ([] ++ ([] : va_W)) s.heap := hP
  have hD : va_D A ([] ++ ([] : va_W)) := hD
  have hl : lv_has ls 2 [(0, .int (nI x)), (1, .int (nI y))] := hl
  refine lv_iload_n hx hb dJ9_min_7cf53_0 rfl (lv_at hl 0 rfl) ?_
  refine lv_iload_n hx hb dJ9_min_7cf53_1 rfl (lv_at hl 1 rfl) ?_
  by_cases h1 : y < x
  · skip
    refine lv_icmp_gt (tgt := 9) hx hb dJ9_min_7cf53_2 (by decide) (fun _ => ?_) (fun c9 => absurd (nI_lt h1 hx9) c9)
    refine lv_iload_n hx hb dJ9_min_7cf53_9 rfl (lv_at hl 1 rfl) ?_
    exact c_reti () (if_pos h1).symm rfl G hP hD hS (by decide) dJ9_min_7cf53_10
  refine lv_icmp_gt (tgt := 9) hx hb dJ9_min_7cf53_2 (by decide) (fun c9 => absurd c9 (nI_nlt (by omega) hy)) (fun _ => ?_)
  refine lv_iload_n hx hb dJ9_min_7cf53_5 rfl (lv_at hl 0 rfl) ?_
  refine lv_goto (tgt := 10) hx hb dJ9_min_7cf53_6 (by decide) ?_
  exact c_reti () (if_neg h1).symm rfl G hP hD hS (by decide) dJ9_min_7cf53_10
set_option maxHeartbeats 4000000 in
set_option maxRecDepth 100000 in
theorem mNL (l : Launch) (D : va_G) (cA : Nat → ClassId) (ST : gST) (hT : STok ST) : gMetG l yJ8_newLength_cabcc cJ8_newLength_cabcc 4 (some .int) 1 0 0 D (TYS cA) ST ([] ++ ([] : va_W)) [.int (nI 10), .int (nI 1), .int (nI 5)] (gGi D (TYS cA) (fun r (_ : Unit) => r = nI 15) (fun _ => [])) := by
  refine g_ofWG hT (by decide +kernel) (Nat.le_of_ble_eq_true rfl) ?_
  intro p e s m args below meth c ls A G hP hD hl
  have G : GC p s m args meth c cJ8_newLength_cabcc 4 RJ8 (some .int) A D (TYS cA) ST := G
  have hx := G.1
  have hb := G.2.1
  have hS : va_S A s.heap s.heap [] := va_S.rf
  have hP : va_P D vwCl ([] ++ ([] : va_W)) s.heap := hP
  have hD : va_D A ([] ++ ([] : va_W)) := hD
  have hl : lv_has ls 4 [(0, .int (nI 10)), (1, .int (nI 1)), (2, .int (nI 5))] := hl
  refine lv_iload_n hx hb dJ8_newLength_cabcc_0 rfl (lv_at hl 0 rfl) ?_
  refine lv_iload_n hx hb dJ8_newLength_cabcc_1 rfl (lv_at hl 1 rfl) ?_
  refine lv_iload_n hx hb dJ8_newLength_cabcc_2 rfl (lv_at hl 2 rfl) ?_
  refine c_callSi (nA := 2) ([] : va_W) ([] : va_W) (mM_max l D cA ST hT 1 5 (by decide) (by decide)) G hP hD hS (List.Perm.refl _) (g_goodSX q6_18 q5_6 q1_28 q5_7) (by decide +kernel) ⟨Nat.le_of_ble_eq_true rfl, Nat.le_of_ble_eq_true rfl, Nat.le_of_ble_eq_true rfl, Nat.le_of_ble_eq_true rfl⟩ rfl hl.1 [.int (nI 10)] rfl (Nat.le_of_ble_eq_true rfl) dJ8_newLength_cabcc_3 (fun r _ H locs hok hP hD hS => ?_)
  have hok : r = nI 5 := hok
  subst hok
  have hP : va_P D vwCl ([] ++ ([] : va_W)) H := hP
  have hD : va_D A ([] ++ ([] : va_W)) := hD
  refine lv_iadd hx hb dJ8_newLength_cabcc_6 ?_
  rw [show nI 10 + nI 5 = (nI 15) from by decide]
  refine lv_istore_n (lv' := [(3, .int (nI 15)), (0, .int (nI 10)), (1, .int (nI 1)), (2, .int (nI 5))]) hx hb dJ8_newLength_cabcc_7 rfl hl (by decide) rfl (fun ls hl => ?_)
  refine lv_iconst (v := 0) hx hb dJ8_newLength_cabcc_8 (by decide) ?_
  refine lv_iload_n hx hb dJ8_newLength_cabcc_9 rfl (lv_at hl 0 rfl) ?_
  refine lv_icmp_ge (tgt := 21) hx hb dJ8_newLength_cabcc_10 (by decide) (fun c9 => absurd c9 (by decide)) (fun _ => ?_)
  refine lv_iload_n hx hb dJ8_newLength_cabcc_13 rfl (lv_at hl 0 rfl) ?_
  refine lv_ldc (v := 2147483639) hx hb G.2.2.2.1 (G.2.2.2.2.1 _ q6_19) dJ8_newLength_cabcc_14 ?_
  refine lv_icmp_gt (tgt := 21) hx hb dJ8_newLength_cabcc_16 (by decide) (fun c9 => absurd c9 (by decide)) (fun _ => ?_)
  refine lv_iload_n hx hb dJ8_newLength_cabcc_19 rfl (lv_at hl 0 rfl) ?_
  exact c_reti () rfl rfl G hP hD hS (by decide) dJ8_newLength_cabcc_20
set_option maxHeartbeats 4000000 in
set_option maxRecDepth 100000 in
theorem mCO3 (l : Launch) (D : va_G) (cA : Nat → ClassId) (ST : gST) (hT : STok ST) (e0 mi : Nat) (hL : STL e0 mi ST) (q : Nat) (g : Nat → Option Nat) (R : List (Nat × (Nat → Int32))) (hg : ∀ i, i < 10 → ∀ y, g i = some y → ∃ (k : Nat) (x : Nat × (Nat → Int32)), R[k]? = some x ∧ x.1 = y) : gMetG l yJ7_copyOf_6403c cJ7_copyOf_6403c 4 (some (.array (.object "java/lang/Object"))) 3 1 15 D (TYS cA) ST ([(q, .inl (cA 6, 10, .inr (.inr (.inr (.inr g)))))] ++ rwW cA R) [.ref q, .int (nI 15), .ref mi] (gGr D (TYS cA) (fun _ : Nat => True) (fun q9 => q9) (fun q9 => (q9, .inl (cA 6, 15, .inr (.inr (.inr (.inr (va_cpy g (fun _ => none) 0 0 10)))))) :: rwW cA R)) := by
  refine g_ofWG hT (by decide +kernel) (Nat.le_of_ble_eq_true rfl) ?_
  intro p e s m args below meth c ls A G hP hD hl
  have G : GC p s m args meth c cJ7_copyOf_6403c 4 RJ7 (some (.array (.object "java/lang/Object"))) A D (TYS cA) ST := G
  have hx := G.1
  have hb := G.2.1
  have hS : va_S A s.heap s.heap [] := va_S.rf
  have hP : va_P D vwCl ([(q, .inl (cA 6, 10, .inr (.inr (.inr (.inr g)))))] ++ rwW cA R) s.heap := hP
  have hD : va_D A ([(q, .inl (cA 6, 10, .inr (.inr (.inr (.inr g)))))] ++ rwW cA R) := hD
  have hl : lv_has ls 4 [(0, .ref q), (1, .int (nI 15)), (2, .ref mi)] := hl
  refine lv_aload_n hx hb dJ7_copyOf_6403c_0 rfl (lv_at hl 2 rfl) ?_
  refine va_ldcM hx hb G.2.2.2.1 (G.2.2.2.2.1 _ q6_55) (hL _ _ G.2.2.2.2.2.2.2.2.2.2.1).2.2.2.2.1 dJ7_copyOf_6403c_1 ?_
  refine lv_acmp_ne (rx := some (mi)) (ry := some (mi)) (tgt := 13) hx hb dJ7_copyOf_6403c_3 (by decide) (fun c9 => absurd (rfl) c9) (fun _ => ?_)
  refine lv_iload_n hx hb dJ7_copyOf_6403c_6 rfl (lv_at hl 1 rfl) ?_
  refine c_newq (F := [(q, .inl (cA 6, 10, .inr (.inr (.inr (.inr g)))))]) (B := rwW cA R) (C := "java/lang/Object") (t := 6) (N' := 15) G (hL _ _ G.2.2.2.2.2.2.2.2.2.2.1).2.2.1 hP hD hS q6_57 rfl (by decide) (by decide) (by decide) (Nat.le_of_ble_eq_true rfl) (Nat.le_of_ble_eq_true rfl) dJ7_copyOf_6403c_7 (fun q9 H hP hD hS => ?_)
  have hP : va_P D vwCl ([(q, .inl (cA 6, 10, .inr (.inr (.inr (.inr g))))), (q9, .inl (cA 6, 15, .inr (.inr (.inr (.inr (fun _ => none))))))] ++ rwW cA R) H := hP
  have hD : va_D A ([(q, .inl (cA 6, 10, .inr (.inr (.inr (.inr g))))), (q9, .inl (cA 6, 15, .inr (.inr (.inr (.inr (fun _ => none))))))] ++ rwW cA R) := hD
  refine lv_goto (tgt := 24) hx hb dJ7_copyOf_6403c_10 (by decide) ?_
  refine lv_astore_n (lv' := [(3, .ref q9), (0, .ref q), (1, .int (nI 15)), (2, .ref mi)]) hx hb dJ7_copyOf_6403c_24 rfl hl (by decide) rfl (fun ls hl => ?_)
  refine lv_aload_n hx hb dJ7_copyOf_6403c_25 rfl (lv_at hl 1 rfl) ?_
  refine lv_iconst (v := 0) hx hb dJ7_copyOf_6403c_26 (by decide) ?_
  refine lv_aload_n hx hb dJ7_copyOf_6403c_27 rfl (lv_at hl 0 rfl) ?_
  refine lv_iconst (v := 0) hx hb dJ7_copyOf_6403c_28 (by decide) ?_
  refine lv_aload_n hx hb dJ7_copyOf_6403c_29 rfl (lv_at hl 1 rfl) ?_
  refine va_alen (v := nI (10)) hx hb G.2.2.2.2.2.2.2.2.1 hP 0 6 rfl rfl rfl dJ7_copyOf_6403c_30 ?_
  refine lv_iload_n hx hb dJ7_copyOf_6403c_31 rfl (lv_at hl 2 rfl) ?_
  refine c_callSi (nA := 2) ([(q, .inl (cA 6, 10, .inr (.inr (.inr (.inr g))))), (q9, .inl (cA 6, 15, .inr (.inr (.inr (.inr (fun _ => none))))))] ++ rwW cA R) ([] : va_W) (mM_min l D cA ST hT 10 15 (by decide) (by decide)) G hP hD hS (List.Perm.of_eq (List.append_nil _).symm) (g_goodSX q6_58 q3_36 q1_28 q3_37) (by decide +kernel) ⟨Nat.le_of_ble_eq_true rfl, Nat.le_of_ble_eq_true rfl, Nat.le_of_ble_eq_true rfl, Nat.le_of_ble_eq_true rfl⟩ rfl hl.1 [.int 0, .ref q9, .int 0, .ref q] rfl (Nat.le_of_ble_eq_true rfl) dJ7_copyOf_6403c_32 (fun r _ H locs hok hP hD hS => ?_)
  have hok : r = nI 10 := hok
  subst hok
  rw [List.append_nil] at hP hD
  have hP : va_P D vwCl ([(q, .inl (cA 6, 10, .inr (.inr (.inr (.inr g))))), (q9, .inl (cA 6, 15, .inr (.inr (.inr (.inr (fun _ => none))))))] ++ rwW cA R) H := hP
  have hD : va_D A ([(q, .inl (cA 6, 10, .inr (.inr (.inr (.inr g))))), (q9, .inl (cA 6, 15, .inr (.inr (.inr (.inr (fun _ => none))))))] ++ rwW cA R) := hD
  have hw9 : nativeFrameWords "java/lang/System" "arraycopy" 5 ≤ 60 := by decide +kernel
  refine va_copyM hx hb (G.2.2.1.trans hl.1.symm) G.2.2.2.1 (G.2.2.2.2.1 _ q6_59) (G.2.2.2.2.1 _ q3_20) (G.2.2.2.2.1 _ q3_19) (G.2.2.2.2.1 _ q1_27) G.2.2.2.2.2.2.2.2.1 hP hD hS 0 1 6 6 rfl rfl rfl rfl (by decide) (by decide) (by decide) (by decide) (by decide) (fun i hi y hy => ?_) (Nat.le_of_ble_eq_true rfl) (by show 0 + (nativeFrameWords "java/lang/System" "arraycopy" 5 + 11) ≤ 40 * 3; omega) dJ7_copyOf_6403c_35 (fun H locs hP hD hS => ?_)
  · rw [show (0 : Int32).toNatClampNeg = 0 from by decide, Nat.zero_add] at hy
    obtain ⟨k, x, hk, rfl⟩ := hg i (by rw [show (nI 10).toNatClampNeg = 10 from by decide] at hi; exact hi) y hy
    exact rw_any (k := 2 + k) G.2.2.2.2.2.2.2.2.1 hP (hL _ _ G.2.2.2.2.2.2.2.2.2.2.1).2.2.2.1 (get2.trans (rwW_get hk))
  have hP : va_P D vwCl ([(q, .inl (cA 6, 10, .inr (.inr (.inr (.inr g))))), (q9, .inl (cA 6, 15, .inr (.inr (.inr (.inr (va_cpy g (fun _ => none) 0 0 10))))))] ++ rwW cA R) H := hP
  have hD : va_D A ([(q, .inl (cA 6, 10, .inr (.inr (.inr (.inr g))))), (q9, .inl (cA 6, 15, .inr (.inr (.inr (.inr (va_cpy g (fun _ => none) 0 0 10))))))] ++ rwW cA R) := hD
  refine lv_aload_n hx hb dJ7_copyOf_6403c_38 rfl (lv_at hl 0 rfl) ?_
  refine c_reta q9 trivial rfl (Or.inr ⟨_, rfl⟩) G (va_P_sl (List.Sublist.cons _ (List.Sublist.refl _)) hP) (va_D_sl (List.Sublist.cons _ (List.Sublist.refl _)) hD) hS (by decide) dJ7_copyOf_6403c_39
set_option maxHeartbeats 4000000 in
set_option maxRecDepth 100000 in
theorem mCO2 (l : Launch) (D : va_G) (cA : Nat → ClassId) (ST : gST) (hT : STok ST) (e0 mi : Nat) (hL : STL e0 mi ST) (q : Nat) (g : Nat → Option Nat) (R : List (Nat × (Nat → Int32))) (hg : ∀ i, i < 10 → ∀ y, g i = some y → ∃ (k : Nat) (x : Nat × (Nat → Int32)), R[k]? = some x ∧ x.1 = y) : gMetG l yJ7_copyOf_1904c cJ7_copyOf_1904c 2 (some (.array (.object "java/lang/Object"))) 4 1 15 D (TYS cA) ST ([(q, .inl (cA 6, 10, .inr (.inr (.inr (.inr g)))))] ++ rwW cA R) [.ref q, .int (nI 15)] (gGr D (TYS cA) (fun _ : Nat => True) (fun q9 => q9) (fun q9 => (q9, .inl (cA 6, 15, .inr (.inr (.inr (.inr (va_cpy g (fun _ => none) 0 0 10)))))) :: rwW cA R)) := by
  refine g_ofWG hT (by decide +kernel) (Nat.le_of_ble_eq_true rfl) ?_
  intro p e s m args below meth c ls A G hP hD hl
  have G : GC p s m args meth c cJ7_copyOf_1904c 2 RJ7 (some (.array (.object "java/lang/Object"))) A D (TYS cA) ST := G
  have hx := G.1
  have hb := G.2.1
  have hS : va_S A s.heap s.heap [] := va_S.rf
  have hP : va_P D vwCl ([(q, .inl (cA 6, 10, .inr (.inr (.inr (.inr g)))))] ++ rwW cA R) s.heap := hP
  have hD : va_D A ([(q, .inl (cA 6, 10, .inr (.inr (.inr (.inr g)))))] ++ rwW cA R) := hD
  have hl : lv_has ls 2 [(0, .ref q), (1, .int (nI 15))] := hl
  refine lv_aload_n hx hb dJ7_copyOf_1904c_0 rfl (lv_at hl 0 rfl) ?_
  refine lv_iload_n hx hb dJ7_copyOf_1904c_1 rfl (lv_at hl 1 rfl) ?_
  refine lv_aload_n hx hb dJ7_copyOf_1904c_2 rfl (lv_at hl 0 rfl) ?_
  have hrc : ∃ cell : Cell, s.heap[q]? = some cell ∧ cell.vm.isStatics = false ∧ s.vm.findClass "[Ljava/lang/Object;" = some cell.cls := ⟨_, hP 0 _ rfl, rfl, va_nmO (G.2.2.2.2.2.2.2.2.1.2 6 (cA 6, .object "java/lang/Object") rfl).2 (by decide)⟩
  refine va_getC hx hb (G.2.2.1.trans hl.1.symm) G.2.2.2.1 (G.2.2.2.2.1 _ q6_26) (hL _ _ G.2.2.2.2.2.2.2.2.2.2.1).2.2.2.2.2.use (G.2.2.2.2.1 _ q7_131) (G.2.2.2.2.1 _ q6_27) (G.2.2.2.2.1 _ q6_51) (hL _ _ G.2.2.2.2.2.2.2.2.2.2.1).2.2.2.2.1 hrc (Nat.le_of_ble_eq_true rfl) (Nat.le_of_ble_eq_true rfl) dJ7_copyOf_1904c_3 ?_
  refine c_callSr (nA := 3) ([] : va_W) ([(q, .inl (cA 6, 10, .inr (.inr (.inr (.inr g)))))] ++ rwW cA R) (mCO3 l D cA ST hT e0 mi hL q g R hg) G hP hD hS (List.Perm.refl _) (g_goodSX q6_52 q6_53 q1_33 q6_54) (by decide +kernel) ⟨Nat.le_of_ble_eq_true rfl, Nat.le_of_ble_eq_true rfl, Nat.le_of_ble_eq_true rfl, Nat.le_of_ble_eq_true rfl⟩ rfl hl.1 [] rfl (Nat.le_of_ble_eq_true rfl) dJ7_copyOf_1904c_6 (fun q9 H locs hok hP hD hS => ?_)
  exact c_reta q9 trivial rfl (Or.inr ⟨_, rfl⟩) G hP hD hS (by decide) dJ7_copyOf_1904c_9
set_option maxHeartbeats 4000000 in
set_option maxRecDepth 100000 in
theorem mGR0 (l : Launch) (D : va_G) (cA : Nat → ClassId) (ST : gST) (hT : STok ST) (e0 mi : Nat) (hL : STL e0 mi ST) (z : Nat) (mm : Int32) (R : List (Nat × (Nat → Int32))) : gMetG l yJx4a65c_grow_92f84 cJx4a65c_grow_92f84 4 (some (.array (.object "java/lang/Object"))) 2 1 10 D (TYS cA) ST ([(z, .inr (4, [.int mm, .ref e0, .int (nI 0)]))] ++ rwW cA R) [.ref z, .int (nI 1)] (gGr D (TYS cA) (fun _ : Nat => True) (fun q9 => q9) (fun q9 => [(z, .inr (4, [.int mm, .ref q9, .int (nI 0)])), (q9, .inl (cA 6, 10, .inr (.inr (.inr (.inr (fun _ => none))))))] ++ rwW cA R)) := by
  refine g_ofWG hT (by decide +kernel) (Nat.le_of_ble_eq_true rfl) ?_
  intro p e s m args below meth c ls A G hP hD hl
  have G : GC p s m args meth c cJx4a65c_grow_92f84 4 RJx4a65c (some (.array (.object "java/lang/Object"))) A D (TYS cA) ST := G
  have hx := G.1
  have hb := G.2.1
  have hS : va_S A s.heap s.heap [] := va_S.rf
  have hP : va_P D vwCl ([(z, .inr (4, [.int mm, .ref e0, .int (nI 0)]))] ++ rwW cA R) s.heap := hP
  have hD : va_D A ([(z, .inr (4, [.int mm, .ref e0, .int (nI 0)]))] ++ rwW cA R) := hD
  have hl : lv_has ls 4 [(0, .ref z), (1, .int (nI 1))] := hl
  refine lv_aload_n hx hb dJx4a65c_grow_92f84_0 rfl (lv_at hl 0 rfl) ?_
  refine c_get (F := [(z, .inr (4, [.int mm, .ref e0, .int (nI 0)]))]) (B := rwW cA R) (C := RJx4a65c) (T := TJx4a65c) (M := 3) (ci := 4) (v := .ref e0) G hP 0 1 i_Jx4a65c rfl rfl (by decide) q5_213 rfl dJx4a65c_grow_92f84_1 ?_
  refine va_tlen (v := 0) hx hb (hL _ _ G.2.2.2.2.2.2.2.2.2.2.1).2.1 hS rfl dJx4a65c_grow_92f84_4 ?_
  refine lv_istore_n (lv' := [(2, .int 0), (0, .ref z), (1, .int (nI 1))]) hx hb dJx4a65c_grow_92f84_5 rfl hl (by decide) rfl (fun ls hl => ?_)
  refine lv_iload_n hx hb dJx4a65c_grow_92f84_6 rfl (lv_at hl 0 rfl) ?_
  refine lv_if_gt (tgt := 20) hx hb dJx4a65c_grow_92f84_7 (by decide) (fun c9 => absurd c9 (by decide)) (fun _ => ?_)
  refine lv_aload_n hx hb dJx4a65c_grow_92f84_10 rfl (lv_at hl 1 rfl) ?_
  refine c_get (F := [(z, .inr (4, [.int mm, .ref e0, .int (nI 0)]))]) (B := rwW cA R) (C := RJx4a65c) (T := TJx4a65c) (M := 3) (ci := 4) (v := .ref e0) G hP 0 1 i_Jx4a65c rfl rfl (by decide) q5_213 rfl dJx4a65c_grow_92f84_11 ?_
  refine va_gets hx hb (hL _ _ G.2.2.2.2.2.2.2.2.2.2.1).1 hS G.2.2.2.1 (G.2.2.2.2.1 _ q5_211) (fun _ h9 => h9) dJx4a65c_grow_92f84_14 ?_
  refine lv_acmp_eq (rx := some (e0)) (ry := some (e0)) (tgt := 45) hx hb dJx4a65c_grow_92f84_17 (by decide) (fun _ => ?_) (fun c9 => absurd (rfl) c9)
  refine lv_aload_n hx hb dJx4a65c_grow_92f84_45 rfl (lv_at hl 1 rfl) ?_
  refine lv_bipush (v := 10) hx hb dJx4a65c_grow_92f84_46 (by decide) ?_
  refine lv_iload_n hx hb dJx4a65c_grow_92f84_48 rfl (lv_at hl 2 rfl) ?_
  refine c_callSi (nA := 2) ([(z, .inr (4, [.int mm, .ref e0, .int (nI 0)]))] ++ rwW cA R) ([] : va_W) (mM_max l D cA ST hT 10 1 (by decide) (by decide)) G hP hD hS (List.Perm.of_eq (List.append_nil _).symm) (g_goodSX q6_60 q5_6 q1_28 q5_7) (by decide +kernel) ⟨Nat.le_of_ble_eq_true rfl, Nat.le_of_ble_eq_true rfl, Nat.le_of_ble_eq_true rfl, Nat.le_of_ble_eq_true rfl⟩ rfl hl.1 [.ref z] rfl (Nat.le_of_ble_eq_true rfl) dJx4a65c_grow_92f84_49 (fun r _ H locs hok hP hD hS => ?_)
  have hok : r = nI 10 := hok
  subst hok
  rw [List.append_nil] at hP hD
  have hP : va_P D vwCl ([(z, .inr (4, [.int mm, .ref e0, .int (nI 0)]))] ++ rwW cA R) H := hP
  have hD : va_D A ([(z, .inr (4, [.int mm, .ref e0, .int (nI 0)]))] ++ rwW cA R) := hD
  refine c_newq (F := [(z, .inr (4, [.int mm, .ref e0, .int (nI 0)]))]) (B := rwW cA R) (C := "java/lang/Object") (t := 6) (N' := 10) G (hL _ _ G.2.2.2.2.2.2.2.2.2.2.1).2.2.1 hP hD hS q6_61 rfl (by decide) (by decide) (by decide) (Nat.le_of_ble_eq_true rfl) (Nat.le_of_ble_eq_true rfl) dJx4a65c_grow_92f84_52 (fun q9 H hP hD hS => ?_)
  have hP : va_P D vwCl ([(z, .inr (4, [.int mm, .ref e0, .int (nI 0)])), (q9, .inl (cA 6, 10, .inr (.inr (.inr (.inr (fun _ => none))))))] ++ rwW cA R) H := hP
  have hD : va_D A ([(z, .inr (4, [.int mm, .ref e0, .int (nI 0)])), (q9, .inl (cA 6, 10, .inr (.inr (.inr (.inr (fun _ => none))))))] ++ rwW cA R) := hD
  refine lv_dup_x1 hx hb dJx4a65c_grow_92f84_55 rfl rfl ?_
  refine c_putJ (F := [(z, .inr (4, [.int mm, .ref e0, .int (nI 0)])), (q9, .inl (cA 6, 10, .inr (.inr (.inr (.inr (fun _ => none))))))]) (B := rwW cA R) (C := RJx4a65c) (T := TJx4a65c) (M := 3) (ci := 4) (v := .ref q9) G hP hD hS 0 1 i_Jx4a65c rfl tyJx4a65c tyJx4a65c_ok nmJx4a65c rfl (by decide) q5_213 rfl rfl rfl (Nat.le_of_ble_eq_true rfl) dJx4a65c_grow_92f84_56 (fun H locs hP hD hS => ?_)
  have hP : va_P D vwCl ([(z, .inr (4, [.int mm, .ref q9, .int (nI 0)])), (q9, .inl (cA 6, 10, .inr (.inr (.inr (.inr (fun _ => none))))))] ++ rwW cA R) H := hP
  have hD : va_D A ([(z, .inr (4, [.int mm, .ref q9, .int (nI 0)])), (q9, .inl (cA 6, 10, .inr (.inr (.inr (.inr (fun _ => none))))))] ++ rwW cA R) := hD
  exact c_reta q9 trivial rfl (Or.inr ⟨_, rfl⟩) G hP hD hS (by decide) dJx4a65c_grow_92f84_59
set_option maxHeartbeats 4000000 in
set_option maxRecDepth 100000 in
theorem mGR1 (l : Launch) (D : va_G) (cA : Nat → ClassId) (ST : gST) (hT : STok ST) (e0 mi : Nat) (hL : STL e0 mi ST) (z q : Nat) (mm : Int32) (g : Nat → Option Nat) (R : List (Nat × (Nat → Int32))) (hg : ∀ i, i < 10 → ∀ y, g i = some y → ∃ (k : Nat) (x : Nat × (Nat → Int32)), R[k]? = some x ∧ x.1 = y) : gMetG l yJx4a65c_grow_92f84 cJx4a65c_grow_92f84 4 (some (.array (.object "java/lang/Object"))) 5 1 15 D (TYS cA) ST ([(z, .inr (4, [.int mm, .ref q, .int (nI 10)])), (q, .inl (cA 6, 10, .inr (.inr (.inr (.inr g)))))] ++ rwW cA R) [.ref z, .int (nI 11)] (gGr D (TYS cA) (fun _ : Nat => True) (fun q9 => q9) (fun q9 => [(z, .inr (4, [.int mm, .ref q9, .int (nI 10)])), (q9, .inl (cA 6, 15, .inr (.inr (.inr (.inr (va_cpy g (fun _ => none) 0 0 10))))))] ++ rwW cA R)) := by
  refine g_ofWG hT (by decide +kernel) (Nat.le_of_ble_eq_true rfl) ?_
  intro p e s m args below meth c ls A G hP hD hl
  have G : GC p s m args meth c cJx4a65c_grow_92f84 4 RJx4a65c (some (.array (.object "java/lang/Object"))) A D (TYS cA) ST := G
  have hx := G.1
  have hb := G.2.1
  have hS : va_S A s.heap s.heap [] := va_S.rf
  have hP : va_P D vwCl ([(z, .inr (4, [.int mm, .ref q, .int (nI 10)])), (q, .inl (cA 6, 10, .inr (.inr (.inr (.inr g)))))] ++ rwW cA R) s.heap := hP
  have hD : va_D A ([(z, .inr (4, [.int mm, .ref q, .int (nI 10)])), (q, .inl (cA 6, 10, .inr (.inr (.inr (.inr g)))))] ++ rwW cA R) := hD
  have hl : lv_has ls 4 [(0, .ref z), (1, .int (nI 11))] := hl
  refine lv_aload_n hx hb dJx4a65c_grow_92f84_0 rfl (lv_at hl 0 rfl) ?_
  refine c_get (F := [(z, .inr (4, [.int mm, .ref q, .int (nI 10)])), (q, .inl (cA 6, 10, .inr (.inr (.inr (.inr g)))))]) (B := rwW cA R) (C := RJx4a65c) (T := TJx4a65c) (M := 3) (ci := 4) (v := .ref q) G hP 0 1 i_Jx4a65c rfl rfl (by decide) q5_213 rfl dJx4a65c_grow_92f84_1 ?_
  refine va_alen (v := nI (10)) hx hb G.2.2.2.2.2.2.2.2.1 hP 1 6 rfl rfl rfl dJx4a65c_grow_92f84_4 ?_
  refine lv_istore_n (lv' := [(2, .int (nI (10))), (0, .ref z), (1, .int (nI 11))]) hx hb dJx4a65c_grow_92f84_5 rfl hl (by decide) rfl (fun ls hl => ?_)
  refine lv_iload_n hx hb dJx4a65c_grow_92f84_6 rfl (lv_at hl 0 rfl) ?_
  refine lv_if_gt (tgt := 20) hx hb dJx4a65c_grow_92f84_7 (by decide) (fun _ => ?_) (fun c9 => absurd (by decide) c9)
  refine lv_iload_n hx hb dJx4a65c_grow_92f84_20 rfl (lv_at hl 0 rfl) ?_
  refine lv_iload_n hx hb dJx4a65c_grow_92f84_21 rfl (lv_at hl 2 rfl) ?_
  refine lv_iload_n hx hb dJx4a65c_grow_92f84_22 rfl (lv_at hl 0 rfl) ?_
  refine lv_isub hx hb dJx4a65c_grow_92f84_23 ?_
  rw [show nI 11 - nI 10 = (nI 1) from by decide]
  refine lv_iload_n hx hb dJx4a65c_grow_92f84_24 rfl (lv_at hl 0 rfl) ?_
  refine lv_iconst (v := 1) hx hb dJx4a65c_grow_92f84_25 (by decide) ?_
  refine lv_ishr hx hb dJx4a65c_grow_92f84_26 ?_
  rw [show nI 10 >>> ((1 : Int32) &&& 31) = (nI 5) from by decide]
  refine c_callSi (nA := 3) ([(z, .inr (4, [.int mm, .ref q, .int (nI 10)])), (q, .inl (cA 6, 10, .inr (.inr (.inr (.inr g)))))] ++ rwW cA R) ([] : va_W) (mNL l D cA ST hT) G hP hD hS (List.Perm.of_eq (List.append_nil _).symm) (g_goodSX q6_15 q6_16 q1_32 q6_17) (by decide +kernel) ⟨Nat.le_of_ble_eq_true rfl, Nat.le_of_ble_eq_true rfl, Nat.le_of_ble_eq_true rfl, Nat.le_of_ble_eq_true rfl⟩ rfl hl.1 [] rfl (Nat.le_of_ble_eq_true rfl) dJx4a65c_grow_92f84_27 (fun r _ H locs hok hP hD hS => ?_)
  have hok : r = nI 15 := hok
  subst hok
  rw [List.append_nil] at hP hD
  have hP : va_P D vwCl ([(z, .inr (4, [.int mm, .ref q, .int (nI 10)])), (q, .inl (cA 6, 10, .inr (.inr (.inr (.inr g)))))] ++ rwW cA R) H := hP
  have hD : va_D A ([(z, .inr (4, [.int mm, .ref q, .int (nI 10)])), (q, .inl (cA 6, 10, .inr (.inr (.inr (.inr g)))))] ++ rwW cA R) := hD
  refine lv_istore_n (lv' := [(3, .int (nI 15)), (2, .int (nI (10))), (0, .ref z), (1, .int (nI 11))]) hx hb dJx4a65c_grow_92f84_30 rfl hl (by decide) rfl (fun ls hl => ?_)
  refine lv_aload_n hx hb dJx4a65c_grow_92f84_31 rfl (lv_at hl 2 rfl) ?_
  refine lv_aload_n hx hb dJx4a65c_grow_92f84_32 rfl (lv_at hl 2 rfl) ?_
  refine c_get (F := [(z, .inr (4, [.int mm, .ref q, .int (nI 10)])), (q, .inl (cA 6, 10, .inr (.inr (.inr (.inr g)))))]) (B := rwW cA R) (C := RJx4a65c) (T := TJx4a65c) (M := 3) (ci := 4) (v := .ref q) G hP 0 1 i_Jx4a65c rfl rfl (by decide) q5_213 rfl dJx4a65c_grow_92f84_33 ?_
  refine lv_iload_n hx hb dJx4a65c_grow_92f84_36 rfl (lv_at hl 0 rfl) ?_
  refine c_callSr (nA := 2) ([(z, .inr (4, [.int mm, .ref q, .int (nI 10)]))]) ([(q, .inl (cA 6, 10, .inr (.inr (.inr (.inr g)))))] ++ rwW cA R) (mCO2 l D cA ST hT e0 mi hL q g R hg) G hP hD hS (List.Perm.refl _) (g_goodSX q6_23 q6_24 q1_33 q6_25) (by decide +kernel) ⟨Nat.le_of_ble_eq_true rfl, Nat.le_of_ble_eq_true rfl, Nat.le_of_ble_eq_true rfl, Nat.le_of_ble_eq_true rfl⟩ rfl hl.1 [.ref z] rfl (Nat.le_of_ble_eq_true rfl) dJx4a65c_grow_92f84_37 (fun q9 H locs hok hP hD hS => ?_)
  have hP : va_P D vwCl ([(z, .inr (4, [.int mm, .ref q, .int (nI 10)])), (q9, .inl (cA 6, 15, .inr (.inr (.inr (.inr (va_cpy g (fun _ => none) 0 0 10))))))] ++ rwW cA R) H := hP
  have hD : va_D A ([(z, .inr (4, [.int mm, .ref q, .int (nI 10)])), (q9, .inl (cA 6, 15, .inr (.inr (.inr (.inr (va_cpy g (fun _ => none) 0 0 10))))))] ++ rwW cA R) := hD
  refine lv_dup_x1 hx hb dJx4a65c_grow_92f84_40 rfl rfl ?_
  refine c_putJ (F := [(z, .inr (4, [.int mm, .ref q, .int (nI 10)])), (q9, .inl (cA 6, 15, .inr (.inr (.inr (.inr (va_cpy g (fun _ => none) 0 0 10))))))]) (B := rwW cA R) (C := RJx4a65c) (T := TJx4a65c) (M := 3) (ci := 4) (v := .ref q9) G hP hD hS 0 1 i_Jx4a65c rfl tyJx4a65c tyJx4a65c_ok nmJx4a65c rfl (by decide) q5_213 rfl rfl rfl (Nat.le_of_ble_eq_true rfl) dJx4a65c_grow_92f84_41 (fun H locs hP hD hS => ?_)
  have hP : va_P D vwCl ([(z, .inr (4, [.int mm, .ref q9, .int (nI 10)])), (q9, .inl (cA 6, 15, .inr (.inr (.inr (.inr (va_cpy g (fun _ => none) 0 0 10))))))] ++ rwW cA R) H := hP
  have hD : va_D A ([(z, .inr (4, [.int mm, .ref q9, .int (nI 10)])), (q9, .inl (cA 6, 15, .inr (.inr (.inr (.inr (va_cpy g (fun _ => none) 0 0 10))))))] ++ rwW cA R) := hD
  exact c_reta q9 trivial rfl (Or.inr ⟨_, rfl⟩) G hP hD hS (by decide) dJx4a65c_grow_92f84_44
set_option maxHeartbeats 4000000 in
set_option maxRecDepth 100000 in
theorem mGG0 (l : Launch) (D : va_G) (cA : Nat → ClassId) (ST : gST) (hT : STok ST) (e0 mi : Nat) (hL : STL e0 mi ST) (z : Nat) (mm : Int32) (R : List (Nat × (Nat → Int32))) : gMetG l yJx4a65c_grow_d5877 cJx4a65c_grow_d5877 1 (some (.array (.object "java/lang/Object"))) 3 1 10 D (TYS cA) ST ([(z, .inr (4, [.int mm, .ref e0, .int (nI 0)]))] ++ rwW cA R) [.ref z] (gGr D (TYS cA) (fun _ : Nat => True) (fun q9 => q9) (fun q9 => [(z, .inr (4, [.int mm, .ref q9, .int (nI 0)])), (q9, .inl (cA 6, 10, .inr (.inr (.inr (.inr (fun _ => none))))))] ++ rwW cA R)) := by
  refine g_ofWG hT (by decide +kernel) (Nat.le_of_ble_eq_true rfl) ?_
  intro p e s m args below meth c ls A G hP hD hl
  have G : GC p s m args meth c cJx4a65c_grow_d5877 1 RJx4a65c (some (.array (.object "java/lang/Object"))) A D (TYS cA) ST := G
  have hx := G.1
  have hb := G.2.1
  have hS : va_S A s.heap s.heap [] := va_S.rf
  have hP : va_P D vwCl ([(z, .inr (4, [.int mm, .ref e0, .int (nI 0)]))] ++ rwW cA R) s.heap := hP
  have hD : va_D A ([(z, .inr (4, [.int mm, .ref e0, .int (nI 0)]))] ++ rwW cA R) := hD
  have hl : lv_has ls 1 [(0, .ref z)] := hl
  refine lv_aload_n hx hb dJx4a65c_grow_d5877_0 rfl (lv_at hl 0 rfl) ?_
  refine lv_aload_n hx hb dJx4a65c_grow_d5877_1 rfl (lv_at hl 0 rfl) ?_
  refine c_get (F := [(z, .inr (4, [.int mm, .ref e0, .int (nI 0)]))]) (B := rwW cA R) (C := RJx4a65c) (T := TJx4a65c) (M := 3) (ci := 4) (v := .int (nI 0)) G hP 0 2 i_Jx4a65c rfl rfl (by decide) q5_216 rfl dJx4a65c_grow_d5877_2 ?_
  refine lv_iconst (v := 1) hx hb dJx4a65c_grow_d5877_5 (by decide) ?_
  refine lv_iadd hx hb dJx4a65c_grow_d5877_6 ?_
  rw [show nI 0 + 1 = (nI 1) from by decide]
  refine c_callVr (nA := 1) (C := RJx4a65c) (T := TJx4a65c) (M := 3) (ci := 4) ([] : va_W) ([(z, .inr (4, [.int mm, .ref e0, .int (nI 0)]))] ++ rwW cA R) 0 rfl rfl (mGR0 l D cA ST hT e0 mi hL z mm R) G hP hD hS (List.Perm.refl _) (g_good q6_11 q6_13 qs_24 q1_31 q6_14) (by decide +kernel) ⟨Nat.le_of_ble_eq_true rfl, Nat.le_of_ble_eq_true rfl, Nat.le_of_ble_eq_true rfl, Nat.le_of_ble_eq_true rfl⟩ rfl hl.1 [] rfl (Nat.le_of_ble_eq_true rfl) dJx4a65c_grow_d5877_7 (fun q9 H locs hok hP hD hS => ?_)
  exact c_reta q9 trivial rfl (Or.inr ⟨_, rfl⟩) G hP hD hS (by decide) dJx4a65c_grow_d5877_10
set_option maxHeartbeats 4000000 in
set_option maxRecDepth 100000 in
theorem mGG1 (l : Launch) (D : va_G) (cA : Nat → ClassId) (ST : gST) (hT : STok ST) (e0 mi : Nat) (hL : STL e0 mi ST) (z q : Nat) (mm : Int32) (g : Nat → Option Nat) (R : List (Nat × (Nat → Int32))) (hg : ∀ i, i < 10 → ∀ y, g i = some y → ∃ (k : Nat) (x : Nat × (Nat → Int32)), R[k]? = some x ∧ x.1 = y) : gMetG l yJx4a65c_grow_d5877 cJx4a65c_grow_d5877 1 (some (.array (.object "java/lang/Object"))) 6 1 15 D (TYS cA) ST ([(z, .inr (4, [.int mm, .ref q, .int (nI 10)])), (q, .inl (cA 6, 10, .inr (.inr (.inr (.inr g)))))] ++ rwW cA R) [.ref z] (gGr D (TYS cA) (fun _ : Nat => True) (fun q9 => q9) (fun q9 => [(z, .inr (4, [.int mm, .ref q9, .int (nI 10)])), (q9, .inl (cA 6, 15, .inr (.inr (.inr (.inr (va_cpy g (fun _ => none) 0 0 10))))))] ++ rwW cA R)) := by
  refine g_ofWG hT (by decide +kernel) (Nat.le_of_ble_eq_true rfl) ?_
  intro p e s m args below meth c ls A G hP hD hl
  have G : GC p s m args meth c cJx4a65c_grow_d5877 1 RJx4a65c (some (.array (.object "java/lang/Object"))) A D (TYS cA) ST := G
  have hx := G.1
  have hb := G.2.1
  have hS : va_S A s.heap s.heap [] := va_S.rf
  have hP : va_P D vwCl ([(z, .inr (4, [.int mm, .ref q, .int (nI 10)])), (q, .inl (cA 6, 10, .inr (.inr (.inr (.inr g)))))] ++ rwW cA R) s.heap := hP
  have hD : va_D A ([(z, .inr (4, [.int mm, .ref q, .int (nI 10)])), (q, .inl (cA 6, 10, .inr (.inr (.inr (.inr g)))))] ++ rwW cA R) := hD
  have hl : lv_has ls 1 [(0, .ref z)] := hl
  refine lv_aload_n hx hb dJx4a65c_grow_d5877_0 rfl (lv_at hl 0 rfl) ?_
  refine lv_aload_n hx hb dJx4a65c_grow_d5877_1 rfl (lv_at hl 0 rfl) ?_
  refine c_get (F := [(z, .inr (4, [.int mm, .ref q, .int (nI 10)])), (q, .inl (cA 6, 10, .inr (.inr (.inr (.inr g)))))]) (B := rwW cA R) (C := RJx4a65c) (T := TJx4a65c) (M := 3) (ci := 4) (v := .int (nI 10)) G hP 0 2 i_Jx4a65c rfl rfl (by decide) q5_216 rfl dJx4a65c_grow_d5877_2 ?_
  refine lv_iconst (v := 1) hx hb dJx4a65c_grow_d5877_5 (by decide) ?_
  refine lv_iadd hx hb dJx4a65c_grow_d5877_6 ?_
  rw [show nI 10 + 1 = (nI 11) from by decide]
  refine c_callVr (nA := 1) (C := RJx4a65c) (T := TJx4a65c) (M := 3) (ci := 4) ([] : va_W) ([(z, .inr (4, [.int mm, .ref q, .int (nI 10)])), (q, .inl (cA 6, 10, .inr (.inr (.inr (.inr g)))))] ++ rwW cA R) 0 rfl rfl (mGR1 l D cA ST hT e0 mi hL z q mm g R hg) G hP hD hS (List.Perm.refl _) (g_good q6_11 q6_13 qs_24 q1_31 q6_14) (by decide +kernel) ⟨Nat.le_of_ble_eq_true rfl, Nat.le_of_ble_eq_true rfl, Nat.le_of_ble_eq_true rfl, Nat.le_of_ble_eq_true rfl⟩ rfl hl.1 [] rfl (Nat.le_of_ble_eq_true rfl) dJx4a65c_grow_d5877_7 (fun q9 H locs hok hP hD hS => ?_)
  exact c_reta q9 trivial rfl (Or.inr ⟨_, rfl⟩) G hP hD hS (by decide) dJx4a65c_grow_d5877_10
