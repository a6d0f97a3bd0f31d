def wLen : List Nat := [5, 4, 4, 4, 5, 7, 4, 4]
def wByt : List (List Int32) := [[110, 111, 105, 115, 101], [100, 114, 111, 112], [103, 101, 97, 114], [109, 101, 115, 104], [99, 108, 101, 97, 114], [114, 101, 108, 101, 97, 115, 101], [115, 104, 105, 112], [115, 116, 101, 112]]
/-- the words of the kinds, and what String's own code asks -/
def STW (adW tt : Nat → Nat) (ST : gST) : Prop := ∀ (A : Nat → Prop) (U : State), ST A U →
  va_Z "java/lang/String" "COMPACT_STRINGS" "Z" (.int 1) A U U.heap ∧ vk_S 8 wLen wByt adW (fun i => tt (3 + i)) A U U.heap ∧ va_Zq "jdk/internal/util/Preconditions" "SIOOBE_FORMATTER" "Ljava/util/function/BiFunction;" A U U.heap
section W12
variable {p : Program} {l : Launch} {e : Env} {R : Room} {s : State} {m : MethodId} {args : Array Value} {below : List Frame} {meth : Method} {c : Code} {H : Heap} {locs : List Loc} {cells slots : Nat} {Q : State → Prop}
variable {cc : ByteArray} {maxL : Nat} {ret : Option FieldType} {pc : Nat} {ls : Array Slot} {rest : List Value} {D : va_G} {A : Nat → Prop} {cA : Nat → ClassId} {ad a : Nat → Nat} {fr : va_W} {σ : St}
variable {ST : gST} {own : String} {N : Nat} {sh : Nat → Sh} {tys : List (ClassId × FieldType)}
theorem g_callWi {d d1 : Nat} {y : MethodName} {bytes : ByteArray} {n nA index : Nat} {ret' : Option FieldType} {C : String} {σ1 : St} {r : Int32} {As st0 : List Value} {b9 : Nat} (hM : gMet l y bytes n ret' d1 D tys ST (gwd N sh cA ad a fr σ) (.ref b9 :: As) (fun A => gQi D tys A (gwd N sh cA ad a fr) r σ1)) (G : GC p s m args meth c cc maxL own ret A D tys ST) (hP : va_P D vwCl (gwd N sh cA ad a fr σ) H) (hD : va_D A (gwd N sh cA ad a fr σ)) (hS : va_S A s.heap H locs)
    (hg : GoodIn BIG (wsV own index C y (.code y bytes n ret' :: BIG))) (hd : y.cls = C ∧ y.cls ≠ "java/lang/invoke/MethodHandle" ∧ y.cls ≠ "java/lang/invoke/VarHandle" ∧ (parseMethodDescriptor y.desc).map (fun d => d.parameters.length) = some nA) (hr : d1 + 1 ≤ d ∧ n ≤ 21) (hrecv : ∃ cell : Cell, H[b9]? = some cell ∧ cell.vm.isStatics = false ∧ s.vm.findClass C = some cell.cls) (hn : As.length = nA) (hls : ls.size = maxL) (rest : List Value) (hst : st0 = As.reverse ++ .ref b9 :: rest) (hcat : (rest.map fun v => v.category).sum ≤ 8) (hdg : decode cc pc = .ok (.invokevirtual index, 3))
    (kk : ∀ (H1 : Heap) (locs1 : List Loc), va_P D vwCl (gwd N sh cA ad a fr σ1) H1 → va_D A (gwd N sh cA ad a fr σ1) → va_S A s.heap H1 locs1 → W p l e (RM d) s m args below meth c H1 locs1 0 0 Q (F0 m (pc + 3) ls (.int r :: rest))) : W p l e (RM d) s m args below meth c H locs 0 0 Q (F0 m pc ls st0) := by
  obtain ⟨hx, hb, hml, hown, hts, -, hlocks, hA, hK, hN, hX, hT⟩ := G
  have hF := g_free hD hS hA
  refine va_calli (va_runV (As := As) (rest := rest) ⟨hx, hb, hml, hown, hts⟩ (hM H.size) (cwV nA hts hg rfl rfl rfl hd ⟨by show d1 + 1 ≤ d; exact hr.1, by show 8 + (n + 11) + 40 * d1 ≤ 40 * d; omega⟩) ⟨gPre_blind hT, hrecv, fun U hU hW => ⟨rfl, by rw [hU], by rw [hU]; exact hP, va_K.moved hW.alike hK, hD.weaken (fun _ _ _ _ => trivial), hN.warm hW, hT.2 _ _ _ _ _ _ hX hS hU hW hF⟩⟩ rfl hn hls hst (lv_room hcat) hdg ⟨Nat.zero_le _, Nat.zero_le _⟩) hS (fun q _ h => hF q h) hF (fun r9 u9 t H1 locs1 ht hvm hw hB hz1 hk1 hS1 => ?_)
  obtain ⟨rfl, rfl⟩ := hw
  obtain ⟨hP1, hK1, hD1⟩ := hB
  rw [ht] at hP1
  exact kk H1 locs1 hP1 (hD1.weaken (fun _ q _ h => hF q.1 h)) hS1
end W12
theorem dJ0_length_8abf5_0 : decode cJ0_length_8abf5 0 = .ok (.aload_n 0, 1) := by decide +kernel
theorem dJ0_length_8abf5_1 : decode cJ0_length_8abf5 1 = .ok (.getfield 9, 3) := by decide +kernel
theorem dJ0_length_8abf5_4 : decode cJ0_length_8abf5 4 = .ok (.arraylength, 1) := by decide +kernel
theorem dJ0_length_8abf5_5 : decode cJ0_length_8abf5 5 = .ok (.aload_n 0, 1) := by decide +kernel
theorem dJ0_length_8abf5_6 : decode cJ0_length_8abf5 6 = .ok (.invokevirtual 335, 3) := by decide +kernel
theorem dJ0_length_8abf5_9 : decode cJ0_length_8abf5 9 = .ok (.ishr, 1) := by decide +kernel
theorem dJ0_length_8abf5_10 : decode cJ0_length_8abf5 10 = .ok (.ireturn, 1) := by decide +kernel
theorem dJ0_charAt_5068e_0 : decode cJ0_charAt_5068e 0 = .ok (.aload_n 0, 1) := by decide +kernel
theorem dJ0_charAt_5068e_1 : decode cJ0_charAt_5068e 1 = .ok (.invokevirtual 492, 3) := by decide +kernel
theorem dJ0_charAt_5068e_4 : decode cJ0_charAt_5068e 4 = .ok (.ifCond .eq 12, 3) := by decide +kernel
theorem dJ0_charAt_5068e_7 : decode cJ0_charAt_5068e 7 = .ok (.aload_n 0, 1) := by decide +kernel
theorem dJ0_charAt_5068e_8 : decode cJ0_charAt_5068e 8 = .ok (.getfield 9, 3) := by decide +kernel
theorem dJ0_charAt_5068e_11 : decode cJ0_charAt_5068e 11 = .ok (.iload_n 1, 1) := by decide +kernel
theorem dJ0_charAt_5068e_12 : decode cJ0_charAt_5068e 12 = .ok (.invokestatic 495, 3) := by decide +kernel
theorem dJ0_charAt_5068e_15 : decode cJ0_charAt_5068e 15 = .ok (.ireturn, 1) := by decide +kernel
theorem dJ0_charAt_5068e_16 : decode cJ0_charAt_5068e 16 = .ok (.aload_n 0, 1) := by decide +kernel
theorem dJ0_charAt_5068e_17 : decode cJ0_charAt_5068e 17 = .ok (.getfield 9, 3) := by decide +kernel
theorem dJ0_charAt_5068e_20 : decode cJ0_charAt_5068e 20 = .ok (.iload_n 1, 1) := by decide +kernel
theorem dJ0_charAt_5068e_21 : decode cJ0_charAt_5068e 21 = .ok (.invokestatic 498, 3) := by decide +kernel
theorem dJ0_charAt_5068e_24 : decode cJ0_charAt_5068e 24 = .ok (.ireturn, 1) := by decide +kernel
theorem dJ0_coder_7d493_0 : decode cJ0_coder_7d493 0 = .ok (.getstatic 38, 3) := by decide +kernel
theorem dJ0_coder_7d493_3 : decode cJ0_coder_7d493 3 = .ok (.ifCond .eq 10, 3) := by decide +kernel
theorem dJ0_coder_7d493_6 : decode cJ0_coder_7d493 6 = .ok (.aload_n 0, 1) := by decide +kernel
theorem dJ0_coder_7d493_7 : decode cJ0_coder_7d493 7 = .ok (.getfield 15, 3) := by decide +kernel
theorem dJ0_coder_7d493_10 : decode cJ0_coder_7d493 10 = .ok (.goto 4, 3) := by decide +kernel
theorem dJ0_coder_7d493_13 : decode cJ0_coder_7d493 13 = .ok (.iconst 1, 1) := by decide +kernel
theorem dJ0_coder_7d493_14 : decode cJ0_coder_7d493 14 = .ok (.ireturn, 1) := by decide +kernel
theorem dJ0_isLatin1_aae02_0 : decode cJ0_isLatin1_aae02 0 = .ok (.getstatic 38, 3) := by decide +kernel
theorem dJ0_isLatin1_aae02_3 : decode cJ0_isLatin1_aae02 3 = .ok (.ifCond .eq 14, 3) := by decide +kernel
theorem dJ0_isLatin1_aae02_6 : decode cJ0_isLatin1_aae02 6 = .ok (.aload_n 0, 1) := by decide +kernel
theorem dJ0_isLatin1_aae02_7 : decode cJ0_isLatin1_aae02 7 = .ok (.getfield 15, 3) := by decide +kernel
theorem dJ0_isLatin1_aae02_10 : decode cJ0_isLatin1_aae02 10 = .ok (.ifCond .ne 7, 3) := by decide +kernel
theorem dJ0_isLatin1_aae02_13 : decode cJ0_isLatin1_aae02 13 = .ok (.iconst 1, 1) := by decide +kernel
theorem dJ0_isLatin1_aae02_14 : decode cJ0_isLatin1_aae02 14 = .ok (.goto 4, 3) := by decide +kernel
theorem dJ0_isLatin1_aae02_17 : decode cJ0_isLatin1_aae02 17 = .ok (.iconst 0, 1) := by decide +kernel
theorem dJ0_isLatin1_aae02_18 : decode cJ0_isLatin1_aae02 18 = .ok (.ireturn, 1) := by decide +kernel
theorem dJ0_checkIndex_df160_0 : decode cJ0_checkIndex_df160 0 = .ok (.iload_n 0, 1) := by decide +kernel
theorem dJ0_checkIndex_df160_1 : decode cJ0_checkIndex_df160 1 = .ok (.iload_n 1, 1) := by decide +kernel
theorem dJ0_checkIndex_df160_2 : decode cJ0_checkIndex_df160 2 = .ok (.getstatic 1053, 3) := by decide +kernel
theorem dJ0_checkIndex_df160_5 : decode cJ0_checkIndex_df160 5 = .ok (.invokestatic 1059, 3) := by decide +kernel
theorem dJ0_checkIndex_df160_8 : decode cJ0_checkIndex_df160 8 = .ok (.pop, 1) := by decide +kernel
theorem dJ0_checkIndex_df160_9 : decode cJ0_checkIndex_df160 9 = .ok (.return_, 1) := by decide +kernel
theorem dJ1_charAt_3b067_0 : decode cJ1_charAt_3b067 0 = .ok (.iload_n 1, 1) := by decide +kernel
theorem dJ1_charAt_3b067_1 : decode cJ1_charAt_3b067 1 = .ok (.aload_n 0, 1) := by decide +kernel
theorem dJ1_charAt_3b067_2 : decode cJ1_charAt_3b067 2 = .ok (.arraylength, 1) := by decide +kernel
theorem dJ1_charAt_3b067_3 : decode cJ1_charAt_3b067 3 = .ok (.invokestatic 9, 3) := by decide +kernel
theorem dJ1_charAt_3b067_6 : decode cJ1_charAt_3b067 6 = .ok (.aload_n 0, 1) := by decide +kernel
theorem dJ1_charAt_3b067_7 : decode cJ1_charAt_3b067 7 = .ok (.iload_n 1, 1) := by decide +kernel
theorem dJ1_charAt_3b067_8 : decode cJ1_charAt_3b067 8 = .ok (.baload, 1) := by decide +kernel
theorem dJ1_charAt_3b067_9 : decode cJ1_charAt_3b067 9 = .ok (.sipush 255, 3) := by decide +kernel
theorem dJ1_charAt_3b067_12 : decode cJ1_charAt_3b067 12 = .ok (.iand, 1) := by decide +kernel
theorem dJ1_charAt_3b067_13 : decode cJ1_charAt_3b067 13 = .ok (.i2c, 1) := by decide +kernel
theorem dJ1_charAt_3b067_14 : decode cJ1_charAt_3b067 14 = .ok (.ireturn, 1) := by decide +kernel
theorem dJ3_checkIndex_8e157_0 : decode cJ3_checkIndex_8e157 0 = .ok (.iload_n 0, 1) := by decide +kernel
theorem dJ3_checkIndex_8e157_1 : decode cJ3_checkIndex_8e157 1 = .ok (.ifCond .lt 8, 3) := by decide +kernel
theorem dJ3_checkIndex_8e157_4 : decode cJ3_checkIndex_8e157 4 = .ok (.iload_n 0, 1) := by decide +kernel
theorem dJ3_checkIndex_8e157_5 : decode cJ3_checkIndex_8e157 5 = .ok (.iload_n 1, 1) := by decide +kernel
theorem dJ3_checkIndex_8e157_6 : decode cJ3_checkIndex_8e157 6 = .ok (.if_icmp .lt 10, 3) := by decide +kernel
theorem dJ3_checkIndex_8e157_9 : decode cJ3_checkIndex_8e157 9 = .ok (.aload_n 2, 1) := by decide +kernel
theorem dJ3_checkIndex_8e157_10 : decode cJ3_checkIndex_8e157 10 = .ok (.iload_n 0, 1) := by decide +kernel
theorem dJ3_checkIndex_8e157_11 : decode cJ3_checkIndex_8e157 11 = .ok (.iload_n 1, 1) := by decide +kernel
theorem dJ3_checkIndex_8e157_12 : decode cJ3_checkIndex_8e157 12 = .ok (.invokestatic 95, 3) := by decide +kernel
theorem dJ3_checkIndex_8e157_15 : decode cJ3_checkIndex_8e157 15 = .ok (.athrow, 1) := by decide +kernel
theorem dJ3_checkIndex_8e157_16 : decode cJ3_checkIndex_8e157 16 = .ok (.iload_n 0, 1) := by decide +kernel
theorem dJ3_checkIndex_8e157_17 : decode cJ3_checkIndex_8e157 17 = .ok (.ireturn, 1) := by decide +kernel
noncomputable def fCI (p1 p2 : Int32) (s0 : St) : Option (Int32 × St) := if p1 < 0 then none else if p1 < p2 then some (p1, s0) else none
set_option maxHeartbeats 4000000 in
set_option maxRecDepth 100000 in
theorem mCI_r (l : Launch) (D : va_G) (cA : Nat → ClassId) (ad adF adW tt a : Nat → Nat) (fr : va_W) (ST : gST) (hT : STE ad adF adW tt ST) (tq : Nat) (p1 p2 : Int32) (s0 : St) (r : Int32) (s' : St) (h : fCI p1 p2 s0 = some (r, s')) : gMet l yJ3_checkIndex_8e157 cJ3_checkIndex_8e157 3 (some .int) 0 D (TYS cA) ST (wc cA ad a fr s0) [.int p1, .int p2, .ref tq] (fun A => gQi D (TYS cA) A (wc cA ad a fr) r s') := by
  refine g_ofWF hT.1 (by decide +kernel) (Nat.le_of_ble_eq_true rfl) ?_
  intro p e s m args below meth c ls A G hP hD hl
  have G : GC p s m args meth c cJ3_checkIndex_8e157 3 RJ3 (some .int) A D (TYS cA) ST := G
  have hx := G.1
  have hb := G.2.1
  have hS : va_S A s.heap s.heap [] := va_S.rf
  have hl : lv_has ls 3 [(0, .int p1), (1, .int p2), (2, .ref tq)] := hl
  unfold fCI at h
  refine lv_iload_n hx hb dJ3_checkIndex_8e157_0 rfl (lv_at hl 0 rfl) ?_
  refine lv_if_lt (tgt := 9) hx hb dJ3_checkIndex_8e157_1 (by decide) (fun c1 => ?_) (fun c1 => ?_)
  · cases it_t c1 h
  · replace h := it_f c1 h
    refine lv_iload_n hx hb dJ3_checkIndex_8e157_4 rfl (lv_at hl 0 rfl) ?_
    refine lv_iload_n hx hb dJ3_checkIndex_8e157_5 rfl (lv_at hl 1 rfl) ?_
    refine lv_icmp_lt (tgt := 16) hx hb dJ3_checkIndex_8e157_6 (by decide) (fun c2 => ?_) (fun c2 => ?_)
    · replace h := it_t c2 h
      refine lv_iload_n hx hb dJ3_checkIndex_8e157_16 rfl (lv_at hl 0 rfl) ?_
      exact g_ret G hP hD hS h rfl dJ3_checkIndex_8e157_17
    · cases it_f c2 h
set_option maxHeartbeats 4000000 in
set_option maxRecDepth 100000 in
theorem mCI_n (l : Launch) (D : va_G) (cA : Nat → ClassId) (ad adF adW tt a : Nat → Nat) (fr : va_W) (ST : gST) (hT : STE ad adF adW tt ST) (p1 p2 : Int32) (s0 : St) (r : Int32) (s' : St) (h : fCI p1 p2 s0 = some (r, s')) : gMet l yJ3_checkIndex_8e157 cJ3_checkIndex_8e157 3 (some .int) 0 D (TYS cA) ST (wc cA ad a fr s0) [.int p1, .int p2, .null] (fun A => gQi D (TYS cA) A (wc cA ad a fr) r s') := by
  refine g_ofWF hT.1 (by decide +kernel) (Nat.le_of_ble_eq_true rfl) ?_
  intro p e s m args below meth c ls A G hP hD hl
  have G : GC p s m args meth c cJ3_checkIndex_8e157 3 RJ3 (some .int) A D (TYS cA) ST := G
  have hx := G.1
  have hb := G.2.1
  have hS : va_S A s.heap s.heap [] := va_S.rf
  have hl : lv_has ls 3 [(0, .int p1), (1, .int p2), (2, .null)] := hl
  unfold fCI at h
  refine lv_iload_n hx hb dJ3_checkIndex_8e157_0 rfl (lv_at hl 0 rfl) ?_
  refine lv_if_lt (tgt := 9) hx hb dJ3_checkIndex_8e157_1 (by decide) (fun c1 => ?_) (fun c1 => ?_)
  · cases it_t c1 h
  · replace h := it_f c1 h
    refine lv_iload_n hx hb dJ3_checkIndex_8e157_4 rfl (lv_at hl 0 rfl) ?_
    refine lv_iload_n hx hb dJ3_checkIndex_8e157_5 rfl (lv_at hl 1 rfl) ?_
    refine lv_icmp_lt (tgt := 16) hx hb dJ3_checkIndex_8e157_6 (by decide) (fun c2 => ?_) (fun c2 => ?_)
    · replace h := it_t c2 h
      refine lv_iload_n hx hb dJ3_checkIndex_8e157_16 rfl (lv_at hl 0 rfl) ?_
      exact g_ret G hP hD hS h rfl dJ3_checkIndex_8e157_17
    · cases it_f c2 h
noncomputable def fJ0_checkIndex_df160 (p1 p2 : Int32) (s0 : St) : Option (Int32 × St) := OB (fCI p1 p2 s0) fun _ s1 => some (0, s1)
set_option maxHeartbeats 4000000 in
set_option maxRecDepth 100000 in
theorem mJ0_checkIndex_df160 (l : Launch) (D : va_G) (cA : Nat → ClassId) (ad adF adW tt a : Nat → Nat) (fr : va_W) (ST : gST) (hT : STE ad adF adW tt ST) (hW : STW adW tt ST) (p1 p2 : Int32) (s0 : St) (r : Int32) (s' : St) (h : fJ0_checkIndex_df160 p1 p2 s0 = some (r, s')) : gMet l yJ0_checkIndex_df160 cJ0_checkIndex_df160 2 none 1 D (TYS cA) ST (wc cA ad a fr s0) [.int p1, .int p2] (fun A => gQv D (TYS cA) A (wc cA ad a fr) s') := by
  refine g_ofWF hT.1 (by decide +kernel) (Nat.le_of_ble_eq_true rfl) ?_
  intro p e s m args below meth c ls A G hP hD hl
  have G : GC p s m args meth c cJ0_checkIndex_df160 2 RJ0 none A D (TYS cA) ST := G
  have hx := G.1
  have hb := G.2.1
  have hS : va_S A s.heap s.heap [] := va_S.rf
  have hl : lv_has ls 2 [(0, .int p1), (1, .int p2)] := hl
  unfold fJ0_checkIndex_df160 at h
  obtain ⟨r1, s1, hg, h⟩ := ob_e h
  refine lv_iload_n hx hb dJ0_checkIndex_df160_0 rfl (lv_at hl 0 rfl) ?_
  refine lv_iload_n hx hb dJ0_checkIndex_df160_1 rfl (lv_at hl 1 rfl) ?_
  rcases (hW _ _ G.2.2.2.2.2.2.2.2.2.2.1).2.2 with hz | ⟨tq, hz⟩
  · refine va_gets hx hb hz hS G.2.2.2.1 (G.2.2.2.2.1 _ q4_221) (fun _ h9 => h9) dJ0_checkIndex_df160_2 ?_
    refine g_callSXi (nA := 3) (mCI_n l D cA ad adF adW tt a fr ST hT p1 p2 s0 r1 s1 hg) G hP hD hS (g_goodSX q4_223 q4_224 q1_36 q4_225) (by decide +kernel) (by decide) rfl hl.1 [] rfl (Nat.le_of_ble_eq_true rfl) dJ0_checkIndex_df160_5 (fun H locs hP hD hS => ?_)
    refine lv_pop hx hb dJ0_checkIndex_df160_8 rfl ?_
    exact g_vret G hP hD hS h dJ0_checkIndex_df160_9
  · refine va_gets hx hb hz hS G.2.2.2.1 (G.2.2.2.2.1 _ q4_221) (fun _ h9 => h9) dJ0_checkIndex_df160_2 ?_
    refine g_callSXi (nA := 3) (mCI_r l D cA ad adF adW tt a fr ST hT tq p1 p2 s0 r1 s1 hg) G hP hD hS (g_goodSX q4_223 q4_224 q1_36 q4_225) (by decide +kernel) (by decide) rfl hl.1 [] rfl (Nat.le_of_ble_eq_true rfl) dJ0_checkIndex_df160_5 (fun H locs hP hD hS => ?_)
    refine lv_pop hx hb dJ0_checkIndex_df160_8 rfl ?_
    exact g_vret G hP hD hS h dJ0_checkIndex_df160_9
noncomputable def fJ1_charAt_3b067 (p1 : Int32) (p2 : Int32) (s0 : St) : Option (Int32 × St) :=
  BND p1 8 <|
  OB (fJ0_checkIndex_df160 p2 (Int32.ofNat (wLen.getD p1.toNatClampNeg 0)) s0) fun r2 s3 =>
  BND p1 8 <|
  BND p2 (wLen.getD p1.toNatClampNeg 0) <|
  CH (((((wByt.getD p1.toNatClampNeg []).getD p2.toNatClampNeg 0) &&& 255).toUInt32 % 65536).toInt32) <|
  some (((((wByt.getD p1.toNatClampNeg []).getD p2.toNatClampNeg 0) &&& 255).toUInt32 % 65536).toInt32, s3)
set_option maxHeartbeats 4000000 in
set_option maxRecDepth 100000 in
theorem mJ1_charAt_3b067 (l : Launch) (D : va_G) (cA : Nat → ClassId) (ad adF adW tt a : Nat → Nat) (fr : va_W) (ST : gST) (hT : STE ad adF adW tt ST) (hW : STW adW tt ST) (p1 : Int32) (p2 : Int32) (s0 : St) (r : Int32) (s' : St) (h : fJ1_charAt_3b067 p1 p2 s0 = some (r, s')) : gMet l yJ1_charAt_3b067 cJ1_charAt_3b067 2 (some .char) 2 D (TYS cA) ST (wc cA ad a fr s0) [.ref (tt (3 + p1.toNatClampNeg)), .int p2] (fun A => gQi D (TYS cA) A (wc cA ad a fr) r s') := by
  refine g_ofWF hT.1 (by decide +kernel) (Nat.le_of_ble_eq_true rfl) ?_
  intro p e s m args below meth c ls A G hP hD hl
  have G : GC p s m args meth c cJ1_charAt_3b067 2 RJ1 (some .char) A D (TYS cA) ST := G
  have hx := G.1
  have hb := G.2.1
  have hS : va_S A s.heap s.heap [] := va_S.rf
  have hl : lv_has ls 2 [(0, .ref (tt (3 + p1.toNatClampNeg))), (1, .int p2)] := hl
  unfold fJ1_charAt_3b067 at h
  refine lv_iload_n hx hb dJ1_charAt_3b067_0 rfl (lv_at hl 1 rfl) ?_
  refine lv_aload_n hx hb dJ1_charAt_3b067_1 rfl (lv_at hl 0 rfl) ?_
  obtain ⟨b1, h⟩ := bnd_e h
  refine va_tlen (v := Int32.ofNat (wLen.getD p1.toNatClampNeg 0)) hx hb ((hW _ _ G.2.2.2.2.2.2.2.2.2.2.1).2.1.1 _ (vp_lt b1)).2.2.2 hS rfl dJ1_charAt_3b067_2 ?_
  obtain ⟨r2, s3, g4, h⟩ := ob_e h
  refine g_callSXv (nA := 2) (mJ0_checkIndex_df160 l D cA ad adF adW tt a fr ST hT hW p2 (Int32.ofNat (wLen.getD p1.toNatClampNeg 0)) s0 r2 s3 g4) G hP hD hS (g_goodSX q4_218 q4_219 q1_14 q4_220) (by decide +kernel) (by decide) rfl hl.1 [] rfl (Nat.le_of_ble_eq_true rfl) dJ1_charAt_3b067_3 (fun H locs hP hD hS => ?_)
  refine lv_aload_n hx hb dJ1_charAt_3b067_6 rfl (lv_at hl 0 rfl) ?_
  refine lv_iload_n hx hb dJ1_charAt_3b067_7 rfl (lv_at hl 1 rfl) ?_
  obtain ⟨b6, h⟩ := bnd_e h
  obtain ⟨b5, h⟩ := bnd_e h
  refine va_tb hx hb ((hW _ _ G.2.2.2.2.2.2.2.2.2.2.1).2.1.1 _ (vp_lt b6)).2.2.2 hS b5 rfl dJ1_charAt_3b067_8 ?_
  refine lv_sipush (v := 255) hx hb dJ1_charAt_3b067_9 (by decide) ?_
  refine lv_iand hx hb dJ1_charAt_3b067_12 ?_
  refine lv_i2c hx hb dJ1_charAt_3b067_13 rfl ?_
  obtain ⟨b7, h⟩ := ch_e h
  exact g_ret G hP hD hS h (ch_n b7) dJ1_charAt_3b067_14
noncomputable def fJ0_coder_7d493 (p0 : Int32) (s0 : St) : Option (Int32 × St) :=
  if (1 : Int32) = 0 then
    some (1, s0)
  else
    BND p0 8 <|
    some (0, s0)
set_option maxHeartbeats 4000000 in
set_option maxRecDepth 100000 in
theorem mJ0_coder_7d493 (l : Launch) (D : va_G) (cA : Nat → ClassId) (ad adF adW tt a : Nat → Nat) (fr : va_W) (ST : gST) (hT : STE ad adF adW tt ST) (hW : STW adW tt ST) (p0 : Int32) (s0 : St) (r : Int32) (s' : St) (h : fJ0_coder_7d493 p0 s0 = some (r, s')) : gMet l yJ0_coder_7d493 cJ0_coder_7d493 1 (some .byte) 0 D (TYS cA) ST (wc cA ad a fr s0) [.ref (adW p0.toNatClampNeg)] (fun A => gQi D (TYS cA) A (wc cA ad a fr) r s') := by
  refine g_ofWF hT.1 (by decide +kernel) (Nat.le_of_ble_eq_true rfl) ?_
  intro p e s m args below meth c ls A G hP hD hl
  have G : GC p s m args meth c cJ0_coder_7d493 1 RJ0 (some .byte) A D (TYS cA) ST := G
  have hx := G.1
  have hb := G.2.1
  have hS : va_S A s.heap s.heap [] := va_S.rf
  have hl : lv_has ls 1 [(0, .ref (adW p0.toNatClampNeg))] := hl
  unfold fJ0_coder_7d493 at h
  refine va_gets hx hb (hW _ _ G.2.2.2.2.2.2.2.2.2.2.1).1 hS G.2.2.2.1 (G.2.2.2.2.1 _ q4_206) (fun _ h9 => h9) dJ0_coder_7d493_0 ?_
  refine lv_if_eq (tgt := 13) hx hb dJ0_coder_7d493_3 (by decide) (fun c1 => ?_) (fun c1 => ?_)
  · replace h := it_t c1 h
    refine lv_iconst (v := 1) hx hb dJ0_coder_7d493_13 (by decide) ?_
    exact g_ret G hP hD hS h rfl dJ0_coder_7d493_14
  · replace h := it_f c1 h
    refine lv_aload_n hx hb dJ0_coder_7d493_6 rfl (lv_at hl 0 rfl) ?_
    obtain ⟨b2, h⟩ := bnd_e h
    refine vk_getf hx hb ((hW _ _ G.2.2.2.2.2.2.2.2.2.2.1).2.1.1 _ (vp_lt b2)).2.1 hS G.2.2.2.1 (G.2.2.2.2.1 _ q7_74) (fun _ h9 => h9) dJ0_coder_7d493_7 ?_
    refine lv_goto (tgt := 14) hx hb dJ0_coder_7d493_10 (by decide) ?_
    exact g_ret G hP hD hS h rfl dJ0_coder_7d493_14
noncomputable def fJ0_isLatin1_aae02 (p0 : Int32) (s0 : St) : Option (Int32 × St) :=
  if (1 : Int32) = 0 then
    some (0, s0)
  else
    BND p0 8 <|
    if (0 : Int32) = 0 then
      some (1, s0)
    else
      some (0, s0)
set_option maxHeartbeats 4000000 in
set_option maxRecDepth 100000 in
theorem mJ0_isLatin1_aae02 (l : Launch) (D : va_G) (cA : Nat → ClassId) (ad adF adW tt a : Nat → Nat) (fr : va_W) (ST : gST) (hT : STE ad adF adW tt ST) (hW : STW adW tt ST) (p0 : Int32) (s0 : St) (r : Int32) (s' : St) (h : fJ0_isLatin1_aae02 p0 s0 = some (r, s')) : gMet l yJ0_isLatin1_aae02 cJ0_isLatin1_aae02 1 (some .boolean) 0 D (TYS cA) ST (wc cA ad a fr s0) [.ref (adW p0.toNatClampNeg)] (fun A => gQi D (TYS cA) A (wc cA ad a fr) r s') := by
  refine g_ofWF hT.1 (by decide +kernel) (Nat.le_of_ble_eq_true rfl) ?_
  intro p e s m args below meth c ls A G hP hD hl
  have G : GC p s m args meth c cJ0_isLatin1_aae02 1 RJ0 (some .boolean) A D (TYS cA) ST := G
  have hx := G.1
  have hb := G.2.1
  have hS : va_S A s.heap s.heap [] := va_S.rf
  have hl : lv_has ls 1 [(0, .ref (adW p0.toNatClampNeg))] := hl
  unfold fJ0_isLatin1_aae02 at h
  refine va_gets hx hb (hW _ _ G.2.2.2.2.2.2.2.2.2.2.1).1 hS G.2.2.2.1 (G.2.2.2.2.1 _ q4_206) (fun _ h9 => h9) dJ0_isLatin1_aae02_0 ?_
  refine lv_if_eq (tgt := 17) hx hb dJ0_isLatin1_aae02_3 (by decide) (fun c1 => ?_) (fun c1 => ?_)
  · replace h := it_t c1 h
    refine lv_iconst (v := 0) hx hb dJ0_isLatin1_aae02_17 (by decide) ?_
    exact g_ret G hP hD hS h rfl dJ0_isLatin1_aae02_18
  · replace h := it_f c1 h
    refine lv_aload_n hx hb dJ0_isLatin1_aae02_6 rfl (lv_at hl 0 rfl) ?_
    obtain ⟨b2, h⟩ := bnd_e h
    refine vk_getf hx hb ((hW _ _ G.2.2.2.2.2.2.2.2.2.2.1).2.1.1 _ (vp_lt b2)).2.1 hS G.2.2.2.1 (G.2.2.2.2.1 _ q7_74) (fun _ h9 => h9) dJ0_isLatin1_aae02_7 ?_
    refine lv_if_ne (tgt := 17) hx hb dJ0_isLatin1_aae02_10 (by decide) (fun c3 => ?_) (fun c3 => ?_)
    · replace h := it_f c3 h
      refine lv_iconst (v := 0) hx hb dJ0_isLatin1_aae02_17 (by decide) ?_
      exact g_ret G hP hD hS h rfl dJ0_isLatin1_aae02_18
    · replace h := it_t c3 h
      refine lv_iconst (v := 1) hx hb dJ0_isLatin1_aae02_13 (by decide) ?_
      refine lv_goto (tgt := 18) hx hb dJ0_isLatin1_aae02_14 (by decide) ?_
      exact g_ret G hP hD hS h rfl dJ0_isLatin1_aae02_18
noncomputable def fJ0_length_8abf5 (p0 : Int32) (s0 : St) : Option (Int32 × St) :=
  BND p0 8 <|
  BND p0 8 <|
  BND p0 8 <|
  OB (fJ0_coder_7d493 p0 s0) fun r3 s4 =>
  some ((Int32.ofNat (wLen.getD p0.toNatClampNeg 0)) >>> (r3 &&& 31), s4)
set_option maxHeartbeats 4000000 in
set_option maxRecDepth 100000 in
theorem mJ0_length_8abf5 (l : Launch) (D : va_G) (cA : Nat → ClassId) (ad adF adW tt a : Nat → Nat) (fr : va_W) (ST : gST) (hT : STE ad adF adW tt ST) (hW : STW adW tt ST) (p0 : Int32) (s0 : St) (r : Int32) (s' : St) (h : fJ0_length_8abf5 p0 s0 = some (r, s')) : gMet l yJ0_length_8abf5 cJ0_length_8abf5 1 (some .int) 1 D (TYS cA) ST (wc cA ad a fr s0) [.ref (adW p0.toNatClampNeg)] (fun A => gQi D (TYS cA) A (wc cA ad a fr) r s') := by
  refine g_ofWF hT.1 (by decide +kernel) (Nat.le_of_ble_eq_true rfl) ?_
  intro p e s m args below meth c ls A G hP hD hl
  have G : GC p s m args meth c cJ0_length_8abf5 1 RJ0 (some .int) A D (TYS cA) ST := G
  have hx := G.1
  have hb := G.2.1
  have hS : va_S A s.heap s.heap [] := va_S.rf
  have hl : lv_has ls 1 [(0, .ref (adW p0.toNatClampNeg))] := hl
  unfold fJ0_length_8abf5 at h
  refine lv_aload_n hx hb dJ0_length_8abf5_0 rfl (lv_at hl 0 rfl) ?_
  obtain ⟨b1, h⟩ := bnd_e h
  refine vk_getf hx hb ((hW _ _ G.2.2.2.2.2.2.2.2.2.2.1).2.1.1 _ (vp_lt b1)).2.2.1 hS G.2.2.2.1 (G.2.2.2.2.1 _ q7_73) (fun _ h9 => h9) dJ0_length_8abf5_1 ?_
  obtain ⟨b2, h⟩ := bnd_e h
  refine va_tlen (v := Int32.ofNat (wLen.getD p0.toNatClampNeg 0)) hx hb ((hW _ _ G.2.2.2.2.2.2.2.2.2.2.1).2.1.1 _ (vp_lt b2)).2.2.2 hS rfl dJ0_length_8abf5_4 ?_
  refine lv_aload_n hx hb dJ0_length_8abf5_5 rfl (lv_at hl 0 rfl) ?_
  obtain ⟨b6, h⟩ := bnd_e h
  obtain ⟨r3, s4, g5, h⟩ := ob_e h
  refine g_callWi (nA := 0) (mJ0_coder_7d493 l D cA ad adF adW tt a fr ST hT hW p0 s0 r3 s4 g5) G hP hD hS (g_good q4_202 q4_203 q4_204 q1_14 q4_205) (by decide +kernel) (by decide) (vk_recv (hW _ _ G.2.2.2.2.2.2.2.2.2.2.1).2.1 (vp_lt b6) hS) rfl hl.1 [.int (Int32.ofNat (wLen.getD p0.toNatClampNeg 0))] rfl (Nat.le_of_ble_eq_true rfl) dJ0_length_8abf5_6 (fun H locs hP hD hS => ?_)
  refine lv_ishr hx hb dJ0_length_8abf5_9 ?_
  exact g_ret G hP hD hS h rfl dJ0_length_8abf5_10
noncomputable def fJ0_charAt_5068e (p0 : Int32) (p1 : Int32) (s0 : St) : Option (Int32 × St) :=
  BND p0 8 <|
  OB (fJ0_isLatin1_aae02 p0 s0) fun r1 s2 =>
  if r1 = 0 then
    BND p0 8 <|
    none
  else
    BND p0 8 <|
    OB (fJ1_charAt_3b067 p0 p1 s2) fun r8 s9 =>
    CH r8 <|
    some (r8, s9)
set_option maxHeartbeats 4000000 in
set_option maxRecDepth 100000 in
theorem mJ0_charAt_5068e (l : Launch) (D : va_G) (cA : Nat → ClassId) (ad adF adW tt a : Nat → Nat) (fr : va_W) (ST : gST) (hT : STE ad adF adW tt ST) (hW : STW adW tt ST) (p0 : Int32) (p1 : Int32) (s0 : St) (r : Int32) (s' : St) (h : fJ0_charAt_5068e p0 p1 s0 = some (r, s')) : gMet l yJ0_charAt_5068e cJ0_charAt_5068e 2 (some .char) 3 D (TYS cA) ST (wc cA ad a fr s0) [.ref (adW p0.toNatClampNeg), .int p1] (fun A => gQi D (TYS cA) A (wc cA ad a fr) r s') := by
  refine g_ofWF hT.1 (by decide +kernel) (Nat.le_of_ble_eq_true rfl) ?_
  intro p e s m args below meth c ls A G hP hD hl
  have G : GC p s m args meth c cJ0_charAt_5068e 2 RJ0 (some .char) A D (TYS cA) ST := G
  have hx := G.1
  have hb := G.2.1
  have hS : va_S A s.heap s.heap [] := va_S.rf
  have hl : lv_has ls 2 [(0, .ref (adW p0.toNatClampNeg)), (1, .int p1)] := hl
  unfold fJ0_charAt_5068e at h
  refine lv_aload_n hx hb dJ0_charAt_5068e_0 rfl (lv_at hl 0 rfl) ?_
  obtain ⟨b4, h⟩ := bnd_e h
  obtain ⟨r1, s2, g3, h⟩ := ob_e h
  refine g_callWi (nA := 0) (mJ0_isLatin1_aae02 l D cA ad adF adW tt a fr ST hT hW p0 s0 r1 s2 g3) G hP hD hS (g_good q4_211 q4_212 q4_213 q1_14 q4_214) (by decide +kernel) (by decide) (vk_recv (hW _ _ G.2.2.2.2.2.2.2.2.2.2.1).2.1 (vp_lt b4) hS) rfl hl.1 [] rfl (Nat.le_of_ble_eq_true rfl) dJ0_charAt_5068e_1 (fun H locs hP hD hS => ?_)
  refine lv_if_eq (tgt := 16) hx hb dJ0_charAt_5068e_4 (by decide) (fun c5 => ?_) (fun c5 => ?_)
  · replace h := it_t c5 h
    refine lv_aload_n hx hb dJ0_charAt_5068e_16 rfl (lv_at hl 0 rfl) ?_
    obtain ⟨b6, h⟩ := bnd_e h
    refine vk_getf hx hb ((hW _ _ G.2.2.2.2.2.2.2.2.2.2.1).2.1.1 _ (vp_lt b6)).2.2.1 hS G.2.2.2.1 (G.2.2.2.2.1 _ q7_73) (fun _ h9 => h9) dJ0_charAt_5068e_17 ?_
    refine lv_iload_n hx hb dJ0_charAt_5068e_20 rfl (lv_at hl 1 rfl) ?_
    cases h
  · replace h := it_f c5 h
    refine lv_aload_n hx hb dJ0_charAt_5068e_7 rfl (lv_at hl 0 rfl) ?_
    obtain ⟨b7, h⟩ := bnd_e h
    refine vk_getf hx hb ((hW _ _ G.2.2.2.2.2.2.2.2.2.2.1).2.1.1 _ (vp_lt b7)).2.2.1 hS G.2.2.2.1 (G.2.2.2.2.1 _ q7_73) (fun _ h9 => h9) dJ0_charAt_5068e_8 ?_
    refine lv_iload_n hx hb dJ0_charAt_5068e_11 rfl (lv_at hl 1 rfl) ?_
    obtain ⟨r8, s9, g10, h⟩ := ob_e h
    refine g_callSXi (nA := 2) (mJ1_charAt_3b067 l D cA ad adF adW tt a fr ST hT hW p0 p1 s2 r8 s9 g10) G hP hD hS (g_goodSX q4_215 q4_216 q1_35 q4_217) (by decide +kernel) (by decide) rfl hl.1 [] rfl (Nat.le_of_ble_eq_true rfl) dJ0_charAt_5068e_12 (fun H locs hP hD hS => ?_)
    obtain ⟨b11, h⟩ := ch_e h
    exact g_ret G hP hD hS h (ch_n b11) dJ0_charAt_5068e_15
noncomputable def fX8_matchLength_L2b (nF : Nat) (K2 : Int32 → Int32 → St → Option (Int32 × St)) (x1 : Int32) (x2 : Int32) (s1 : St) : Option (Int32 × St) :=
  BND x1 8 <|
  OB (fJ0_length_8abf5 x1 s1) fun r1 s2 =>
  if r1 ≤ x2 then
    BND x1 8 <|
    OB (fJ0_length_8abf5 x1 s2) fun r6 s7 =>
    some (r6, s7)
  else
    LET ((s2 214 2) + x2) fun y10 =>
    if (s2 214 1) ≤ y10 then
      some (x2, s2)
    else
      BND y10 60 <|
      BND x1 8 <|
      OB (fJ0_charAt_5068e x1 x2 s2) fun r13 s14 =>
      if (s2 215 y10.toNatClampNeg) = r13 then
        LET (x2 + 1) fun y18 =>
        K2 x1 y18 s14
      else
        some (x2, s14)
noncomputable def fX8_matchLength_L2 (nF : Nat) : Nat → Int32 → Int32 → St → Option (Int32 × St) := fun k_ => Nat.rec (fun _ _ _ => none) (fun _ K => fX8_matchLength_L2b nF K) k_
theorem fX8_matchLength_L2_s (nF : Nat) (k_ : Nat) : fX8_matchLength_L2 nF (k_ + 1) = fX8_matchLength_L2b nF (fX8_matchLength_L2 nF k_) := rfl
noncomputable def fX8_matchLength (nF : Nat) (p1 : Int32) (s0 : St) : Option (Int32 × St) :=
  fX8_matchLength_L2 nF nF p1 0 s0
set_option maxHeartbeats 4000000 in
set_option maxRecDepth 100000 in
theorem mX8_matchLength (l : Launch) (D : va_G) (cA : Nat → ClassId) (ad adF adW tt a : Nat → Nat) (fr : va_W) (ST : gST) (hT : STE ad adF adW tt ST) (hW : STW adW tt ST) (nF : Nat) (p1 : Int32) (s0 : St) (r : Int32) (s' : St) (h : fX8_matchLength nF p1 s0 = some (r, s')) : gMet l yX8_matchLength cX8_matchLength 4 (some .int) 4 D (TYS cA) ST (wc cA ad a fr s0) [.ref (a 214), .ref (adW p1.toNatClampNeg)] (fun A => gQi D (TYS cA) A (wc cA ad a fr) r s') := by
  refine g_ofW hT.1 (by decide +kernel) (Nat.le_of_ble_eq_true rfl) ?_
  intro p e s m args below meth c ls A G hP hD hl
  have G : GC p s m args meth c cX8_matchLength 4 RX8 (some .int) A D (TYS cA) ST := G
  have hx := G.1
  have hb := G.2.1
  have hS : va_S A s.heap s.heap [] := va_S.rf
  have hl : lv_has ls 4 [(0, .ref (a 214)), (1, .ref (adW p1.toNatClampNeg))] := hl
  have hB2 : ∀ (K2 : Int32 → Int32 → St → Option (Int32 × St)), (∀ (x1 : Int32) (x2 : Int32) (s1 : St), K2 x1 x2 s1 = some (r, s') → ∀ (H : Heap) (locs : List Loc) (ls : Array Slot), va_P D vwCl (wc cA ad a fr s1) H → va_D A (wc cA ad a fr s1) → va_S A s.heap H locs → lv_has ls 4 [(0, .ref (a 214)), (1, .ref (adW x1.toNatClampNeg)), (2, .int x2)] → W p l e (RM 4) s m args below meth c H locs 0 0 (MQ below (gQi D (TYS cA) A (wc cA ad a fr) r s') args s 0 0 A) (F0 m 2 ls [])) → ∀ (x1 : Int32) (x2 : Int32) (s1 : St), fX8_matchLength_L2b nF K2 x1 x2 s1 = some (r, s') → ∀ (H : Heap) (locs : List Loc) (ls : Array Slot), va_P D vwCl (wc cA ad a fr s1) H → va_D A (wc cA ad a fr s1) → va_S A s.heap H locs → lv_has ls 4 [(0, .ref (a 214)), (1, .ref (adW x1.toNatClampNeg)), (2, .int x2)] → W p l e (RM 4) s m args below meth c H locs 0 0 (MQ below (gQi D (TYS cA) A (wc cA ad a fr) r s') args s 0 0 A) (F0 m 2 ls []) := by
    intro K2 hK2 x1 x2 s1 h H locs ls hP hD hS hl
    unfold fX8_matchLength_L2b at h
    refine lv_iload_n hx hb dX8_matchLength_2 rfl (lv_at hl 2 rfl) ?_
    refine lv_aload_n hx hb dX8_matchLength_3 rfl (lv_at hl 1 rfl) ?_
    obtain ⟨b4, h⟩ := bnd_e h
    obtain ⟨r1, s2, g3, h⟩ := ob_e h
    refine g_callWi (nA := 0) (mJ0_length_8abf5 l D cA ad adF adW tt a fr ST hT hW x1 s1 r1 s2 g3) G hP hD hS (g_good q4_198 q4_199 q4_200 q1_14 q4_201) (by decide +kernel) (by decide) (vk_recv (hW _ _ G.2.2.2.2.2.2.2.2.2.2.1).2.1 (vp_lt b4) hS) rfl hl.1 [.int x2] rfl (Nat.le_of_ble_eq_true rfl) dX8_matchLength_4 (fun H locs hP hD hS => ?_)
    refine lv_icmp_ge (tgt := 47) hx hb dX8_matchLength_7 (by decide) (fun c5 => ?_) (fun c5 => ?_)
    · replace h := it_t c5 h
      refine lv_aload_n hx hb dX8_matchLength_47 rfl (lv_at hl 1 rfl) ?_
      obtain ⟨b9, h⟩ := bnd_e h
      obtain ⟨r6, s7, g8, h⟩ := ob_e h
      refine g_callWi (nA := 0) (mJ0_length_8abf5 l D cA ad adF adW tt a fr ST hT hW x1 s2 r6 s7 g8) G hP hD hS (g_good q4_198 q4_199 q4_200 q1_14 q4_201) (by decide +kernel) (by decide) (vk_recv (hW _ _ G.2.2.2.2.2.2.2.2.2.2.1).2.1 (vp_lt b9) hS) rfl hl.1 [] rfl (Nat.le_of_ble_eq_true rfl) dX8_matchLength_48 (fun H locs hP hD hS => ?_)
      exact g_ret G hP hD hS h rfl dX8_matchLength_51
    · replace h := it_f c5 h
      refine lv_aload_n hx hb dX8_matchLength_10 rfl (lv_at hl 0 rfl) ?_
      refine gfX8_19 G hP dX8_matchLength_11 ?_
      refine lv_iload_n hx hb dX8_matchLength_14 rfl (lv_at hl 2 rfl) ?_
      refine lv_iadd hx hb dX8_matchLength_15 ?_
      refine lv_topi (fun y10 ey10 => ?_)
      replace h := let_e ey10 h
      refine lv_istore_n (lv' := [(3, .int y10), (0, .ref (a 214)), (1, .ref (adW x1.toNatClampNeg)), (2, .int x2)]) hx hb dX8_matchLength_16 rfl hl (by decide) rfl (fun ls hl => ?_)
      refine lv_iload_n hx hb dX8_matchLength_17 rfl (lv_at hl 0 rfl) ?_
      refine lv_aload_n hx hb dX8_matchLength_18 rfl (lv_at hl 1 rfl) ?_
      refine gfX8_15 G hP dX8_matchLength_19 ?_
      refine lv_icmp_ge (tgt := 39) hx hb dX8_matchLength_22 (by decide) (fun c11 => ?_) (fun c11 => ?_)
      · replace h := it_t c11 h
        refine lv_iload_n hx hb dX8_matchLength_39 rfl (lv_at hl 3 rfl) ?_
        exact g_ret G hP hD hS h rfl dX8_matchLength_40
      · replace h := it_f c11 h
        refine lv_aload_n hx hb dX8_matchLength_25 rfl (lv_at hl 1 rfl) ?_
        refine gfX8_9 G hP dX8_matchLength_26 ?_
        refine lv_iload_n hx hb dX8_matchLength_29 rfl (lv_at hl 0 rfl) ?_
        obtain ⟨b12, h⟩ := bnd_e h
        refine g_ald (t := 1) (ty := .char) (Or.inr (Or.inl rfl)) G hP 215 (by decide) sc_215 rfl b12 dX8_matchLength_30 ?_
        refine lv_aload_n hx hb dX8_matchLength_31 rfl (lv_at hl 2 rfl) ?_
        refine lv_iload_n hx hb dX8_matchLength_32 rfl (lv_at hl 3 rfl) ?_
        obtain ⟨b16, h⟩ := bnd_e h
        obtain ⟨r13, s14, g15, h⟩ := ob_e h
        refine g_callWi (nA := 1) (mJ0_charAt_5068e l D cA ad adF adW tt a fr ST hT hW x1 x2 s2 r13 s14 g15) G hP hD hS (g_good q4_207 q4_208 q4_209 q1_14 q4_210) (by decide +kernel) (by decide) (vk_recv (hW _ _ G.2.2.2.2.2.2.2.2.2.2.1).2.1 (vp_lt b16) hS) rfl hl.1 [.int (s2 215 y10.toNatClampNeg)] rfl (Nat.le_of_ble_eq_true rfl) dX8_matchLength_33 (fun H locs hP hD hS => ?_)
        refine lv_icmp_eq (tgt := 41) hx hb dX8_matchLength_36 (by decide) (fun c17 => ?_) (fun c17 => ?_)
        · replace h := it_t c17 h
          obtain ⟨y18, ey18⟩ : ∃ y : Int32, y = x2 + 1 := ⟨_, rfl⟩
          replace h := let_e ey18 h
          refine lv_iinc (v := y18) (lv' := [(2, .int y18), (3, .int y10), (0, .ref (a 214)), (1, .ref (adW x1.toNatClampNeg))]) hx hb dX8_matchLength_41 hl (k := 3) rfl (by rw [ey18]; rfl) (by decide) rfl (fun ls hl => ?_)
          refine lv_goto (tgt := 2) hx hb dX8_matchLength_44 (by decide) ?_
          exact hK2 x1 y18 s14 h _ _ ls hP hD hS (lv_sub hl [2, 3, 0] rfl)
        · replace h := it_f c17 h
          refine lv_iload_n hx hb dX8_matchLength_39 rfl (lv_at hl 3 rfl) ?_
          exact g_ret G hP hD hS h rfl dX8_matchLength_40
  have hL2 : ∀ k_ : Nat, ∀ (x1 : Int32) (x2 : Int32) (s1 : St), fX8_matchLength_L2 nF k_ x1 x2 s1 = some (r, s') → ∀ (H : Heap) (locs : List Loc) (ls : Array Slot), va_P D vwCl (wc cA ad a fr s1) H → va_D A (wc cA ad a fr s1) → va_S A s.heap H locs → lv_has ls 4 [(0, .ref (a 214)), (1, .ref (adW x1.toNatClampNeg)), (2, .int x2)] → W p l e (RM 4) s m args below meth c H locs 0 0 (MQ below (gQi D (TYS cA) A (wc cA ad a fr) r s') args s 0 0 A) (F0 m 2 ls []) := by
    intro k_
    induction k_ with
    | zero => intro x1 x2 s1 h; cases h
    | succ k_ ih => exact hB2 (fX8_matchLength_L2 nF k_) ih
  unfold fX8_matchLength at h
  refine lv_iconst (v := 0) hx hb dX8_matchLength_0 (by decide) ?_
  refine lv_istore_n (lv' := [(2, .int 0), (0, .ref (a 214)), (1, .ref (adW p1.toNatClampNeg))]) hx hb dX8_matchLength_1 rfl hl (by decide) rfl (fun ls hl => ?_)
  exact hL2 nF p1 0 s0 h _ _ ls hP hD hS (lv_sub hl [1, 2, 0] rfl)
noncomputable def fX8_readWord_L4b (nF : Nat) (K4 : Int32 → Int32 → St → Option (Int32 × St)) (x1 : Int32) (x2 : Int32) (s1 : St) : Option (Int32 × St) :=
  if 8 ≤ x2 then
    LET (u2 s1 214 2 ((s1 214 2) + x1)) fun s2 =>
    some ((-1), s2)
  else
    BND x2 8 <|
    BND x2 8 <|
    OB (fX8_matchLength nF x2 s1) fun r5 s6 =>
    BND x2 8 <|
    BND x2 8 <|
    OB (fJ0_length_8abf5 x2 s6) fun r9 s10 =>
    if r5 = r9 then
      LET (u2 s10 214 2 ((s10 214 2) + r5)) fun s18 =>
      BND x2 8 <|
      some (x2, s18)
    else
      OB (fJ9_max_7cf53 x1 r5 s10) fun r14 s15 =>
      LET (x2 + 1) fun y17 =>
      K4 r14 y17 s15
noncomputable def fX8_readWord_L4 (nF : Nat) : Nat → Int32 → Int32 → St → Option (Int32 × St) := fun k_ => Nat.rec (fun _ _ _ => none) (fun _ K => fX8_readWord_L4b nF K) k_
theorem fX8_readWord_L4_s (nF : Nat) (k_ : Nat) : fX8_readWord_L4 nF (k_ + 1) = fX8_readWord_L4b nF (fX8_readWord_L4 nF k_) := rfl
noncomputable def fX8_readWord (nF : Nat) (s0 : St) : Option (Int32 × St) :=
  fX8_readWord_L4 nF nF 0 0 s0
set_option maxHeartbeats 4000000 in
set_option maxRecDepth 100000 in
theorem mX8_readWord (l : Launch) (D : va_G) (cA : Nat → ClassId) (ad adF adW tt a : Nat → Nat) (fr : va_W) (ST : gST) (hT : STE ad adF adW tt ST) (hW : STW adW tt ST) (nF : Nat) (s0 : St) (r : Int32) (s' : St) (h : fX8_readWord nF s0 = some (r, s')) : gMet l yX8_readWord cX8_readWord 5 (some (.object "NoiseMill$Kind")) 5 D (TYS cA) ST (wc cA ad a fr s0) [.ref (a 214)] (fun A => gQe ad D (TYS cA) A (wc cA ad a fr) r s') := by
  refine g_ofW hT.1 (by decide +kernel) (Nat.le_of_ble_eq_true rfl) ?_
  intro p e s m args below meth c ls A G hP hD hl
  have G : GC p s m args meth c cX8_readWord 5 RX8 (some (.object "NoiseMill$Kind")) A D (TYS cA) ST := G
  have hx := G.1
  have hb := G.2.1
  have hS : va_S A s.heap s.heap [] := va_S.rf
  have hl : lv_has ls 5 [(0, .ref (a 214))] := hl
  have hB4 : ∀ (K4 : Int32 → Int32 → St → Option (Int32 × St)), (∀ (x1 : Int32) (x2 : Int32) (s1 : St), K4 x1 x2 s1 = some (r, s') → ∀ (H : Heap) (locs : List Loc) (ls : Array Slot), va_P D vwCl (wc cA ad a fr s1) H → va_D A (wc cA ad a fr s1) → va_S A s.heap H locs → lv_has ls 5 [(0, .ref (a 214)), (1, .int x1), (2, .int x2)] → W p l e (RM 5) s m args below meth c H locs 0 0 (MQ below (gQe ad D (TYS cA) A (wc cA ad a fr) r s') args s 0 0 A) (F0 m 4 ls [])) → ∀ (x1 : Int32) (x2 : Int32) (s1 : St), fX8_readWord_L4b nF K4 x1 x2 s1 = some (r, s') → ∀ (H : Heap) (locs : List Loc) (ls : Array Slot), va_P D vwCl (wc cA ad a fr s1) H → va_D A (wc cA ad a fr s1) → va_S A s.heap H locs → lv_has ls 5 [(0, .ref (a 214)), (1, .int x1), (2, .int x2)] → W p l e (RM 5) s m args below meth c H locs 0 0 (MQ below (gQe ad D (TYS cA) A (wc cA ad a fr) r s') args s 0 0 A) (F0 m 4 ls []) := by
    intro K4 hK4 x1 x2 s1 h H locs ls hP hD hS hl
    unfold fX8_readWord_L4b at h
    refine lv_iload_n hx hb dX8_readWord_4 rfl (lv_at hl 2 rfl) ?_
    refine va_getsN hx hb (hT.2 _ _ G.2.2.2.2.2.2.2.2.2.2.1).2.2.2.1.1 hS G.2.2.2.1 (va_Nw.use rfl (nf_34 G.2.2.2.2.2.2.2.2.2.1)) (fun _ h9 => h9) dX8_readWord_5 ?_
    refine va_tlen (v := 8) hx hb (hT.2 _ _ G.2.2.2.2.2.2.2.2.2.2.1).2.2.2.1.2 hS rfl dX8_readWord_8 ?_
    refine lv_icmp_ge (tgt := 66) hx hb dX8_readWord_9 (by decide) (fun c1 => ?_) (fun c1 => ?_)
    · replace h := it_t c1 h
      refine lv_aload_n hx hb dX8_readWord_66 rfl (lv_at hl 0 rfl) ?_
      refine lv_dup hx hb dX8_readWord_67 rfl ?_
      refine gfX8_19 G hP dX8_readWord_68 ?_
      refine lv_iload_n hx hb dX8_readWord_71 rfl (lv_at hl 1 rfl) ?_
      refine lv_iadd hx hb dX8_readWord_72 ?_
      refine pfX8_19 G hP hD hS dX8_readWord_73 (fun s2 es2 H locs hP hD hS => ?_)
      replace h := let_e es2 h
      refine lv_null hx hb dX8_readWord_76 ?_
      exact g_nret (v := (-1)) (by decide) G hP hD hS h dX8_readWord_77
    · replace h := it_f c1 h
      refine va_getsN hx hb (hT.2 _ _ G.2.2.2.2.2.2.2.2.2.2.1).2.2.2.1.1 hS G.2.2.2.1 (va_Nw.use rfl (nf_34 G.2.2.2.2.2.2.2.2.2.1)) (fun _ h9 => h9) dX8_readWord_12 ?_
      refine lv_iload_n hx hb dX8_readWord_15 rfl (lv_at hl 2 rfl) ?_
      obtain ⟨b3, h⟩ := bnd_e h
      refine vb_tq hx hb (hT.2 _ _ G.2.2.2.2.2.2.2.2.2.2.1).2.2.2.1.2 hS b3 rfl dX8_readWord_16 ?_
      refine lv_astore_n (lv' := [(3, .ref (ad x2.toNatClampNeg)), (0, .ref (a 214)), (1, .int x1), (2, .int x2)]) hx hb dX8_readWord_17 rfl hl (by decide) rfl (fun ls hl => ?_)
      refine lv_aload_n hx hb dX8_readWord_18 rfl (lv_at hl 1 rfl) ?_
      refine lv_aload_n hx hb dX8_readWord_19 rfl (lv_at hl 0 rfl) ?_
      obtain ⟨b4, h⟩ := bnd_e h
      refine g_getWN (hT.2 _ _ G.2.2.2.2.2.2.2.2.2.2.1).2.2.1 _ (vp_lt b4) G hS (nf_36 G.2.2.2.2.2.2.2.2.2.1) dX8_readWord_20 ?_
      obtain ⟨r5, s6, g7, h⟩ := ob_e h
      refine g_callVi (nA := 1) (mX8_matchLength l D cA ad adF adW tt a fr ST hT hW nF x2 s1 r5 s6 g7) G hP hD hS (g_good q4_194 q4_196 qs_16 q1_8 q4_197) (by decide +kernel) (by decide) (by decide) sc_214 rfl rfl hl.1 [] rfl (Nat.le_of_ble_eq_true rfl) dX8_readWord_23 (fun H locs hP hD hS => ?_)
      refine lv_istore (lv' := [(4, .int r5), (3, .ref (ad x2.toNatClampNeg)), (0, .ref (a 214)), (1, .int x1), (2, .int x2)]) hx hb dX8_readWord_26 hl (by decide) rfl (fun ls hl => ?_)
      refine lv_iload hx hb dX8_readWord_28 (lv_at hl 0 rfl) ?_
      refine lv_aload_n hx hb dX8_readWord_30 rfl (lv_at hl 1 rfl) ?_
      obtain ⟨b8, h⟩ := bnd_e h
      refine g_getWN (hT.2 _ _ G.2.2.2.2.2.2.2.2.2.2.1).2.2.1 _ (vp_lt b8) G hS (nf_36 G.2.2.2.2.2.2.2.2.2.1) dX8_readWord_31 ?_
      obtain ⟨b12, h⟩ := bnd_e h
      obtain ⟨r9, s10, g11, h⟩ := ob_e h
      refine g_callWi (nA := 0) (mJ0_length_8abf5 l D cA ad adF adW tt a fr ST hT hW x2 s6 r9 s10 g11) G hP hD hS (g_good q4_198 q4_199 q4_200 q1_14 q4_201) (by decide +kernel) (by decide) (vk_recv (hW _ _ G.2.2.2.2.2.2.2.2.2.2.1).2.1 (vp_lt b12) hS) rfl hl.1 [.int r5] rfl (Nat.le_of_ble_eq_true rfl) dX8_readWord_34 (fun H locs hP hD hS => ?_)
      refine lv_icmp_ne (tgt := 53) hx hb dX8_readWord_37 (by decide) (fun c13 => ?_) (fun c13 => ?_)
      · replace h := it_f c13 h
        refine lv_iload_n hx hb dX8_readWord_53 rfl (lv_at hl 3 rfl) ?_
        refine lv_iload hx hb dX8_readWord_54 (lv_at hl 0 rfl) ?_
        obtain ⟨r14, s15, g16, h⟩ := ob_e h
        refine g_callSXi (nA := 2) (mJ9_max_7cf53 l D cA ad adF adW tt a fr ST hT x1 r5 s10 r14 s15 g16) G hP hD hS (g_goodSX q5_5 q5_6 q1_28 q5_7) (by decide +kernel) (by decide) rfl hl.1 [] rfl (Nat.le_of_ble_eq_true rfl) dX8_readWord_56 (fun H locs hP hD hS => ?_)
        refine lv_istore_n (lv' := [(1, .int r14), (4, .int r5), (3, .ref (ad x2.toNatClampNeg)), (0, .ref (a 214)), (2, .int x2)]) hx hb dX8_readWord_59 rfl hl (by decide) rfl (fun ls hl => ?_)
        obtain ⟨y17, ey17⟩ : ∃ y : Int32, y = x2 + 1 := ⟨_, rfl⟩
        replace h := let_e ey17 h
        refine lv_iinc (v := y17) (lv' := [(2, .int y17), (1, .int r14), (4, .int r5), (3, .ref (ad x2.toNatClampNeg)), (0, .ref (a 214))]) hx hb dX8_readWord_60 hl (k := 4) rfl (by rw [ey17]; rfl) (by decide) rfl (fun ls hl => ?_)
        refine lv_goto (tgt := 4) hx hb dX8_readWord_63 (by decide) ?_
        exact hK4 r14 y17 s15 h _ _ ls hP hD hS (lv_sub hl [4, 1, 0] rfl)
      · replace h := it_t c13 h
        refine lv_aload_n hx hb dX8_readWord_40 rfl (lv_at hl 2 rfl) ?_
        refine lv_dup hx hb dX8_readWord_41 rfl ?_
        refine gfX8_19 G hP dX8_readWord_42 ?_
        refine lv_iload hx hb dX8_readWord_45 (lv_at hl 0 rfl) ?_
        refine lv_iadd hx hb dX8_readWord_47 ?_
        refine pfX8_19 G hP hD hS dX8_readWord_48 (fun s18 es18 H locs hP hD hS => ?_)
        replace h := let_e es18 h
        refine lv_aload_n hx hb dX8_readWord_51 rfl (lv_at hl 1 rfl) ?_
        obtain ⟨b19, h⟩ := bnd_e h
        exact g_eret (v := x2) (fun q => b19 (Or.inl q)) G hP hD hS h dX8_readWord_52
  have hL4 : ∀ k_ : Nat, ∀ (x1 : Int32) (x2 : Int32) (s1 : St), fX8_readWord_L4 nF k_ x1 x2 s1 = some (r, s') → ∀ (H : Heap) (locs : List Loc) (ls : Array Slot), va_P D vwCl (wc cA ad a fr s1) H → va_D A (wc cA ad a fr s1) → va_S A s.heap H locs → lv_has ls 5 [(0, .ref (a 214)), (1, .int x1), (2, .int x2)] → W p l e (RM 5) s m args below meth c H locs 0 0 (MQ below (gQe ad D (TYS cA) A (wc cA ad a fr) r s') args s 0 0 A) (F0 m 4 ls []) := by
    intro k_
    induction k_ with
    | zero => intro x1 x2 s1 h; cases h
    | succ k_ ih => exact hB4 (fX8_readWord_L4 nF k_) ih
  unfold fX8_readWord at h
  refine lv_iconst (v := 0) hx hb dX8_readWord_0 (by decide) ?_
  refine lv_istore_n (lv' := [(1, .int 0), (0, .ref (a 214))]) hx hb dX8_readWord_1 rfl hl (by decide) rfl (fun ls hl => ?_)
  refine lv_iconst (v := 0) hx hb dX8_readWord_2 (by decide) ?_
  refine lv_istore_n (lv' := [(2, .int 0), (1, .int 0), (0, .ref (a 214))]) hx hb dX8_readWord_3 rfl hl (by decide) rfl (fun ls hl => ?_)
  exact hL4 nF 0 0 s0 h _ _ ls hP hD hS (lv_sub hl [2, 1, 0] rfl)
noncomputable def fX8_readCommand_B81 (nF : Nat) (k1 : Nat) (s1 : St) : Option (Int32 × St) :=
  some (1, s1)
noncomputable def fX8_readCommand_B65 (nF : Nat) (k1 : Nat) (x2 : Int32) (s1 : St) : Option (Int32 × St) :=
  BND x2 8 <|
  if (kTak.getD x2.toNatClampNeg 0) = 0 then
    fX8_readCommand_B81 nF k1 s1
  else
    OB (fX8_readLastNumber k1 x2 s1) fun r3 s4 =>
    if r3 = 0 then
      some (0, s4)
    else
      fX8_readCommand_B81 nF k1 s4
noncomputable def fX8_readCommand_L18b (nF : Nat) (k1 : Nat) (K18 : Int32 → Int32 → St → Option (Int32 × St)) (x2 : Int32) (x3 : Int32) (s1 : St) : Option (Int32 × St) :=
  BND x2 8 <|
  if (kDig.getD x2.toNatClampNeg 0) ≤ x3 then
    fX8_readCommand_B65 nF k1 x2 s1
  else
    if 3 ≤ x3 then
      fX8_readCommand_B65 nF k1 x2 s1
    else
      OB (fX8_skip 32 s1) fun r10 s11 =>
      if r10 = 0 then
        some (0, s11)
      else
        OB (fX8_isDigitNext s11) fun r14 s15 =>
        if r14 = 0 then
          some (0, s15)
        else
          OB (fX8_readDigit s15) fun r18 s19 =>
          BND x3 3 <|
          LET (u2 s19 (k1 + 1) x3.toNatClampNeg r18) fun s22 =>
          LET (x3 + 1) fun y23 =>
          K18 x2 y23 s22
noncomputable def fX8_readCommand_L18 (nF : Nat) (k1 : Nat) : Nat → Int32 → Int32 → St → Option (Int32 × St) := fun k_ => Nat.rec (fun _ _ _ => none) (fun _ K => fX8_readCommand_L18b nF k1 K) k_
theorem fX8_readCommand_L18_s (nF : Nat) (k1 : Nat) (k_ : Nat) : fX8_readCommand_L18 nF k1 (k_ + 1) = fX8_readCommand_L18b nF k1 (fX8_readCommand_L18 nF k1 k_) := rfl
noncomputable def fX8_readCommand (nF : Nat) (k1 : Nat) (s0 : St) : Option (Int32 × St) :=
  OB (fX8_readWord nF s0) fun r24 s25 =>
  if r24 < 0 then
    some (0, s25)
  else
    LET (u2 s25 k1 0 r24) fun s28 =>
    fX8_readCommand_L18 nF k1 nF r24 0 s28
set_option maxHeartbeats 4000000 in
set_option maxRecDepth 100000 in
theorem mX8_readCommand (l : Launch) (D : va_G) (cA : Nat → ClassId) (ad adF adW tt a : Nat → Nat) (fr : va_W) (ST : gST) (hT : STE ad adF adW tt ST) (hW : STW adW tt ST) (nF : Nat) (k1 : Nat) (hk1 : isC k1) (s0 : St) (r : Int32) (s' : St) (h : fX8_readCommand nF k1 s0 = some (r, s')) : gMet l yX8_readCommand cX8_readCommand 4 (some .boolean) 6 D (TYS cA) ST (wc cA ad a fr s0) [.ref (a 214), .ref (a k1)] (fun A => gQi D (TYS cA) A (wc cA ad a fr) r s') := by
  refine g_ofW hT.1 (by decide +kernel) (Nat.le_of_ble_eq_true rfl) ?_
  intro p e s m args below meth c ls A G hP hD hl
  have G : GC p s m args meth c cX8_readCommand 4 RX8 (some .boolean) A D (TYS cA) ST := G
  have hx := G.1
  have hb := G.2.1
  have hS : va_S A s.heap s.heap [] := va_S.rf
  have hl : lv_has ls 4 [(0, .ref (a 214)), (1, .ref (a k1))] := hl
  have hB81 : ∀ (s1 : St), fX8_readCommand_B81 nF k1 s1 = some (r, s') → ∀ (H : Heap) (locs : List Loc) (ls : Array Slot), va_P D vwCl (wc cA ad a fr s1) H → va_D A (wc cA ad a fr s1) → va_S A s.heap H locs → lv_has ls 4 [] → W p l e (RM 6) s m args below meth c H locs 0 0 (MQ below (gQi D (TYS cA) A (wc cA ad a fr) r s') args s 0 0 A) (F0 m 81 ls []) := by
    intro s1 h H locs ls hP hD hS hl
    unfold fX8_readCommand_B81 at h
    refine lv_iconst (v := 1) hx hb dX8_readCommand_81 (by decide) ?_
    refine lv_goto (tgt := 86) hx hb dX8_readCommand_82 (by decide) ?_
    exact g_ret G hP hD hS h rfl dX8_readCommand_86
  have hB65 : ∀ (x2 : Int32) (s1 : St), fX8_readCommand_B65 nF k1 x2 s1 = some (r, s') → ∀ (H : Heap) (locs : List Loc) (ls : Array Slot), va_P D vwCl (wc cA ad a fr s1) H → va_D A (wc cA ad a fr s1) → va_S A s.heap H locs → lv_has ls 4 [(0, .ref (a 214)), (1, .ref (a k1)), (2, .ref (ad x2.toNatClampNeg))] → W p l e (RM 6) s m args below meth c H locs 0 0 (MQ below (gQi D (TYS cA) A (wc cA ad a fr) r s') args s 0 0 A) (F0 m 65 ls []) := by
    intro x2 s1 h H locs ls hP hD hS hl
    unfold fX8_readCommand_B65 at h
    refine lv_aload_n hx hb dX8_readCommand_65 rfl (lv_at hl 2 rfl) ?_
    obtain ⟨b1, h⟩ := bnd_e h
    refine g_getEN (L := kTak) (hT.2 _ _ G.2.2.2.2.2.2.2.2.2.2.1).2.1 (by decide) _ (vp_lt b1) G hS (nf_38 G.2.2.2.2.2.2.2.2.2.1) dX8_readCommand_66 ?_
    refine lv_if_eq (tgt := 81) hx hb dX8_readCommand_69 (by decide) (fun c2 => ?_) (fun c2 => ?_)
    · replace h := it_t c2 h
      exact hB81  s1 h _ _ ls hP hD hS (lv_sub hl [] rfl)
    · replace h := it_f c2 h
      refine lv_aload_n hx hb dX8_readCommand_72 rfl (lv_at hl 0 rfl) ?_
      refine lv_aload_n hx hb dX8_readCommand_73 rfl (lv_at hl 1 rfl) ?_
      refine lv_aload_n hx hb dX8_readCommand_74 rfl (lv_at hl 2 rfl) ?_
      obtain ⟨r3, s4, g5, h⟩ := ob_e h
      refine g_callVi (nA := 2) (mX8_readLastNumber l D cA ad adF adW tt a fr ST hT k1 hk1 x2 s1 r3 s4 g5) G hP hD hS (g_good q5_20 q5_22 qs_20 q1_8 q5_23) (by decide +kernel) (by decide) (by decide) sc_214 rfl rfl hl.1 [] rfl (Nat.le_of_ble_eq_true rfl) dX8_readCommand_75 (fun H locs hP hD hS => ?_)
      refine lv_if_eq (tgt := 85) hx hb dX8_readCommand_78 (by decide) (fun c6 => ?_) (fun c6 => ?_)
      · replace h := it_t c6 h
        refine lv_iconst (v := 0) hx hb dX8_readCommand_85 (by decide) ?_
        exact g_ret G hP hD hS h rfl dX8_readCommand_86
      · replace h := it_f c6 h
        exact hB81  s4 h _ _ ls hP hD hS (lv_sub hl [] rfl)
  have hB18 : ∀ (K18 : Int32 → Int32 → St → Option (Int32 × St)), (∀ (x2 : Int32) (x3 : Int32) (s1 : St), K18 x2 x3 s1 = some (r, s') → ∀ (H : Heap) (locs : List Loc) (ls : Array Slot), va_P D vwCl (wc cA ad a fr s1) H → va_D A (wc cA ad a fr s1) → va_S A s.heap H locs → lv_has ls 4 [(0, .ref (a 214)), (1, .ref (a k1)), (2, .ref (ad x2.toNatClampNeg)), (3, .int x3)] → W p l e (RM 6) s m args below meth c H locs 0 0 (MQ below (gQi D (TYS cA) A (wc cA ad a fr) r s') args s 0 0 A) (F0 m 18 ls [])) → ∀ (x2 : Int32) (x3 : Int32) (s1 : St), fX8_readCommand_L18b nF k1 K18 x2 x3 s1 = some (r, s') → ∀ (H : Heap) (locs : List Loc) (ls : Array Slot), va_P D vwCl (wc cA ad a fr s1) H → va_D A (wc cA ad a fr s1) → va_S A s.heap H locs → lv_has ls 4 [(0, .ref (a 214)), (1, .ref (a k1)), (2, .ref (ad x2.toNatClampNeg)), (3, .int x3)] → W p l e (RM 6) s m args below meth c H locs 0 0 (MQ below (gQi D (TYS cA) A (wc cA ad a fr) r s') args s 0 0 A) (F0 m 18 ls []) := by
    intro K18 hK18 x2 x3 s1 h H locs ls hP hD hS hl
    unfold fX8_readCommand_L18b at h
    refine lv_iload_n hx hb dX8_readCommand_18 rfl (lv_at hl 3 rfl) ?_
    refine lv_aload_n hx hb dX8_readCommand_19 rfl (lv_at hl 2 rfl) ?_
    obtain ⟨b7, h⟩ := bnd_e h
    refine g_getEN (L := kDig) (hT.2 _ _ G.2.2.2.2.2.2.2.2.2.2.1).2.1 (by decide) _ (vp_lt b7) G hS (nf_37 G.2.2.2.2.2.2.2.2.2.1) dX8_readCommand_20 ?_
    refine lv_icmp_ge (tgt := 65) hx hb dX8_readCommand_23 (by decide) (fun c8 => ?_) (fun c8 => ?_)
    · replace h := it_t c8 h
      exact hB65 x2 s1 h _ _ ls hP hD hS (lv_sub hl [0, 1, 2] rfl)
    · replace h := it_f c8 h
      refine lv_iload_n hx hb dX8_readCommand_26 rfl (lv_at hl 3 rfl) ?_
      refine lv_iconst (v := 3) hx hb dX8_readCommand_27 (by decide) ?_
      refine lv_icmp_ge (tgt := 65) hx hb dX8_readCommand_28 (by decide) (fun c9 => ?_) (fun c9 => ?_)
      · replace h := it_t c9 h
        exact hB65 x2 s1 h _ _ ls hP hD hS (lv_sub hl [0, 1, 2] rfl)
      · replace h := it_f c9 h
        refine lv_aload_n hx hb dX8_readCommand_31 rfl (lv_at hl 0 rfl) ?_
        refine lv_bipush (v := 32) hx hb dX8_readCommand_32 (by decide) ?_
        obtain ⟨r10, s11, g12, h⟩ := ob_e h
        refine g_callVi (nA := 1) (mX8_skip l D cA ad adF adW tt a fr ST hT 32 s1 r10 s11 g12) G hP hD hS (g_good q5_8 q5_10 qs_17 q1_8 q5_11) (by decide +kernel) (by decide) (by decide) sc_214 rfl rfl hl.1 [] rfl (Nat.le_of_ble_eq_true rfl) dX8_readCommand_34 (fun H locs hP hD hS => ?_)
        refine lv_if_eq (tgt := 47) hx hb dX8_readCommand_37 (by decide) (fun c13 => ?_) (fun c13 => ?_)
        · replace h := it_t c13 h
          refine lv_iconst (v := 0) hx hb dX8_readCommand_47 (by decide) ?_
          exact g_ret G hP hD hS h rfl dX8_readCommand_48
        · replace h := it_f c13 h
          refine lv_aload_n hx hb dX8_readCommand_40 rfl (lv_at hl 0 rfl) ?_
          obtain ⟨r14, s15, g16, h⟩ := ob_e h
          refine g_callVi (nA := 0) (mX8_isDigitNext l D cA ad adF adW tt a fr ST hT s11 r14 s15 g16) G hP hD hS (g_good q5_12 q5_14 qs_18 q1_8 q5_15) (by decide +kernel) (by decide) (by decide) sc_214 rfl rfl hl.1 [] rfl (Nat.le_of_ble_eq_true rfl) dX8_readCommand_41 (fun H locs hP hD hS => ?_)
          refine lv_if_ne (tgt := 49) hx hb dX8_readCommand_44 (by decide) (fun c17 => ?_) (fun c17 => ?_)
          · replace h := it_f c17 h
            refine lv_aload_n hx hb dX8_readCommand_49 rfl (lv_at hl 1 rfl) ?_
            refine gfX8_60 hk1 G hP dX8_readCommand_50 ?_
            refine lv_iload_n hx hb dX8_readCommand_53 rfl (lv_at hl 3 rfl) ?_
            refine lv_aload_n hx hb dX8_readCommand_54 rfl (lv_at hl 0 rfl) ?_
            obtain ⟨r18, s19, g20, h⟩ := ob_e h
            refine g_callVi (nA := 0) (mX8_readDigit l D cA ad adF adW tt a fr ST hT s15 r18 s19 g20) G hP hD hS (g_good q5_16 q5_18 qs_19 q1_8 q5_19) (by decide +kernel) (by decide) (by decide) sc_214 rfl rfl hl.1 [.int x3, .ref (a (k1 + 1))] rfl (Nat.le_of_ble_eq_true rfl) dX8_readCommand_55 (fun H locs hP hD hS => ?_)
            obtain ⟨b21, h⟩ := bnd_e h
            refine g_ast (t := 0) (ty := .int) (Or.inl rfl) G hP hD hS (k1 + 1) (ltC_1 hk1) (sC_1 hk1) rfl b21 dX8_readCommand_58 (fun s22 es22 H locs hP hD hS => ?_)
            replace h := let_e es22 h
            obtain ⟨y23, ey23⟩ : ∃ y : Int32, y = x3 + 1 := ⟨_, rfl⟩
            replace h := let_e ey23 h
            refine lv_iinc (v := y23) (lv' := [(3, .int y23), (0, .ref (a 214)), (1, .ref (a k1)), (2, .ref (ad x2.toNatClampNeg))]) hx hb dX8_readCommand_59 hl (k := 3) rfl (by rw [ey23]; rfl) (by decide) rfl (fun ls hl => ?_)
            refine lv_goto (tgt := 18) hx hb dX8_readCommand_62 (by decide) ?_
            exact hK18 x2 y23 s22 h _ _ ls hP hD hS (lv_sub hl [1, 2, 3, 0] rfl)
          · replace h := it_t c17 h
            refine lv_iconst (v := 0) hx hb dX8_readCommand_47 (by decide) ?_
            exact g_ret G hP hD hS h rfl dX8_readCommand_48
  have hL18 : ∀ k_ : Nat, ∀ (x2 : Int32) (x3 : Int32) (s1 : St), fX8_readCommand_L18 nF k1 k_ x2 x3 s1 = some (r, s') → ∀ (H : Heap) (locs : List Loc) (ls : Array Slot), va_P D vwCl (wc cA ad a fr s1) H → va_D A (wc cA ad a fr s1) → va_S A s.heap H locs → lv_has ls 4 [(0, .ref (a 214)), (1, .ref (a k1)), (2, .ref (ad x2.toNatClampNeg)), (3, .int x3)] → W p l e (RM 6) s m args below meth c H locs 0 0 (MQ below (gQi D (TYS cA) A (wc cA ad a fr) r s') args s 0 0 A) (F0 m 18 ls []) := by
    intro k_
    induction k_ with
    | zero => intro x2 x3 s1 h; cases h
    | succ k_ ih => exact hB18 (fX8_readCommand_L18 nF k1 k_) ih
  unfold fX8_readCommand at h
  refine lv_aload_n hx hb dX8_readCommand_0 rfl (lv_at hl 0 rfl) ?_
  obtain ⟨r24, s25, g26, h⟩ := ob_e h
  refine g_callVe (nA := 0) (mX8_readWord l D cA ad adF adW tt a fr ST hT hW nF s0 r24 s25 g26) G hP hD hS (g_good q4_188 q4_190 qs_15 q1_8 q4_191) (by decide +kernel) (by decide) (by decide) sc_214 rfl rfl hl.1 [] rfl (Nat.le_of_ble_eq_true rfl) dX8_readCommand_1 (fun H locs hP hD hS => ?_)
  by_cases c27 : r24 < 0
  · replace h := it_t c27 h
    rw [re_none _ c27]
    refine lv_astore_nN (lv' := [(2, .null), (0, .ref (a 214)), (1, .ref (a k1))]) hx hb dX8_readCommand_4 rfl hl (by decide) rfl (fun ls hl => ?_)
    refine lv_aload_nN hx hb dX8_readCommand_5 rfl (lv_at hl 0 rfl) ?_
    refine lv_ifnonnullN hx hb dX8_readCommand_6 ?_
    refine lv_iconst (v := 0) hx hb dX8_readCommand_9 (by decide) ?_
    exact g_ret G hP hD hS h rfl dX8_readCommand_10
  · replace h := it_f c27 h
    rw [re_some _ c27]
    refine lv_astore_n (lv' := [(2, .ref (ad r24.toNatClampNeg)), (0, .ref (a 214)), (1, .ref (a k1))]) hx hb dX8_readCommand_4 rfl hl (by decide) rfl (fun ls hl => ?_)
    refine lv_aload_n hx hb dX8_readCommand_5 rfl (lv_at hl 0 rfl) ?_
    refine lv_ifnonnull (tgt := 11) hx hb dX8_readCommand_6 (by decide) ?_
    refine lv_aload_n hx hb dX8_readCommand_11 rfl (lv_at hl 2 rfl) ?_
    refine lv_aload_n hx hb dX8_readCommand_12 rfl (lv_at hl 0 rfl) ?_
    refine pfX8_48 hk1 G hP hD hS dX8_readCommand_13 (fun s28 es28 H locs hP hD hS => ?_)
    replace h := let_e es28 h
    refine lv_iconst (v := 0) hx hb dX8_readCommand_16 (by decide) ?_
    refine lv_istore_n (lv' := [(3, .int 0), (2, .ref (ad r24.toNatClampNeg)), (0, .ref (a 214)), (1, .ref (a k1))]) hx hb dX8_readCommand_17 rfl hl (by decide) rfl (fun ls hl => ?_)
    exact hL18 nF r24 0 s28 h _ _ ls hP hD hS (lv_sub hl [2, 3, 1, 0] rfl)
noncomputable def fX8_parse_L12b (nF : Nat) (K12 : Int32 → St → Option (Int32 × St)) (x1 : Int32) (s1 : St) : Option (Int32 × St) :=
  if 12 ≤ x1 then
    some (0, s1)
  else
    BND x1 12 <|
    OB (fX8_readCommand nF (217 + 2 * x1.toNatClampNeg) s1) fun r3 s4 =>
    if r3 = 0 then
      some (0, s4)
    else
      LET (u2 s4 214 4 (x1 + 1)) fun s7 =>
      if (s7 214 2) < (s7 214 1) then
        OB (fX8_skip 59 s7) fun r9 s10 =>
        if r9 = 0 then
          some (0, s10)
        else
          LET (x1 + 1) fun y13 =>
          K12 y13 s10
      else
        some (1, s7)
noncomputable def fX8_parse_L12 (nF : Nat) : Nat → Int32 → St → Option (Int32 × St) := fun k_ => Nat.rec (fun _ _ => none) (fun _ K => fX8_parse_L12b nF K) k_
theorem fX8_parse_L12_s (nF : Nat) (k_ : Nat) : fX8_parse_L12 nF (k_ + 1) = fX8_parse_L12b nF (fX8_parse_L12 nF k_) := rfl
noncomputable def fX8_parse (nF : Nat) (s0 : St) : Option (Int32 × St) :=
  LET (u2 s0 214 2 0) fun s14 =>
  LET (u2 s14 214 4 0) fun s15 =>
  fX8_parse_L12 nF nF 0 s15
set_option maxHeartbeats 4000000 in
set_option maxRecDepth 100000 in
theorem mX8_parse (l : Launch) (D : va_G) (cA : Nat → ClassId) (ad adF adW tt a : Nat → Nat) (fr : va_W) (ST : gST) (hT : STE ad adF adW tt ST) (hW : STW adW tt ST) (nF : Nat) (s0 : St) (r : Int32) (s' : St) (h : fX8_parse nF s0 = some (r, s')) : gMet l yX8_parse cX8_parse 2 (some .boolean) 7 D (TYS cA) ST (wc cA ad a fr s0) [.ref (a 214)] (fun A => gQi D (TYS cA) A (wc cA ad a fr) r s') := by
  refine g_ofW hT.1 (by decide +kernel) (Nat.le_of_ble_eq_true rfl) ?_
  intro p e s m args below meth c ls A G hP hD hl
  have G : GC p s m args meth c cX8_parse 2 RX8 (some .boolean) A D (TYS cA) ST := G
  have hx := G.1
  have hb := G.2.1
  have hS : va_S A s.heap s.heap [] := va_S.rf
  have hl : lv_has ls 2 [(0, .ref (a 214))] := hl
  have hB12 : ∀ (K12 : Int32 → St → Option (Int32 × St)), (∀ (x1 : Int32) (s1 : St), K12 x1 s1 = some (r, s') → ∀ (H : Heap) (locs : List Loc) (ls : Array Slot), va_P D vwCl (wc cA ad a fr s1) H → va_D A (wc cA ad a fr s1) → va_S A s.heap H locs → lv_has ls 2 [(0, .ref (a 214)), (1, .int x1)] → W p l e (RM 7) s m args below meth c H locs 0 0 (MQ below (gQi D (TYS cA) A (wc cA ad a fr) r s') args s 0 0 A) (F0 m 12 ls [])) → ∀ (x1 : Int32) (s1 : St), fX8_parse_L12b nF K12 x1 s1 = some (r, s') → ∀ (H : Heap) (locs : List Loc) (ls : Array Slot), va_P D vwCl (wc cA ad a fr s1) H → va_D A (wc cA ad a fr s1) → va_S A s.heap H locs → lv_has ls 2 [(0, .ref (a 214)), (1, .int x1)] → W p l e (RM 7) s m args below meth c H locs 0 0 (MQ below (gQi D (TYS cA) A (wc cA ad a fr) r s') args s 0 0 A) (F0 m 12 ls []) := by
    intro K12 hK12 x1 s1 h H locs ls hP hD hS hl
    unfold fX8_parse_L12b at h
    refine lv_iload_n hx hb dX8_parse_12 rfl (lv_at hl 1 rfl) ?_
    refine lv_bipush (v := 12) hx hb dX8_parse_13 (by decide) ?_
    refine lv_icmp_ge (tgt := 70) hx hb dX8_parse_15 (by decide) (fun c1 => ?_) (fun c1 => ?_)
    · replace h := it_t c1 h
      refine lv_iconst (v := 0) hx hb dX8_parse_70 (by decide) ?_
      exact g_ret G hP hD hS h rfl dX8_parse_71
    · replace h := it_f c1 h
      refine lv_aload_n hx hb dX8_parse_18 rfl (lv_at hl 0 rfl) ?_
      refine lv_aload_n hx hb dX8_parse_19 rfl (lv_at hl 0 rfl) ?_
      refine gfX8_24 G hP dX8_parse_20 ?_
      refine lv_iload_n hx hb dX8_parse_23 rfl (lv_at hl 1 rfl) ?_
      obtain ⟨b2, h⟩ := bnd_e h
      refine g_aald (t := 3) G hP 216 (by decide) sc_216 rfl b2 dX8_parse_24 ?_
      obtain ⟨r3, s4, g5, h⟩ := ob_e h
      refine g_callVi (nA := 1) (mX8_readCommand l D cA ad adF adW tt a fr ST hT hW nF (217 + 2 * x1.toNatClampNeg) (isC_j (vp_lt b2)) s1 r3 s4 g5) G hP hD hS (g_good q4_184 q4_186 qs_14 q1_8 q4_187) (by decide +kernel) (by decide) (by decide) sc_214 rfl rfl hl.1 [] rfl (Nat.le_of_ble_eq_true rfl) dX8_parse_25 (fun H locs hP hD hS => ?_)
      refine lv_if_ne (tgt := 33) hx hb dX8_parse_28 (by decide) (fun c6 => ?_) (fun c6 => ?_)
      · replace h := it_f c6 h
        refine lv_aload_n hx hb dX8_parse_33 rfl (lv_at hl 0 rfl) ?_
        refine lv_iload_n hx hb dX8_parse_34 rfl (lv_at hl 1 rfl) ?_
        refine lv_iconst (v := 1) hx hb dX8_parse_35 (by decide) ?_
        refine lv_iadd hx hb dX8_parse_36 ?_
        refine pfX8_28 G hP hD hS dX8_parse_37 (fun s7 es7 H locs hP hD hS => ?_)
        replace h := let_e es7 h
        refine lv_aload_n hx hb dX8_parse_40 rfl (lv_at hl 0 rfl) ?_
        refine gfX8_19 G hP dX8_parse_41 ?_
        refine lv_aload_n hx hb dX8_parse_44 rfl (lv_at hl 0 rfl) ?_
        refine gfX8_15 G hP dX8_parse_45 ?_
        refine lv_icmp_lt (tgt := 53) hx hb dX8_parse_48 (by decide) (fun c8 => ?_) (fun c8 => ?_)
        · replace h := it_t c8 h
          refine lv_aload_n hx hb dX8_parse_53 rfl (lv_at hl 0 rfl) ?_
          refine lv_bipush (v := 59) hx hb dX8_parse_54 (by decide) ?_
          obtain ⟨r9, s10, g11, h⟩ := ob_e h
          refine g_callVi (nA := 1) (mX8_skip l D cA ad adF adW tt a fr ST hT 59 s7 r9 s10 g11) G hP hD hS (g_good q5_8 q5_10 qs_17 q1_8 q5_11) (by decide +kernel) (by decide) (by decide) sc_214 rfl rfl hl.1 [] rfl (Nat.le_of_ble_eq_true rfl) dX8_parse_56 (fun H locs hP hD hS => ?_)
          refine lv_if_ne (tgt := 64) hx hb dX8_parse_59 (by decide) (fun c12 => ?_) (fun c12 => ?_)
          · replace h := it_f c12 h
            obtain ⟨y13, ey13⟩ : ∃ y : Int32, y = x1 + 1 := ⟨_, rfl⟩
            replace h := let_e ey13 h
            refine lv_iinc (v := y13) (lv' := [(1, .int y13), (0, .ref (a 214))]) hx hb dX8_parse_64 hl (k := 1) rfl (by rw [ey13]; rfl) (by decide) rfl (fun ls hl => ?_)
            refine lv_goto (tgt := 12) hx hb dX8_parse_67 (by decide) ?_
            exact hK12 y13 s10 h _ _ ls hP hD hS (lv_sub hl [1, 0] rfl)
          · replace h := it_t c12 h
            refine lv_iconst (v := 0) hx hb dX8_parse_62 (by decide) ?_
            exact g_ret G hP hD hS h rfl dX8_parse_63
        · replace h := it_f c8 h
          refine lv_iconst (v := 1) hx hb dX8_parse_51 (by decide) ?_
          exact g_ret G hP hD hS h rfl dX8_parse_52
      · replace h := it_t c6 h
        refine lv_iconst (v := 0) hx hb dX8_parse_31 (by decide) ?_
        exact g_ret G hP hD hS h rfl dX8_parse_32
  have hL12 : ∀ k_ : Nat, ∀ (x1 : Int32) (s1 : St), fX8_parse_L12 nF k_ x1 s1 = some (r, s') → ∀ (H : Heap) (locs : List Loc) (ls : Array Slot), va_P D vwCl (wc cA ad a fr s1) H → va_D A (wc cA ad a fr s1) → va_S A s.heap H locs → lv_has ls 2 [(0, .ref (a 214)), (1, .int x1)] → W p l e (RM 7) s m args below meth c H locs 0 0 (MQ below (gQi D (TYS cA) A (wc cA ad a fr) r s') args s 0 0 A) (F0 m 12 ls []) := by
    intro k_
    induction k_ with
    | zero => intro x1 s1 h; cases h
    | succ k_ ih => exact hB12 (fX8_parse_L12 nF k_) ih
  unfold fX8_parse at h
  refine lv_aload_n hx hb dX8_parse_0 rfl (lv_at hl 0 rfl) ?_
  refine lv_iconst (v := 0) hx hb dX8_parse_1 (by decide) ?_
  refine pfX8_19 G hP hD hS dX8_parse_2 (fun s14 es14 H locs hP hD hS => ?_)
  replace h := let_e es14 h
  refine lv_aload_n hx hb dX8_parse_5 rfl (lv_at hl 0 rfl) ?_
  refine lv_iconst (v := 0) hx hb dX8_parse_6 (by decide) ?_
  refine pfX8_28 G hP hD hS dX8_parse_7 (fun s15 es15 H locs hP hD hS => ?_)
  replace h := let_e es15 h
  refine lv_iconst (v := 0) hx hb dX8_parse_10 (by decide) ?_
  refine lv_istore_n (lv' := [(1, .int 0), (0, .ref (a 214))]) hx hb dX8_parse_11 rfl hl (by decide) rfl (fun ls hl => ?_)
  exact hL12 nF 0 s15 h _ _ ls hP hD hS (lv_sub hl [1, 0] rfl)
noncomputable def fX11_runScript (nF : Nat) (s0 : St) : Option ((Nat × Int32) × St) :=
  OB (fX8_parse nF s0) fun r1 s2 =>
  OB (fX8_empty s2) fun r4 s5 =>
  if r1 = 0 then
    LET (u2 s5 209 8 (s5 214 2)) fun s19 =>
    some ((1, 0), s19)
  else
    OB (fX11_tryCommands nF s5) fun r8 s9 =>
    if r8 = (-1) then
      OB (fX3_push nF 0 s9) fun r12 s13 =>
      OB (fX6_copyFrom nF 0 19 s13) fun r15 s16 =>
      some ((0, s16 214 4), s16)
    else
      LET (u2 s9 209 9 r8) fun s18 =>
      some ((4, 0), s18)
set_option maxHeartbeats 4000000 in
set_option maxRecDepth 100000 in
theorem mX11_runScript (l : Launch) (hlt : l.stackTraces = false) (D : va_G) (cA : Nat → ClassId) (ad adF adW tt a : Nat → Nat) (fr : va_W) (ST : gST) (hT : STE ad adF adW tt ST) (hSX : STX ST) (hW : STW adW tt ST) (nF : Nat) (s0 : St) (cR : Nat) (r : Int32) (s' : St) (h : fX11_runScript nF s0 = some ((cR, r), s')) : gMetX l yX11_runScript cX11_runScript 3 (some .int) 2 8 D (TYS cA) ST (wc cA ad a fr s0) [.ref (a 209)] (fun A => gQxi D (TYS cA) A (wc cA ad a fr) cR r s') (fun A => gXC D (TYS cA) A (wc cA ad a fr) cR s') := by
  refine g_ofWX hT.1 (by decide +kernel) (Nat.le_of_ble_eq_true rfl) ?_
  intro p e s m args below meth c ls A G hnt hP hD hl
  have G : GC p s m args meth c cX11_runScript 3 RX11 (some .int) A D (TYS cA) ST := G
  have hx := G.1
  have hb := G.2.1
  have hS : va_S A s.heap s.heap [] := va_S.rf
  have hl : lv_has ls 3 [(0, .ref (a 209))] := hl
  unfold fX11_runScript at h
  refine lv_aload_n hx hb dX11_runScript_0 rfl (lv_at hl 0 rfl) ?_
  refine gfX11_43 G hP dX11_runScript_1 ?_
  obtain ⟨r1, s2, g3, h⟩ := ob_e h
  refine gg_callVi (nA := 0) (mX8_parse l D cA ad adF adW tt a fr ST hT hW nF s0 r1 s2 g3) G hP hD hS (g_good q4_180 q4_181 q4_182 q1_8 q4_183) (by decide +kernel) (by decide) (by decide) sc_214 rfl rfl hl.1 [] rfl (Nat.le_of_ble_eq_true rfl) dX11_runScript_4 (fun H locs hP hD hS => ?_)
  refine lv_istore_n (lv' := [(1, .int r1), (0, .ref (a 209))]) hx hb dX11_runScript_7 rfl hl (by decide) rfl (fun ls hl => ?_)
  refine lv_aload_n hx hb dX11_runScript_8 rfl (lv_at hl 1 rfl) ?_
  refine gfX11_43 G hP dX11_runScript_9 ?_
  obtain ⟨r4, s5, g6, h⟩ := ob_e h
  refine gg_callVv (nA := 0) (mX8_empty l D cA ad adF adW tt a fr ST hT s2 r4 s5 g6) G hP hD hS (g_good q5_24 q5_25 q5_26 q1_8 q5_27) (by decide +kernel) (by decide) (by decide) sc_214 rfl rfl hl.1 [] rfl (Nat.le_of_ble_eq_true rfl) dX11_runScript_12 (fun H locs hP hD hS => ?_)
  refine lv_iload_n hx hb dX11_runScript_15 rfl (lv_at hl 0 rfl) ?_
  refine lv_if_ne (tgt := 41) hx hb dX11_runScript_16 (by decide) (fun c7 => ?_) (fun c7 => ?_)
  · replace h := it_f c7 h
    refine lv_aload_n hx hb dX11_runScript_41 rfl (lv_at hl 1 rfl) ?_
    obtain ⟨r8, s9, g10, h⟩ := ob_e h
    refine gg_callVi (nA := 0) (mX11_tryCommands l D cA ad adF adW tt a fr ST hT nF s5 r8 s9 g10) G hP hD hS (g_good q5_29 q5_31 qs_21 q1_1 q5_32) (by decide +kernel) (by decide) (by decide) sc_209 rfl rfl hl.1 [] rfl (Nat.le_of_ble_eq_true rfl) dX11_runScript_42 (fun H locs hP hD hS => ?_)
    refine lv_istore_n (lv' := [(2, .int r8), (1, .int r1), (0, .ref (a 209))]) hx hb dX11_runScript_45 rfl hl (by decide) rfl (fun ls hl => ?_)
    refine lv_iload_n hx hb dX11_runScript_46 rfl (lv_at hl 0 rfl) ?_
    refine lv_iconst (v := (-1)) hx hb dX11_runScript_47 (by decide) ?_
    refine lv_icmp_eq (tgt := 67) hx hb dX11_runScript_48 (by decide) (fun c11 => ?_) (fun c11 => ?_)
    · replace h := it_t c11 h
      refine lv_aload_n hx hb dX11_runScript_67 rfl (lv_at hl 2 rfl) ?_
      refine gfX11_29 G hP dX11_runScript_68 ?_
      refine lv_aload_n hx hb dX11_runScript_71 rfl (lv_at hl 2 rfl) ?_
      refine gfX11_10 G hP dX11_runScript_72 ?_
      obtain ⟨r12, s13, g14, h⟩ := ob_e h
      refine gg_callVv (nA := 1) (mX3_push l D cA ad adF adW tt a fr ST hT nF 0 isM_0 s9 r12 s13 g14) G hP hD hS (g_good q3_6 q3_7 q3_8 q1_6 q3_9) (by decide +kernel) (by decide) (by decide) sc_210 rfl rfl hl.1 [] rfl (Nat.le_of_ble_eq_true rfl) dX11_runScript_75 (fun H locs hP hD hS => ?_)
      refine lv_aload_n hx hb dX11_runScript_78 rfl (lv_at hl 2 rfl) ?_
      refine gfX11_10 G hP dX11_runScript_79 ?_
      refine lv_aload_n hx hb dX11_runScript_82 rfl (lv_at hl 2 rfl) ?_
      refine gfX11_16 G hP dX11_runScript_83 ?_
      obtain ⟨r15, s16, g17, h⟩ := ob_e h
      refine gg_callVv (nA := 1) (mX6_copyFrom l D cA ad adF adW tt a fr ST hT nF 0 19 isM_0 isM_19 s13 r15 s16 g17) G hP hD hS (g_good q4_65 q3_11 q3_12 q1_2 q3_13) (by decide +kernel) (by decide) (ltM_0 isM_0) (sM_0 isM_0) rfl rfl hl.1 [] rfl (Nat.le_of_ble_eq_true rfl) dX11_runScript_86 (fun H locs hP hD hS => ?_)
      refine lv_aload_n hx hb dX11_runScript_89 rfl (lv_at hl 2 rfl) ?_
      refine gfX11_43 G hP dX11_runScript_90 ?_
      refine gfX11_374 G hP dX11_runScript_93 ?_
      exact gx_reti G hP hD hS h rfl (by decide) dX11_runScript_96
    · replace h := it_f c11 h
      refine lv_aload_n hx hb dX11_runScript_51 rfl (lv_at hl 2 rfl) ?_
      refine lv_iload_n hx hb dX11_runScript_52 rfl (lv_at hl 0 rfl) ?_
      refine pfX11_58 G hP hD hS dX11_runScript_53 (fun s18 es18 H locs hP hD hS => ?_)
      replace h := let_e es18 h
      exact gx_throwW (cE := 4) (E := "java/lang/IllegalStateException") (XW := xw4) hlt hSX rfl (by decide) rfl xg4 xl4 xo4 (by decide +kernel) q2_214 q1_25 (List.mem_of_getElem? (i := 9) rfl) rfl G hnt hP hD hS h hl.1 dX11_runScript_56 dX11_runScript_59 dX11_runScript_60 dX11_runScript_63 dX11_runScript_66 (by decide) (Nat.le_of_ble_eq_true rfl)
  · replace h := it_t c7 h
    refine lv_aload_n hx hb dX11_runScript_19 rfl (lv_at hl 1 rfl) ?_
    refine lv_aload_n hx hb dX11_runScript_20 rfl (lv_at hl 1 rfl) ?_
    refine gfX11_43 G hP dX11_runScript_21 ?_
    refine gfX11_364 G hP dX11_runScript_24 ?_
    refine pfX11_54 G hP hD hS dX11_runScript_27 (fun s19 es19 H locs hP hD hS => ?_)
    replace h := let_e es19 h
    exact gx_throwW (cE := 1) (E := "java/lang/IllegalArgumentException") (XW := xw1) hlt hSX rfl (by decide) rfl xg1 xl1 xo1 (by decide +kernel) q2_111 q1_23 (List.mem_of_getElem? (i := 8) rfl) rfl G hnt hP hD hS h hl.1 dX11_runScript_30 dX11_runScript_33 dX11_runScript_34 dX11_runScript_37 dX11_runScript_40 (by decide) (Nat.le_of_ble_eq_true rfl)
