section D14
variable {p : Program} {l : Launch} {e : Env} {R : Room} {s : State} {m : MethodId} {args : Array Value} {below : List Frame} {meth : Method} {c : Code} {H : Heap} {locs : List Loc} {cells slots : Nat} {Q : State → Prop}
variable {cc : ByteArray} {maxL : Nat} {ret : Option FieldType} {pc : Nat} {ls : Array Slot} {rest : List Value} {D : va_G} {A : Nat → Prop} {cA : Nat → ClassId} {F B : va_W} {ST : gST} {own : String}
theorem c_callIa {β : Type} {ok : β → Prop} {Wb : β → va_W} {y : MethodName} {bytes : ByteArray} {n d1 mc ms index q : Nat} {x : va_E} {As st0 : List Value} {nA : Nat} (hM : gMetC l y bytes n d1 mc ms D (TYS cA) ST [(q, x)] (.ref q :: As) ok Wb) (G : GC p s m args meth c cc maxL own ret A D (TYS cA) ST) (hP : va_P D vwCl ((F ++ [(q, x)]) ++ B) H) (hD : va_D A ((F ++ [(q, x)]) ++ B)) (hS : va_S A s.heap H locs)
    (hl : Cond.methodLink own index y ∈ BIG) (hin : Cond.instanceMethod y ∈ BIG) (hini : Cond.initialized y.cls ∈ BIG) (hcd : Cond.code y bytes n none ∈ BIG) (hy1 : y.name = "<init>") (hd : y.cls ≠ "java/lang/invoke/MethodHandle" ∧ y.cls ≠ "java/lang/invoke/VarHandle" ∧ (parseMethodDescriptor y.desc).map (fun d => d.parameters.length) = some nA) (hR : d1 + 1 ≤ R.frames ∧ 19 + n + 40 * d1 ≤ R.locals ∧ cells + mc ≤ R.cells ∧ slots + ms ≤ R.slots) (hn : As.length = nA) (hls : ls.size = maxL) (hst : st0 = As.reverse ++ .ref q :: rest) (hcat : (rest.map fun v => v.category).sum ≤ 8) (hdg : decode cc pc = .ok (.invokespecial index, 3))
    (kk : ∀ (b : β) (H1 : Heap) (locs1 : List Loc), ok b → va_P D vwCl (F ++ (B ++ Wb b)) H1 → va_D A (F ++ (B ++ Wb b)) → va_S A s.heap H1 locs1 → W p l e R s m args below meth c H1 locs1 (cells + mc) (slots + ms) Q (F0 m (pc + 3) ls rest)) : W p l e R s m args below meth c H locs cells slots Q (F0 m pc ls st0) := by
  obtain ⟨hx, hb, hml, hown, hts, -, hlocks, hA, hK, hN, hX, hT⟩ := G
  have hp9 : ((F ++ [(q, x)]) ++ B).Perm ((F ++ B) ++ [(q, x)]) := (fb_push F B (q, x)).symm
  have hP := hP.perm hp9
  have hD := hD.perm hp9
  have hF := fb_free hD hS hA
  have hPc : va_P D vwCl [(q, x)] H := va_P_mem.mpr fun z hz => va_P_mem.mp hP z (List.mem_append_right _ hz)
  have hDc : va_D (fun _ => True) [(q, x)] := va_D_nd.mpr ⟨by simp, fun _ _ => trivial⟩
  have hG : GoodIn BIG (.code y bytes n none :: BIG) := fun w hw => big_good w (by rcases List.mem_cons.mp hw with rfl | h; exact hcd; exact h)
  refine va_callv (va_runI (As := As) (rest := rest) ⟨hx, hb, hml, hown, hts⟩ (hM H.size) (cwI nA hts hG rfl rfl rfl (hts _ hini) (hts _ hl) (hts _ hin) hy1 hd ⟨by show d1 + 1 ≤ R.frames; exact hR.1, by show 8 + (n + 11) + 40 * d1 ≤ R.locals; omega⟩) ⟨gPre_blind hT, fun U hU hW => ⟨rfl, by rw [hU], by rw [hU]; exact hPc, va_K.moved hW.alike hK, hDc, hN.warm hW, hT.2 _ _ _ _ _ _ hX hS hU hW hF⟩⟩ rfl hn hls hst (lv_room hcat) hdg ⟨hR.2.2.1, hR.2.2.2⟩) hS (fun q _ h => hF q h) hF (fun b t H1 locs1 ht hvm hw hB hz1 hk1 hS1 => ?_)
  obtain ⟨hP1, hK1, hD1⟩ := hB
  rw [ht] at hP1
  obtain ⟨hP2, hD2⟩ := fb_join hP hD hk1 hF hP1 hD1
  rw [List.append_assoc] at hP2 hD2
  exact kk b H1 locs1 hw hP2 hD2 hS1
end D14
theorem dJ5_init_0 : decode cJ5_init_d00df 0 = .ok (.aload_n 0, 1) := by decide +kernel
theorem dJ5_init_1 : decode cJ5_init_d00df 1 = .ok (.invokespecial 3, 3) := by decide +kernel
theorem dJ5_init_4 : decode cJ5_init_d00df 4 = .ok (.getstatic 18, 3) := by decide +kernel
theorem dJ5_init_7 : decode cJ5_init_d00df 7 = .ok (.ifCond .eq 18, 3) := by decide +kernel
theorem dJ5_init_10 : decode cJ5_init_d00df 10 = .ok (.aload_n 0, 1) := by decide +kernel
theorem dJ5_init_11 : decode cJ5_init_d00df 11 = .ok (.iload_n 1, 1) := by decide +kernel
theorem dJ5_init_12 : decode cJ5_init_d00df 12 = .ok (.newarray .byte, 2) := by decide +kernel
theorem dJ5_init_14 : decode cJ5_init_d00df 14 = .ok (.putfield 15, 3) := by decide +kernel
theorem dJ5_init_17 : decode cJ5_init_d00df 17 = .ok (.aload_n 0, 1) := by decide +kernel
theorem dJ5_init_18 : decode cJ5_init_d00df 18 = .ok (.iconst 0, 1) := by decide +kernel
theorem dJ5_init_19 : decode cJ5_init_d00df 19 = .ok (.putfield 22, 3) := by decide +kernel
theorem dJ5_init_22 : decode cJ5_init_d00df 22 = .ok (.goto 16, 3) := by decide +kernel
theorem dJ5_init_38 : decode cJ5_init_d00df 38 = .ok (.return_, 1) := by decide +kernel
theorem dJ4_init_0 : decode cJ4_init_da8c8 0 = .ok (.aload_n 0, 1) := by decide +kernel
theorem dJ4_init_1 : decode cJ4_init_da8c8 1 = .ok (.bipush 16, 2) := by decide +kernel
theorem dJ4_init_3 : decode cJ4_init_da8c8 3 = .ok (.invokespecial 1, 3) := by decide +kernel
theorem dJ4_init_6 : decode cJ4_init_da8c8 6 = .ok (.return_, 1) := by decide +kernel
theorem dflt_J4 : ∀ j, j < 4 → defaultValue (tyJ4 j) = vp_V [.null, .int 0, .int 0, .int 0] j := fun j hj => by
  match j, hj with
  | 0, _ => rfl
  | 1, _ => rfl
  | 2, _ => rfl
  | 3, _ => rfl
  | j + 4, hj => omega
def sb0 (q : Nat) : SBb := (q, 16, 0, fun _ => 0)
theorem sb0_ok {q : Nat} : SBT [] (sb0 q) := ⟨Or.inl rfl, Nat.zero_le _, fun j hj => absurd hj (Nat.not_lt_zero j), fun j => (show fits FieldType.byte (Value.int 0) = true by decide), Or.inl rfl⟩
set_option maxHeartbeats 4000000 in
set_option maxRecDepth 100000 in
theorem mJ5_init (l : Launch) (D : va_G) (cA : Nat → ClassId) (ad adF adW tt : Nat → Nat) (ST : gST) (hT : STE ad adF adW tt ST) (hW : STW adW tt ST) (h0 : Nat) : gMetC l yJ5_init_d00df cJ5_init_d00df 2 1 1 16 D (TYS cA) ST [(h0, .inr (1, [.null, .int 0, .int 0, .int 0]))] [.ref h0, .int 16] (fun _ : Nat => True) (fun q => sbC cA h0 0 (sb0 q)) := by
  refine g_ofWC hT.1 (by decide +kernel) (Nat.le_of_ble_eq_true rfl) ?_
  intro p e s m args below meth c ls A G hnm9 hP hD hl
  have G : GC p s m args meth c cJ5_init_d00df 2 RJ5 none A D (TYS cA) ST := G
  have hnm9 : meth.name = "<init>" := hnm9
  have hx := G.1
  have hb := G.2.1
  have hS : va_S A s.heap s.heap [] := va_S.rf
  have hl : lv_has ls 2 [(0, .ref h0), (1, .int 16)] := hl
  have hP : va_P D vwCl ([(h0, .inr (1, [.null, .int 0, .int 0, .int 0]))] ++ ([] : va_W)) s.heap := hP
  have hD : va_D A ([(h0, .inr (1, [.null, .int 0, .int 0, .int 0]))] ++ ([] : va_W)) := hD
  refine lv_aload_n hx hb dJ5_init_0 rfl (lv_at hl 0 rfl) ?_
  refine c_objInit G q2_25 q1_44 q1_45 hl.1 dJ5_init_1 (by decide) (Nat.le_of_ble_eq_true rfl) ?_
  refine va_gets hx hb (hW _ _ G.2.2.2.2.2.2.2.2.2.2.1).1 hS G.2.2.2.1 (G.2.2.2.2.1 _ q2_26) (fun _ h9 => h9) dJ5_init_4 ?_
  refine lv_if_eq (tgt := 25) hx hb dJ5_init_7 (by decide) (fun c9 => absurd c9 (by decide)) (fun c9 => ?_)
  refine lv_aload_n hx hb dJ5_init_10 rfl (lv_at hl 0 rfl) ?_
  refine lv_iload_n hx hb dJ5_init_11 rfl (lv_at hl 1 rfl) ?_
  refine c_newa (atype := .byte) (ty := .byte) (F := [(h0, .inr (1, [.null, .int 0, .int 0, .int 0]))]) (B := ([] : va_W)) 5 rfl (fun _ h => by cases h) G hP hD hS q2_49 rfl (16, .inl (fun _ => 0)) (fun _ => rfl) (by decide) rfl (by decide) (Nat.le_of_ble_eq_true rfl) (Nat.le_of_ble_eq_true rfl) dJ5_init_12 (fun q1 H hP hD hS => ?_)
  have hP : va_P D vwCl ([(h0, .inr (1, [.null, .int 0, .int 0, .int 0])), (q1, .inl (cA 5, 16, .inl (fun _ => 0)))] ++ ([] : va_W)) H := hP
  have hD : va_D A ([(h0, .inr (1, [.null, .int 0, .int 0, .int 0])), (q1, .inl (cA 5, 16, .inl (fun _ => 0)))] ++ ([] : va_W)) := hD
  refine c_put (F := [(h0, .inr (1, [.null, .int 0, .int 0, .int 0])), (q1, .inl (cA 5, 16, .inl (fun _ => 0)))]) (B := ([] : va_W)) (ci := 1) (v := .ref q1) hnm9 G hP hD hS 0 0 i_J4 rfl tyJ4 tyJ4_ok nmJ4 rfl (by decide) q2_35 rfl rfl rfl (Nat.le_of_ble_eq_true rfl) dJ5_init_14 (fun H locs hP hD hS => ?_)
  have hP : va_P D vwCl ([(h0, .inr (1, [.ref q1, .int 0, .int 0, .int 0])), (q1, .inl (cA 5, 16, .inl (fun _ => 0)))] ++ ([] : va_W)) H := hP
  have hD : va_D A ([(h0, .inr (1, [.ref q1, .int 0, .int 0, .int 0])), (q1, .inl (cA 5, 16, .inl (fun _ => 0)))] ++ ([] : va_W)) := hD
  refine lv_aload_n hx hb dJ5_init_17 rfl (lv_at hl 0 rfl) ?_
  refine lv_iconst (v := 0) hx hb dJ5_init_18 (by decide) ?_
  refine c_put (F := [(h0, .inr (1, [.ref q1, .int 0, .int 0, .int 0])), (q1, .inl (cA 5, 16, .inl (fun _ => 0)))]) (B := ([] : va_W)) (ci := 1) (v := .int 0) hnm9 G hP hD hS 0 1 i_J4 rfl tyJ4 tyJ4_ok nmJ4 rfl (by decide) q2_36 rfl rfl rfl (Nat.le_of_ble_eq_true rfl) dJ5_init_19 (fun H locs hP hD hS => ?_)
  have hP : va_P D vwCl ([(h0, .inr (1, [.ref q1, .int 0, .int 0, .int 0])), (q1, .inl (cA 5, 16, .inl (fun _ => 0)))] ++ ([] : va_W)) H := hP
  have hD : va_D A ([(h0, .inr (1, [.ref q1, .int 0, .int 0, .int 0])), (q1, .inl (cA 5, 16, .inl (fun _ => 0)))] ++ ([] : va_W)) := hD
  refine lv_goto (tgt := 38) hx hb dJ5_init_22 (by decide) ?_
  rw [List.append_nil] at hP hD
  exact c_ret (Wb := fun q => sbC cA h0 0 (sb0 q)) q1 trivial G hP hD hS (by decide) dJ5_init_38
set_option maxHeartbeats 4000000 in
set_option maxRecDepth 100000 in
theorem mJ4_init (l : Launch) (D : va_G) (cA : Nat → ClassId) (ad adF adW tt : Nat → Nat) (ST : gST) (hT : STE ad adF adW tt ST) (hW : STW adW tt ST) (h0 : Nat) : gMetC l yJ4_init_da8c8 cJ4_init_da8c8 1 2 1 16 D (TYS cA) ST [(h0, .inr (1, [.null, .int 0, .int 0, .int 0]))] [.ref h0] (fun _ : Nat => True) (fun q => sbC cA h0 0 (sb0 q)) := by
  refine g_ofWC hT.1 (by decide +kernel) (Nat.le_of_ble_eq_true rfl) ?_
  intro p e s m args below meth c ls A G hnm9 hP hD hl
  have G : GC p s m args meth c cJ4_init_da8c8 1 RJ4 none A D (TYS cA) ST := G
  have hx := G.1
  have hb := G.2.1
  have hS : va_S A s.heap s.heap [] := va_S.rf
  have hl : lv_has ls 1 [(0, .ref h0)] := hl
  have hP : va_P D vwCl ((([] : va_W) ++ [(h0, .inr (1, [.null, .int 0, .int 0, .int 0]))]) ++ ([] : va_W)) s.heap := hP
  have hD : va_D A ((([] : va_W) ++ [(h0, .inr (1, [.null, .int 0, .int 0, .int 0]))]) ++ ([] : va_W)) := hD
  refine lv_aload_n hx hb dJ4_init_0 rfl (lv_at hl 0 rfl) ?_
  refine lv_bipush (v := 16) hx hb dJ4_init_1 (by decide) ?_
  refine c_callIa (nA := 1) (As := [.int 16]) (F := ([] : va_W)) (B := ([] : va_W)) (mJ5_init l D cA ad adF adW tt ST hT hW h0) G hP hD hS q2_22 q2_23 q1_12 q2_24 rfl (by decide +kernel) (by decide) rfl hl.1 rfl (Nat.le_of_ble_eq_true rfl) dJ4_init_3 (fun q1 H locs _ hP hD hS => ?_)
  exact c_ret (Wb := fun q => sbC cA h0 0 (sb0 q)) q1 trivial G hP hD hS (by decide) dJ4_init_6
