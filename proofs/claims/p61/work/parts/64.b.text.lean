theorem q6_174 : Jvm.Cond.sameMethod "[B" "java/lang/Object" "clone" "()Ljava/lang/Object;" ∈ BIG := bg6 (List.mem_of_getElem? (i := 174) rfl) rfl
theorem q7_34 : Jvm.Cond.sameMethod "java/lang/AbstractStringBuilder" "java/lang/AbstractStringBuilder" "getValue" "()[B" ∈ BIG := bg7 (List.mem_of_getElem? (i := 34) rfl) rfl
-- ===== p61: a made text =====
theorem i_J0 : ∀ w ∈ u_ws RJ0 TJ0 4, w ∈ BIG := show ∀ w ∈ ([u_lay RJ0 TJ0 0, u_lay RJ0 TJ0 1, u_lay RJ0 TJ0 2, u_lay RJ0 TJ0 3] : List Cond), w ∈ BIG from List.forall_mem_cons.mpr ⟨q5_164, List.forall_mem_cons.mpr ⟨q5_166, List.forall_mem_cons.mpr ⟨q7_75, List.forall_mem_cons.mpr ⟨q7_77, List.forall_mem_nil _⟩⟩⟩⟩
theorem g_goodO {own C owner : String} {index n : Nat} {x y : MethodName} {b : ByteArray} {ret' : Option FieldType} (h1 : Cond.methodLink own index x ∈ BIG) (h2 : Cond.sameMethod x.cls owner x.name x.desc ∈ BIG) (h3 : Cond.instanceMethod ⟨owner, x.name, x.desc⟩ ∈ BIG) (h4 : Cond.selects C x y ∈ BIG) (h6 : Cond.instanceMethod y ∈ BIG) (h7 : Cond.initialized y.cls ∈ BIG) (h5 : Cond.code y b n ret' ∈ BIG) : GoodIn BIG (va_wsO own index C owner x y (.code y b n ret' :: BIG)) := by
  intro w hw
  unfold va_wsO at hw
  refine big_good w ?_
  rcases List.mem_append.mp hw with h | h
  · simp only [List.mem_cons, List.not_mem_nil, or_false] at h
    rcases h with rfl | rfl | rfl | rfl | rfl | rfl <;> assumption
  · rcases List.mem_cons.mp h with rfl | h
    · exact h5
    · exact h
theorem by_fit {cB : ClassId} {n : Nat} {f : Nat → Int32} (hf : sb_Fit f) (i : Nat) (v : Value) (h : (vp_cell cB (n, .inl f)).slots[i]? = some v) : fits .byte v = true := by
  have hi : i < n := by
    have h1 := (Array.getElem?_eq_some_iff.mp h).1
    rw [show (vp_cell cB (n, .inl f)).slots.size = n from arrV_size _ _ _] at h1
    exact h1
  have h2 : (vp_cell cB (n, .inl f)).slots[i]? = some (.int (f i)) := arrV_read cB (fun j => .int (f j)) hi
  rw [h2] at h
  cases h
  exact hf i
section S64B
variable {p : Program} {l : Launch} {e : Env} {R : Room} {s : State} {m : MethodId} {args : Array Value} {below : List Frame} {meth : Method} {c : Code} {H : Heap} {locs : List Loc} {cells slots : Nat} {Q : State → Prop}
variable {cc : ByteArray} {maxL : Nat} {ret : Option FieldType} {pc : Nat} {ls : Array Slot} {rest : List Value} {D : va_G} {A : Nat → Prop} {cA : Nat → ClassId} {F B : va_W} {ST : gST} {own : String}
theorem c_callOi {b0 : ByteArray} {m0 : Nat} {r0 : Option FieldType} {β : Type} {ok : Int32 → β → Prop} {Wb : β → va_W} {y : MethodName} {bytes : ByteArray} {n nA d1 mc ms index : Nat} {ret' : Option FieldType} {As st0 : List Value} {x : MethodName} {owner : String} (W0 wc : va_W) {w : va_W} {C : String} {T : u_T} {M ci : Nat} {fs : List Value} {q : Nat} (q0 : Nat) (hc : vwCl[ci]? = some (C, T, M)) (he : w[q0]? = some (q, .inr (ci, fs))) (hM : gMetG l y bytes n ret' d1 mc ms D (TYS cA) ST wc (.ref q :: As) (gGi D (TYS cA) ok Wb)) (G : GC p s m args meth c cc maxL own ret A D (TYS cA) ST) (hP : va_P D vwCl w H) (hD : va_D A w) (hS : va_S A s.heap H locs) (hW : w.Perm (W0 ++ wc))
    (hg : GoodIn BIG (va_wsO own index C owner x y (.code y bytes n ret' :: BIG))) (h0 : Cond.code ⟨owner, x.name, x.desc⟩ b0 m0 r0 ∈ BIG) (hd : owner ≠ "java/lang/invoke/MethodHandle" ∧ owner ≠ "java/lang/invoke/VarHandle" ∧ (parseMethodDescriptor x.desc).map (fun d => d.parameters.length) = some nA) (hR : d1 + 1 ≤ R.frames ∧ 19 + n + 40 * d1 ≤ R.locals ∧ cells + mc ≤ R.cells ∧ slots + ms ≤ R.slots) (hn : As.length = nA) (hls : ls.size = maxL) (rest : List Value) (hst : st0 = As.reverse ++ .ref q :: rest) (hcat : (rest.map fun v => v.category).sum ≤ 8) (hdg : decode cc pc = .ok (.invokevirtual index, 3))
    (kk : ∀ (r : Int32) (b : β) (H1 : Heap) (locs1 : List Loc), ok r b → va_P D vwCl (W0 ++ Wb b) H1 → va_D A (W0 ++ Wb b) → va_S A s.heap H1 locs1 → W p l e R s m args below meth c H1 locs1 (cells + mc) (slots + ms) Q (F0 m (pc + 3) ls (.int r :: rest))) : W p l e R s m args below meth c H locs cells slots Q (F0 m pc ls st0) := by
  obtain ⟨hx, hb, hml, hown, hts, -, hlocks, hA, hK, hN, hX, hT⟩ := G
  have hrecv := va_recv hK hP hc he
  have hP := hP.perm hW
  have hD := hD.perm hW
  have hF := fb_free hD hS hA
  have hPc : va_P D vwCl wc H := va_P_mem.mpr fun z hz => va_P_mem.mp hP z (List.mem_append_right _ hz)
  have hDc : va_D (fun _ => True) wc := va_D_nd.mpr ⟨by have h9 := (va_D_nd.mp hD).1; rw [List.map_append, List.nodup_append] at h9; exact h9.2.1, fun _ _ => trivial⟩
  refine va_calli (va_runU (As := As) (C := C) (owner := owner) (x := x) (y := y) (rest := rest) ⟨hx, hb, hml, hown, hts⟩ (hM H.size) (va_cwO nA hts hg rfl rfl rfl h0 hd ⟨by show d1 + 1 ≤ R.frames; exact hR.1, by show 8 + (n + 11) + 40 * d1 ≤ R.locals; omega⟩) ⟨gPre_blind hT, hrecv, fun U hU hW => ⟨rfl, by rw [hU], by rw [hU]; exact hPc, va_K.moved hW.alike hK, hDc, hN.warm hW, hT.2 _ _ _ _ _ _ hX hS hU hW hF⟩⟩ rfl hn hls hst (lv_room hcat) hdg ⟨hR.2.2.1, hR.2.2.2⟩) hS (fun q _ h => hF q h) hF (fun r b t H1 locs1 ht hvm hw hB hz1 hk1 hS1 => ?_)
  obtain ⟨hP1, hK1, hD1⟩ := hB
  rw [ht] at hP1
  obtain ⟨hP2, hD2⟩ := fb_join hP hD hk1 hF hP1 hD1
  exact kk r b H1 locs1 hw hP2 hD2 hS1
end S64B
set_option maxHeartbeats 4000000 in
set_option maxRecDepth 100000 in
theorem mCR55 (l : Launch) (D : va_G) (cA : Nat → ClassId) (ad adF adW tt : Nat → Nat) (ST : gST) (hT : STE ad adF adW tt ST) (hW : STW adW tt ST) (hSQ : STQ ST) (hB2 : STB2 cA ST) (q : Nat) (f : Nat → Int32) (hf : sb_Fit f) : gMetG l yJ7_copyOfRange_39247 cJ7_copyOfRange_39247 3 (some (.array .byte)) 1 1 55 D (TYS cA) ST ([(q, .inl (cA 5, 55, .inl f))]) [.ref q, .int 0, .int (nI 55)] (gGr D (TYS cA) (fun _ : Nat => True) (fun q9 => q9) (fun q9 => [(q, .inl (cA 5, 55, .inl f)), (q9, .inl (cA 5, 55, .inl f))])) := by
  refine g_ofWG hT.1 (by decide +kernel) (Nat.le_of_ble_eq_true rfl) ?_
  intro p e s m args below meth c ls A G hP hD hl
  have G : GC p s m args meth c cJ7_copyOfRange_39247 3 RJ7 (some (.array .byte)) A D (TYS cA) ST := G
  have hx := G.1
  have hb := G.2.1
  have hS : va_S A s.heap s.heap [] := va_S.rf
  have hP : va_P D vwCl ([(q, .inl (cA 5, 55, .inl f))]) s.heap := hP
  have hD : va_D A ([(q, .inl (cA 5, 55, .inl f))]) := hD
  have hl : lv_has ls 3 [(0, .ref q), (1, .int 0), (2, .int (nI 55))] := hl
  refine lv_iload_n hx hb dJ7_copyOfRange_39247_0 rfl (lv_at hl 1 rfl) ?_
  refine lv_if_ne (tgt := 10) hx hb dJ7_copyOfRange_39247_1 (by decide) (fun c9 => absurd (rfl) c9) (fun c9 => ?_)
  refine lv_iload_n hx hb dJ7_copyOfRange_39247_4 rfl (lv_at hl 2 rfl) ?_
  refine lv_aload_n hx hb dJ7_copyOfRange_39247_5 rfl (lv_at hl 0 rfl) ?_
  refine va_alen (v := (nI 55)) hx hb G.2.2.2.2.2.2.2.2.1 hP 0 5 rfl rfl rfl dJ7_copyOfRange_39247_6 ?_
  refine lv_icmp_eq (tgt := 17) hx hb dJ7_copyOfRange_39247_7 (by decide) (fun c9 => ?_) (fun c9 => absurd (rfl) c9)
  refine lv_aload_n hx hb dJ7_copyOfRange_39247_17 rfl (lv_at hl 0 rfl) ?_
  refine va_clone hx hb (G.2.2.1.trans hl.1.symm) G.2.2.2.1 (G.2.2.2.2.1 _ q6_173) (G.2.2.2.2.1 _ q6_174) (G.2.2.2.2.1 _ q6_175) (G.2.2.2.2.1 _ q6_176) (G.2.2.2.2.1 _ q6_177) (hB2 _ _ G.2.2.2.2.2.2.2.2.2.2.1) G.2.2.2.2.2.2.2.2.1 hP hD hS G.2.2.2.2.2.2.2.1 0 5 rfl rfl (G.2.2.2.2.2.2.2.2.1.2 5 (cA 5, .byte) rfl).2 (by_fit hf) (by decide) (by decide) (Nat.le_of_ble_eq_true rfl) (Nat.le_of_ble_eq_true rfl) dJ7_copyOfRange_39247_18 (fun q9 H _ hP hD hS => ?_)
  have hP : va_P D vwCl ([(q, .inl (cA 5, 55, .inl f)), (q9, .inl (cA 5, 55, .inl f))]) H := hP
  have hD : va_D A ([(q, .inl (cA 5, 55, .inl f)), (q9, .inl (cA 5, 55, .inl f))]) := hD
  refine va_castA hx hb G.2.2.2.1 (G.2.2.2.2.1 _ q6_179) hP 1 rfl (G.2.2.2.2.2.2.2.2.1.2 5 (cA 5, .byte) rfl).2 dJ7_copyOfRange_39247_21 ?_
  exact c_reta q9 trivial rfl (Or.inr ⟨_, rfl⟩) G hP hD hS ⟨Nat.le_of_ble_eq_true rfl, Nat.le_of_ble_eq_true rfl⟩ dJ7_copyOfRange_39247_24
set_option maxHeartbeats 4000000 in
set_option maxRecDepth 100000 in
theorem mSI1 (l : Launch) (D : va_G) (cA : Nat → ClassId) (ad adF adW tt : Nat → Nat) (ST : gST) (hT : STE ad adF adW tt ST) (hW : STW adW tt ST) (hSQ : STQ ST) (hB2 : STB2 cA ST) (y z q : Nat) (ml : Int32) (f : Nat → Int32) (hf : sb_Fit f) : gMetC l yJ0_init_db425 cJ0_init_db425 5 2 1 55 D (TYS cA) ST ([(y, .inr (0, [.null, .int 0, .int 0, .int 0])), (z, .inr (1, [.ref q, .int 0, .int ml, .int (nI 55)])), (q, .inl (cA 5, 55, .inl f))] ++ ([] : va_W)) [.ref y, .ref z, .null] (fun _ : Nat => True) (fun q9 => [(y, .inr (0, [.ref q9, .int 0, .int 0, .int 0])), (z, .inr (1, [.ref q, .int 0, .int ml, .int (nI 55)])), (q, .inl (cA 5, 55, .inl f)), (q9, .inl (cA 5, 55, .inl f))]) := by
  refine g_ofWC hT.1 (by decide +kernel) (Nat.le_of_ble_eq_true rfl) ?_
  intro p e s m args below meth c ls A G hnm9 hP hD hl
  have hnm9 : meth.name = "<init>" := hnm9
  have G : GC p s m args meth c cJ0_init_db425 5 RJ0 none A D (TYS cA) ST := G
  have hx := G.1
  have hb := G.2.1
  have hS : va_S A s.heap s.heap [] := va_S.rf
  have hP : va_P D vwCl ([(y, .inr (0, [.null, .int 0, .int 0, .int 0])), (z, .inr (1, [.ref q, .int 0, .int ml, .int (nI 55)])), (q, .inl (cA 5, 55, .inl f))] ++ ([] : va_W)) s.heap := hP
  have hD : va_D A ([(y, .inr (0, [.null, .int 0, .int 0, .int 0])), (z, .inr (1, [.ref q, .int 0, .int ml, .int (nI 55)])), (q, .inl (cA 5, 55, .inl f))] ++ ([] : va_W)) := hD
  have hl : lv_has ls 5 [(0, .ref y), (1, .ref z), (2, .null)] := hl
  refine lv_aload_n hx hb dJ0_init_db425_0 rfl (lv_at hl 0 rfl) ?_
  refine c_objInit G q7_31 q1_46 q1_47 hl.1 dJ0_init_db425_1 (by decide) (Nat.le_of_ble_eq_true rfl) ?_
  refine lv_aload_n hx hb dJ0_init_db425_4 rfl (lv_at hl 1 rfl) ?_
  refine c_callUr (nA := 0) (x := ⟨RJ5, "getValue", "()[B"⟩) (owner := RJ5) (C := RJ4) (T := TJ4) (M := 4) (ci := 1) (([(y, .inr (0, [.null, .int 0, .int 0, .int 0]))] : va_W)) (([(z, .inr (1, [.ref q, .int 0, .int ml, .int (nI 55)])), (q, .inl (cA 5, 55, .inl f))] : va_W)) 1 rfl rfl (mJ5_getValue_6d5f1 l D cA ad adF adW tt ST hT hW hSQ z q 55 55 ml f) G hP hD hS (List.Perm.of_eq rfl) (g_goodU q7_32 q7_34 q7_35 q7_33 q1_12 q7_36) rfl (by decide +kernel) ⟨Nat.le_of_ble_eq_true rfl, Nat.le_of_ble_eq_true rfl, Nat.le_of_ble_eq_true rfl, Nat.le_of_ble_eq_true rfl⟩ rfl hl.1 [] rfl (Nat.le_of_ble_eq_true rfl) dJ0_init_db425_5 (fun _ H locs hok hP hD hS => ?_)
  have hP : va_P D vwCl ([(y, .inr (0, [.null, .int 0, .int 0, .int 0])), (z, .inr (1, [.ref q, .int 0, .int ml, .int (nI 55)])), (q, .inl (cA 5, 55, .inl f))] ++ ([] : va_W)) H := hP
  have hD : va_D A ([(y, .inr (0, [.null, .int 0, .int 0, .int 0])), (z, .inr (1, [.ref q, .int 0, .int ml, .int (nI 55)])), (q, .inl (cA 5, 55, .inl f))] ++ ([] : va_W)) := hD
  refine lv_astore_n (lv' := [(3, .ref q), (0, .ref y), (1, .ref z), (2, .null)]) hx hb dJ0_init_db425_8 rfl hl (by decide) rfl (fun ls hl => ?_)
  refine lv_aload_n hx hb dJ0_init_db425_9 rfl (lv_at hl 2 rfl) ?_
  refine c_callOi (nA := 0) (x := ⟨RJ5, "length", "()I"⟩) (owner := RJ5) (C := RJ4) (T := TJ4) (M := 4) (ci := 1) ([(y, .inr (0, [.null, .int 0, .int 0, .int 0]))] : va_W) ([(z, .inr (1, [.ref q, .int 0, .int ml, .int (nI 55)])), (q, .inl (cA 5, 55, .inl f))] : va_W) 1 rfl rfl (mJ4_length_8abf5 l D cA ad adF adW tt ST hT hW hSQ z q 55 55 ml f) G hP hD hS (List.Perm.of_eq rfl) (g_goodO q7_37 q7_39 q7_38 q7_40 q7_41 q1_13 q7_42) q7_44 (by decide +kernel) ⟨Nat.le_of_ble_eq_true rfl, Nat.le_of_ble_eq_true rfl, Nat.le_of_ble_eq_true rfl, Nat.le_of_ble_eq_true rfl⟩ rfl hl.1 [] rfl (Nat.le_of_ble_eq_true rfl) dJ0_init_db425_10 (fun r b9 H locs hok hP hD hS => ?_)
  have hP : va_P D vwCl ([(y, .inr (0, [.null, .int 0, .int 0, .int 0])), (z, .inr (1, [.ref q, .int 0, .int ml, .int (nI 55)])), (q, .inl (cA 5, 55, .inl f))] ++ ([] : va_W)) H := hP
  have hD : va_D A ([(y, .inr (0, [.null, .int 0, .int 0, .int 0])), (z, .inr (1, [.ref q, .int 0, .int ml, .int (nI 55)])), (q, .inl (cA 5, 55, .inl f))] ++ ([] : va_W)) := hD
  have hok : r = nI 55 := hok
  subst hok
  refine lv_istore (lv' := [(4, .int (nI 55)), (3, .ref q), (0, .ref y), (1, .ref z), (2, .null)]) hx hb dJ0_init_db425_13 hl (by decide) rfl (fun ls hl => ?_)
  refine lv_aload_n hx hb dJ0_init_db425_15 rfl (lv_at hl 3 rfl) ?_
  refine c_callUi (nA := 0) (x := ⟨RJ5, "isLatin1", "()Z"⟩) (owner := RJ5) (C := RJ4) (T := TJ4) (M := 4) (ci := 1) (([(y, .inr (0, [.null, .int 0, .int 0, .int 0]))] : va_W)) (([(z, .inr (1, [.ref q, .int 0, .int ml, .int (nI 55)])), (q, .inl (cA 5, 55, .inl f))] : va_W)) 1 rfl rfl (mJ5_isLatin1_aae02 l D cA ad adF adW tt ST hT hW hSQ z q 55 55 ml f) G hP hD hS (List.Perm.of_eq rfl) (g_goodU q7_45 q6_182 q6_183 q6_181 q1_12 q6_184) rfl (by decide +kernel) ⟨Nat.le_of_ble_eq_true rfl, Nat.le_of_ble_eq_true rfl, Nat.le_of_ble_eq_true rfl, Nat.le_of_ble_eq_true rfl⟩ rfl hl.1 [] rfl (Nat.le_of_ble_eq_true rfl) dJ0_init_db425_16 (fun r b9 H locs hok hP hD hS => ?_)
  have hP : va_P D vwCl ([(y, .inr (0, [.null, .int 0, .int 0, .int 0])), (z, .inr (1, [.ref q, .int 0, .int ml, .int (nI 55)])), (q, .inl (cA 5, 55, .inl f))] ++ ([] : va_W)) H := hP
  have hD : va_D A ([(y, .inr (0, [.null, .int 0, .int 0, .int 0])), (z, .inr (1, [.ref q, .int 0, .int ml, .int (nI 55)])), (q, .inl (cA 5, 55, .inl f))] ++ ([] : va_W)) := hD
  have hok : r = 1 := hok
  subst hok
  refine lv_if_eq (tgt := 41) hx hb dJ0_init_db425_19 (by decide) (fun c9 => absurd c9 (by decide)) (fun c9 => ?_)
  refine lv_aload_n hx hb dJ0_init_db425_22 rfl (lv_at hl 2 rfl) ?_
  refine lv_iconst (v := 0) hx hb dJ0_init_db425_23 (by decide) ?_
  refine c_put (F := [(y, .inr (0, [.null, .int 0, .int 0, .int 0])), (z, .inr (1, [.ref q, .int 0, .int ml, .int (nI 55)])), (q, .inl (cA 5, 55, .inl f))]) (B := ([] : va_W)) (ci := 0) (v := .int 0) hnm9 G hP hD hS 0 1 i_J0 rfl tyJ0 tyJ0_ok nmJ0 rfl (by decide) q7_74 rfl rfl rfl (Nat.le_of_ble_eq_true rfl) dJ0_init_db425_24 (fun H locs hP hD hS => ?_)
  have hP : va_P D vwCl ([(y, .inr (0, [.null, .int 0, .int 0, .int 0])), (z, .inr (1, [.ref q, .int 0, .int ml, .int (nI 55)])), (q, .inl (cA 5, 55, .inl f))] ++ ([] : va_W)) H := hP
  have hD : va_D A ([(y, .inr (0, [.null, .int 0, .int 0, .int 0])), (z, .inr (1, [.ref q, .int 0, .int ml, .int (nI 55)])), (q, .inl (cA 5, 55, .inl f))] ++ ([] : va_W)) := hD
  refine lv_aload_n hx hb dJ0_init_db425_27 rfl (lv_at hl 2 rfl) ?_
  refine lv_aload_n hx hb dJ0_init_db425_28 rfl (lv_at hl 1 rfl) ?_
  refine lv_iconst (v := 0) hx hb dJ0_init_db425_29 (by decide) ?_
  refine lv_iload hx hb dJ0_init_db425_30 (lv_at hl 0 rfl) ?_
  refine c_callSr (nA := 3) ([(y, .inr (0, [.null, .int 0, .int 0, .int 0])), (z, .inr (1, [.ref q, .int 0, .int ml, .int (nI 55)]))] : va_W) ([(q, .inl (cA 5, 55, .inl f))] : va_W) (mCR55 l D cA ad adF adW tt ST hT hW hSQ hB2 q f hf) G hP hD hS (List.Perm.of_eq rfl) (g_goodSX q7_46 q7_47 q1_33 q7_48) (by decide +kernel) ⟨Nat.le_of_ble_eq_true rfl, Nat.le_of_ble_eq_true rfl, Nat.le_of_ble_eq_true rfl, Nat.le_of_ble_eq_true rfl⟩ rfl hl.1 [.ref y] rfl (Nat.le_of_ble_eq_true rfl) dJ0_init_db425_32 (fun q9 H locs hok hP hD hS => ?_)
  have hP : va_P D vwCl ([(y, .inr (0, [.null, .int 0, .int 0, .int 0])), (z, .inr (1, [.ref q, .int 0, .int ml, .int (nI 55)])), (q, .inl (cA 5, 55, .inl f)), (q9, .inl (cA 5, 55, .inl f))] ++ ([] : va_W)) H := hP
  have hD : va_D A ([(y, .inr (0, [.null, .int 0, .int 0, .int 0])), (z, .inr (1, [.ref q, .int 0, .int ml, .int (nI 55)])), (q, .inl (cA 5, 55, .inl f)), (q9, .inl (cA 5, 55, .inl f))] ++ ([] : va_W)) := hD
  refine c_put (F := [(y, .inr (0, [.null, .int 0, .int 0, .int 0])), (z, .inr (1, [.ref q, .int 0, .int ml, .int (nI 55)])), (q, .inl (cA 5, 55, .inl f)), (q9, .inl (cA 5, 55, .inl f))]) (B := ([] : va_W)) (ci := 0) (v := .ref q9) hnm9 G hP hD hS 0 0 i_J0 rfl tyJ0 tyJ0_ok nmJ0 rfl (by decide) q7_73 rfl rfl rfl (Nat.le_of_ble_eq_true rfl) dJ0_init_db425_35 (fun H locs hP hD hS => ?_)
  have hP : va_P D vwCl ([(y, .inr (0, [.ref q9, .int 0, .int 0, .int 0])), (z, .inr (1, [.ref q, .int 0, .int ml, .int (nI 55)])), (q, .inl (cA 5, 55, .inl f)), (q9, .inl (cA 5, 55, .inl f))] ++ ([] : va_W)) H := hP
  have hD : va_D A ([(y, .inr (0, [.ref q9, .int 0, .int 0, .int 0])), (z, .inr (1, [.ref q, .int 0, .int ml, .int (nI 55)])), (q, .inl (cA 5, 55, .inl f)), (q9, .inl (cA 5, 55, .inl f))] ++ ([] : va_W)) := hD
  refine lv_goto (tgt := 97) hx hb dJ0_init_db425_38 (by decide) ?_
  refine c_ret q9 trivial G (va_P_sl (List.sublist_append_left _ _) hP) (va_D_sl (List.sublist_append_left _ _) hD) hS (by decide) dJ0_init_db425_97
set_option maxHeartbeats 4000000 in
set_option maxRecDepth 100000 in
theorem mSI2 (l : Launch) (D : va_G) (cA : Nat → ClassId) (ad adF adW tt : Nat → Nat) (ST : gST) (hT : STE ad adF adW tt ST) (hW : STW adW tt ST) (hSQ : STQ ST) (hB2 : STB2 cA ST) (y z q : Nat) (ml : Int32) (f : Nat → Int32) (hf : sb_Fit f) : gMetC l yJ0_init_81219 cJ0_init_81219 2 3 1 55 D (TYS cA) ST ([(y, .inr (0, [.null, .int 0, .int 0, .int 0])), (z, .inr (1, [.ref q, .int 0, .int ml, .int (nI 55)])), (q, .inl (cA 5, 55, .inl f))]) [.ref y, .ref z] (fun _ : Nat => True) (fun q9 => [(y, .inr (0, [.ref q9, .int 0, .int 0, .int 0])), (z, .inr (1, [.ref q, .int 0, .int ml, .int (nI 55)])), (q, .inl (cA 5, 55, .inl f)), (q9, .inl (cA 5, 55, .inl f))]) := by
  refine g_ofWC hT.1 (by decide +kernel) (Nat.le_of_ble_eq_true rfl) ?_
  intro p e s m args below meth c ls A G hnm9 hP hD hl
  have hnm9 : meth.name = "<init>" := hnm9
  have G : GC p s m args meth c cJ0_init_81219 2 RJ0 none A D (TYS cA) ST := G
  have hx := G.1
  have hb := G.2.1
  have hS : va_S A s.heap s.heap [] := va_S.rf
  have hP : va_P D vwCl ([(y, .inr (0, [.null, .int 0, .int 0, .int 0])), (z, .inr (1, [.ref q, .int 0, .int ml, .int (nI 55)])), (q, .inl (cA 5, 55, .inl f))]) s.heap := hP
  have hD : va_D A ([(y, .inr (0, [.null, .int 0, .int 0, .int 0])), (z, .inr (1, [.ref q, .int 0, .int ml, .int (nI 55)])), (q, .inl (cA 5, 55, .inl f))]) := hD
  have hl : lv_has ls 2 [(0, .ref y), (1, .ref z)] := hl
  refine lv_aload_n hx hb dJ0_init_81219_0 rfl (lv_at hl 0 rfl) ?_
  refine lv_aload_n hx hb dJ0_init_81219_1 rfl (lv_at hl 1 rfl) ?_
  refine lv_null hx hb dJ0_init_81219_2 ?_
  refine c_callIA (nA := 2) (q := y) (As := [.ref z, .null]) ([] : va_W) (([(y, .inr (0, [.null, .int 0, .int 0, .int 0])), (z, .inr (1, [.ref q, .int 0, .int ml, .int (nI 55)])), (q, .inl (cA 5, 55, .inl f))] : va_W) ++ ([] : va_W)) (mSI1 l D cA ad adF adW tt ST hT hW hSQ hB2 y z q ml f hf) G hP hD hS (List.Perm.of_eq rfl) q7_28 q7_29 q1_14 q7_30 rfl (by decide +kernel) ⟨Nat.le_of_ble_eq_true rfl, Nat.le_of_ble_eq_true rfl, Nat.le_of_ble_eq_true rfl, Nat.le_of_ble_eq_true rfl⟩ rfl hl.1 [] rfl (Nat.le_of_ble_eq_true rfl) dJ0_init_81219_3 (fun q9 H locs _ hP hD hS => ?_)
  exact c_ret q9 trivial G hP hD hS (by decide) dJ0_init_81219_6
theorem dflt_J0 : ∀ j, j < 4 → defaultValue (tyJ0 j) = vp_V [.null, .int 0, .int 0, .int 0] j := fun j hj => by
  match j, hj with
  | 0, _ => rfl
  | 1, _ => rfl
  | 2, _ => rfl
  | 3, _ => rfl
  | j + 4, hj => omega
/-- a made text of 55 letters -/
def txC (cA : Nat → ClassId) (y q : Nat) (f : Nat → Int32) : va_W := [(y, .inr (0, [.ref q, .int 0, .int 0, .int 0])), (q, .inl (cA 5, 55, .inl f))]
set_option maxHeartbeats 4000000 in
set_option maxRecDepth 100000 in
theorem mTS (l : Launch) (D : va_G) (cA : Nat → ClassId) (ad adF adW tt : Nat → Nat) (ST : gST) (hT : STE ad adF adW tt ST) (hW : STW adW tt ST) (hSQ : STQ ST) (hB2 : STB2 cA ST) (z q : Nat) (ml : Int32) (f : Nat → Int32) (hf : sb_Fit f) : gMetG l yJ4_toString_0e30d cJ4_toString_0e30d 1 (some (.object "java/lang/String")) 4 2 60 D (TYS cA) ST ([(z, .inr (1, [.ref q, .int 0, .int ml, .int (nI 55)])), (q, .inl (cA 5, 55, .inl f))]) [.ref z] (gGr D (TYS cA) (fun _ : Nat × Nat => True) (fun x => x.1) (fun x => txC cA x.1 x.2 f)) := by
  refine g_ofWG hT.1 (by decide +kernel) (Nat.le_of_ble_eq_true rfl) ?_
  intro p e s m args below meth c ls A G hP hD hl
  have G : GC p s m args meth c cJ4_toString_0e30d 1 RJ4 (some (.object "java/lang/String")) A D (TYS cA) ST := G
  have hx := G.1
  have hb := G.2.1
  have hS : va_S A s.heap s.heap [] := va_S.rf
  have hP : va_P D vwCl ([(z, .inr (1, [.ref q, .int 0, .int ml, .int (nI 55)])), (q, .inl (cA 5, 55, .inl f))]) s.heap := hP
  have hD : va_D A ([(z, .inr (1, [.ref q, .int 0, .int ml, .int (nI 55)])), (q, .inl (cA 5, 55, .inl f))]) := hD
  have hl : lv_has ls 1 [(0, .ref z)] := hl
  have hP : va_P D vwCl (([(z, .inr (1, [.ref q, .int 0, .int ml, .int (nI 55)])), (q, .inl (cA 5, 55, .inl f))] : va_W) ++ ([] : va_W)) s.heap := hP
  have hD : va_D A (([(z, .inr (1, [.ref q, .int 0, .int ml, .int (nI 55)])), (q, .inl (cA 5, 55, .inl f))] : va_W) ++ ([] : va_W)) := hD
  refine c_new (F := [(z, .inr (1, [.ref q, .int 0, .int ml, .int (nI 55)])), (q, .inl (cA 5, 55, .inl f))]) (B := ([] : va_W)) (ci := 0) (fs := [.null, .int 0, .int 0, .int 0]) G hP hD hS i_J0 tyJ0 tyJ0_ok q7_24 q5_163 q1_14 rfl dflt_J0 (Nat.le_of_ble_eq_true rfl) (Nat.le_of_ble_eq_true rfl) dJ4_toString_0e30d_0 (fun y H hP hD hS => ?_)
  refine lv_dup hx hb dJ4_toString_0e30d_3 rfl ?_
  refine lv_aload_n hx hb dJ4_toString_0e30d_4 rfl (lv_at hl 0 rfl) ?_
  refine c_callIA (nA := 1) (q := y) (As := [.ref z]) ([] : va_W) ([(y, .inr (0, [.null, .int 0, .int 0, .int 0])), (z, .inr (1, [.ref q, .int 0, .int ml, .int (nI 55)])), (q, .inl (cA 5, 55, .inl f))] : va_W) (mSI2 l D cA ad adF adW tt ST hT hW hSQ hB2 y z q ml f hf) G hP hD hS (List.perm_append_comm (l₁ := ([(z, .inr (1, [.ref q, .int 0, .int ml, .int (nI 55)])), (q, .inl (cA 5, 55, .inl f))] : va_W)) (l₂ := ([(y, .inr (0, [.null, .int 0, .int 0, .int 0]))] : va_W))) q7_25 q7_26 q1_14 q7_27 rfl (by decide +kernel) ⟨Nat.le_of_ble_eq_true rfl, Nat.le_of_ble_eq_true rfl, Nat.le_of_ble_eq_true rfl, Nat.le_of_ble_eq_true rfl⟩ rfl hl.1 [.ref y] rfl (Nat.le_of_ble_eq_true rfl) dJ4_toString_0e30d_5 (fun q9 H locs _ hP hD hS => ?_)
  refine c_reta (y, q9) trivial rfl (Or.inl ⟨_, rfl⟩) G (va_P_sl ?_ hP) (va_D_sl ?_ hD) hS (by decide) dJ4_toString_0e30d_8
  · exact List.Sublist.cons₂ _ (List.Sublist.cons _ (List.Sublist.cons _ (List.Sublist.refl _)))
  · exact List.Sublist.cons₂ _ (List.Sublist.cons _ (List.Sublist.cons _ (List.Sublist.refl _)))
set_option maxHeartbeats 4000000 in
set_option maxRecDepth 100000 in
theorem mT_coder (l : Launch) (D : va_G) (cA : Nat → ClassId) (ad adF adW tt : Nat → Nat) (ST : gST) (hT : STE ad adF adW tt ST) (hW : STW adW tt ST) (hSQ : STQ ST) (y q : Nat) (f : Nat → Int32) : gMetG l yJ0_coder_7d493 cJ0_coder_7d493 1 (some .byte) 0 0 0 D (TYS cA) ST (txC cA y q f) [.ref y] (gGi D (TYS cA) (fun r (_ : Unit) => r = 0) (fun _ => txC cA y q f)) := by
  refine g_ofWG hT.1 (by decide +kernel) (Nat.le_of_ble_eq_true rfl) ?_
  intro p e s m args below meth c ls A G hP hD hl
  have G : GC p s m args meth c cJ0_coder_7d493 1 RJ0 (some .byte) A D (TYS cA) ST := G
  have hx := G.1
  have hb := G.2.1
  have hS : va_S A s.heap s.heap [] := va_S.rf
  have hP : va_P D vwCl ([(y, .inr (0, [.ref q, .int 0, .int 0, .int 0])), (q, .inl (cA 5, 55, .inl f))]) s.heap := hP
  have hD : va_D A ([(y, .inr (0, [.ref q, .int 0, .int 0, .int 0])), (q, .inl (cA 5, 55, .inl f))]) := hD
  have hl : lv_has ls 1 [(0, .ref y)] := hl
  refine va_gets hx hb (hW _ _ G.2.2.2.2.2.2.2.2.2.2.1).1 hS G.2.2.2.1 (G.2.2.2.2.1 _ q4_206) (fun _ h9 => h9) dJ0_coder_7d493_0 ?_
  refine lv_if_eq (tgt := 13) hx hb dJ0_coder_7d493_3 (by decide) (fun c9 => absurd c9 (by decide)) (fun c9 => ?_)
  refine lv_aload_n hx hb dJ0_coder_7d493_6 rfl (lv_at hl 0 rfl) ?_
  refine c_get (F := [(y, .inr (0, [.ref q, .int 0, .int 0, .int 0])), (q, .inl (cA 5, 55, .inl f))]) (B := []) (C := RJ0) (T := TJ0) (M := 4) (ci := 0) G hP 0 1 i_J0 rfl rfl (by decide) q7_74 rfl dJ0_coder_7d493_7 ?_
  refine lv_goto (tgt := 14) hx hb dJ0_coder_7d493_10 (by decide) ?_
  exact c_reti (()) (rfl) (rfl) G hP hD hS (by decide) dJ0_coder_7d493_14
set_option maxHeartbeats 4000000 in
set_option maxRecDepth 100000 in
theorem mT_isLatin1 (l : Launch) (D : va_G) (cA : Nat → ClassId) (ad adF adW tt : Nat → Nat) (ST : gST) (hT : STE ad adF adW tt ST) (hW : STW adW tt ST) (hSQ : STQ ST) (y q : Nat) (f : Nat → Int32) : gMetG l yJ0_isLatin1_aae02 cJ0_isLatin1_aae02 1 (some .boolean) 0 0 0 D (TYS cA) ST (txC cA y q f) [.ref y] (gGi D (TYS cA) (fun r (_ : Unit) => r = 1) (fun _ => txC cA y q f)) := by
  refine g_ofWG hT.1 (by decide +kernel) (Nat.le_of_ble_eq_true rfl) ?_
  intro p e s m args below meth c ls A G hP hD hl
  have G : GC p s m args meth c cJ0_isLatin1_aae02 1 RJ0 (some .boolean) A D (TYS cA) ST := G
  have hx := G.1
  have hb := G.2.1
  have hS : va_S A s.heap s.heap [] := va_S.rf
  have hP : va_P D vwCl ([(y, .inr (0, [.ref q, .int 0, .int 0, .int 0])), (q, .inl (cA 5, 55, .inl f))]) s.heap := hP
  have hD : va_D A ([(y, .inr (0, [.ref q, .int 0, .int 0, .int 0])), (q, .inl (cA 5, 55, .inl f))]) := hD
  have hl : lv_has ls 1 [(0, .ref y)] := hl
  refine va_gets hx hb (hW _ _ G.2.2.2.2.2.2.2.2.2.2.1).1 hS G.2.2.2.1 (G.2.2.2.2.1 _ q4_206) (fun _ h9 => h9) dJ0_isLatin1_aae02_0 ?_
  refine lv_if_eq (tgt := 17) hx hb dJ0_isLatin1_aae02_3 (by decide) (fun c9 => absurd c9 (by decide)) (fun c9 => ?_)
  refine lv_aload_n hx hb dJ0_isLatin1_aae02_6 rfl (lv_at hl 0 rfl) ?_
  refine c_get (F := [(y, .inr (0, [.ref q, .int 0, .int 0, .int 0])), (q, .inl (cA 5, 55, .inl f))]) (B := []) (C := RJ0) (T := TJ0) (M := 4) (ci := 0) G hP 0 1 i_J0 rfl rfl (by decide) q7_74 rfl dJ0_isLatin1_aae02_7 ?_
  refine lv_if_ne (tgt := 17) hx hb dJ0_isLatin1_aae02_10 (by decide) (fun c9 => absurd (rfl) c9) (fun c9 => ?_)
  refine lv_iconst (v := 1) hx hb dJ0_isLatin1_aae02_13 (by decide) ?_
  refine lv_goto (tgt := 18) hx hb dJ0_isLatin1_aae02_14 (by decide) ?_
  exact c_reti (()) (rfl) (rfl) G hP hD hS (by decide) dJ0_isLatin1_aae02_18
set_option maxHeartbeats 4000000 in
set_option maxRecDepth 100000 in
theorem mT_length (l : Launch) (D : va_G) (cA : Nat → ClassId) (ad adF adW tt : Nat → Nat) (ST : gST) (hT : STE ad adF adW tt ST) (hW : STW adW tt ST) (hSQ : STQ ST) (y q : Nat) (f : Nat → Int32) : gMetG l yJ0_length_8abf5 cJ0_length_8abf5 1 (some .int) 1 0 0 D (TYS cA) ST (txC cA y q f) [.ref y] (gGi D (TYS cA) (fun r (_ : Unit) => r = nI 55) (fun _ => txC cA y q f)) := by
  refine g_ofWG hT.1 (by decide +kernel) (Nat.le_of_ble_eq_true rfl) ?_
  intro p e s m args below meth c ls A G hP hD hl
  have G : GC p s m args meth c cJ0_length_8abf5 1 RJ0 (some .int) A D (TYS cA) ST := G
  have hx := G.1
  have hb := G.2.1
  have hS : va_S A s.heap s.heap [] := va_S.rf
  have hP : va_P D vwCl ([(y, .inr (0, [.ref q, .int 0, .int 0, .int 0])), (q, .inl (cA 5, 55, .inl f))]) s.heap := hP
  have hD : va_D A ([(y, .inr (0, [.ref q, .int 0, .int 0, .int 0])), (q, .inl (cA 5, 55, .inl f))]) := hD
  have hl : lv_has ls 1 [(0, .ref y)] := hl
  refine lv_aload_n hx hb dJ0_length_8abf5_0 rfl (lv_at hl 0 rfl) ?_
  refine c_get (F := [(y, .inr (0, [.ref q, .int 0, .int 0, .int 0])), (q, .inl (cA 5, 55, .inl f))]) (B := []) (C := RJ0) (T := TJ0) (M := 4) (ci := 0) G hP 0 0 i_J0 rfl rfl (by decide) q7_73 rfl dJ0_length_8abf5_1 ?_
  refine va_alen (v := (nI 55)) hx hb G.2.2.2.2.2.2.2.2.1 hP 1 5 rfl rfl rfl dJ0_length_8abf5_4 ?_
  refine lv_aload_n hx hb dJ0_length_8abf5_5 rfl (lv_at hl 0 rfl) ?_
  refine c_callVi (nA := 0) (C := RJ0) (T := TJ0) (M := 4) (ci := 0) ([] : va_W) (txC cA y q f) 0 rfl rfl (mT_coder l D cA ad adF adW tt ST hT hW hSQ y q f) G hP hD hS (List.Perm.of_eq rfl) (g_good q4_202 q4_203 q4_204 q1_14 q4_205) (by decide +kernel) ⟨Nat.le_of_ble_eq_true rfl, Nat.le_of_ble_eq_true rfl, Nat.le_of_ble_eq_true rfl, Nat.le_of_ble_eq_true rfl⟩ rfl hl.1 [.int (nI 55)] rfl (Nat.le_of_ble_eq_true rfl) dJ0_length_8abf5_6 (fun r b9 H locs hok hP hD hS => ?_)
  have hP : va_P D vwCl ([(y, .inr (0, [.ref q, .int 0, .int 0, .int 0])), (q, .inl (cA 5, 55, .inl f))]) H := hP
  have hD : va_D A ([(y, .inr (0, [.ref q, .int 0, .int 0, .int 0])), (q, .inl (cA 5, 55, .inl f))]) := hD
  have hok : r = 0 := hok
  subst hok
  refine lv_ishr hx hb dJ0_length_8abf5_9 ?_
  rw [show (nI 55) >>> (0 &&& 31) = (nI 55) from sb_shr0 _]
  exact c_reti (()) (rfl) (rfl) G hP hD hS (by decide) dJ0_length_8abf5_10
set_option maxHeartbeats 4000000 in
set_option maxRecDepth 100000 in
theorem mS_CI_n (l : Launch) (D : va_G) (cA : Nat → ClassId) (ad adF adW tt : Nat → Nat) (ST : gST) (hT : STE ad adF adW tt ST) (hW : STW adW tt ST) (hSQ : STQ ST) (x y : Nat) (hxy : x < y) (hy : y < 2 ^ 31) : gMetG l yJ3_checkIndex_8e157 cJ3_checkIndex_8e157 3 (some .int) 0 0 0 D (TYS cA) ST ([]) [.int (nI x), .int (nI y), .null] (gGi D (TYS cA) (fun _ (_ : Unit) => True) (fun _ => [])) := by
  refine g_ofWG hT.1 (by decide +kernel) (Nat.le_of_ble_eq_true rfl) ?_
  intro p e s m args below meth c ls A G hP hD hl
  have G : GC p s m args meth c cJ3_checkIndex_8e157 3 RJ3 (some .int) A D (TYS cA) ST := G
  have hx := G.1
  have hb := G.2.1
  have hS : va_S A s.heap s.heap [] := va_S.rf
  have hP : va_P D vwCl ([]) s.heap := hP
  have hD : va_D A ([]) := hD
  have hl : lv_has ls 3 [(0, .int (nI x)), (1, .int (nI y)), (2, .null)] := hl
  refine lv_iload_n hx hb dJ3_checkIndex_8e157_0 rfl (lv_at hl 0 rfl) ?_
  refine lv_if_lt (tgt := 9) hx hb dJ3_checkIndex_8e157_1 (by decide) (fun c9 => absurd c9 (nI_pos (by omega))) (fun c9 => ?_)
  refine lv_iload_n hx hb dJ3_checkIndex_8e157_4 rfl (lv_at hl 0 rfl) ?_
  refine lv_iload_n hx hb dJ3_checkIndex_8e157_5 rfl (lv_at hl 1 rfl) ?_
  refine lv_icmp_lt (tgt := 16) hx hb dJ3_checkIndex_8e157_6 (by decide) (fun c9 => ?_) (fun c9 => absurd (nI_lt hxy hy) c9)
  refine lv_iload_n hx hb dJ3_checkIndex_8e157_16 rfl (lv_at hl 0 rfl) ?_
  exact c_reti (()) (trivial) (rfl) G hP hD hS (by decide) dJ3_checkIndex_8e157_17
set_option maxHeartbeats 4000000 in
set_option maxRecDepth 100000 in
theorem mS_CI_r (l : Launch) (D : va_G) (cA : Nat → ClassId) (ad adF adW tt : Nat → Nat) (ST : gST) (hT : STE ad adF adW tt ST) (hW : STW adW tt ST) (hSQ : STQ ST) (x y : Nat) (hxy : x < y) (hy : y < 2 ^ 31) (tq : Nat) : gMetG l yJ3_checkIndex_8e157 cJ3_checkIndex_8e157 3 (some .int) 0 0 0 D (TYS cA) ST ([]) [.int (nI x), .int (nI y), .ref tq] (gGi D (TYS cA) (fun _ (_ : Unit) => True) (fun _ => [])) := by
  refine g_ofWG hT.1 (by decide +kernel) (Nat.le_of_ble_eq_true rfl) ?_
  intro p e s m args below meth c ls A G hP hD hl
  have G : GC p s m args meth c cJ3_checkIndex_8e157 3 RJ3 (some .int) A D (TYS cA) ST := G
  have hx := G.1
  have hb := G.2.1
  have hS : va_S A s.heap s.heap [] := va_S.rf
  have hP : va_P D vwCl ([]) s.heap := hP
  have hD : va_D A ([]) := hD
  have hl : lv_has ls 3 [(0, .int (nI x)), (1, .int (nI y)), (2, .ref tq)] := hl
  refine lv_iload_n hx hb dJ3_checkIndex_8e157_0 rfl (lv_at hl 0 rfl) ?_
  refine lv_if_lt (tgt := 9) hx hb dJ3_checkIndex_8e157_1 (by decide) (fun c9 => absurd c9 (nI_pos (by omega))) (fun c9 => ?_)
  refine lv_iload_n hx hb dJ3_checkIndex_8e157_4 rfl (lv_at hl 0 rfl) ?_
  refine lv_iload_n hx hb dJ3_checkIndex_8e157_5 rfl (lv_at hl 1 rfl) ?_
  refine lv_icmp_lt (tgt := 16) hx hb dJ3_checkIndex_8e157_6 (by decide) (fun c9 => ?_) (fun c9 => absurd (nI_lt hxy hy) c9)
  refine lv_iload_n hx hb dJ3_checkIndex_8e157_16 rfl (lv_at hl 0 rfl) ?_
  exact c_reti (()) (trivial) (rfl) G hP hD hS (by decide) dJ3_checkIndex_8e157_17
set_option maxHeartbeats 4000000 in
set_option maxRecDepth 100000 in
theorem mS_CI (l : Launch) (D : va_G) (cA : Nat → ClassId) (ad adF adW tt : Nat → Nat) (ST : gST) (hT : STE ad adF adW tt ST) (hW : STW adW tt ST) (hSQ : STQ ST) (x y : Nat) (hxy : x < y) (hy : y < 2 ^ 31) : gMetG l yJ0_checkIndex_df160 cJ0_checkIndex_df160 2 none 1 0 0 D (TYS cA) ST ([]) [.int (nI x), .int (nI y)] (gGv D (TYS cA) (fun _ : Unit => True) (fun _ => [])) := by
  refine g_ofWG hT.1 (by decide +kernel) (Nat.le_of_ble_eq_true rfl) ?_
  intro p e s m args below meth c ls A G hP hD hl
  have G : GC p s m args meth c cJ0_checkIndex_df160 2 RJ0 none A D (TYS cA) ST := G
  have hx := G.1
  have hb := G.2.1
  have hS : va_S A s.heap s.heap [] := va_S.rf
  have hP : va_P D vwCl ([]) s.heap := hP
  have hD : va_D A ([]) := hD
  have hl : lv_has ls 2 [(0, .int (nI x)), (1, .int (nI y))] := hl
  refine lv_iload_n hx hb dJ0_checkIndex_df160_0 rfl (lv_at hl 0 rfl) ?_
  refine lv_iload_n hx hb dJ0_checkIndex_df160_1 rfl (lv_at hl 1 rfl) ?_
  rcases (hW _ _ G.2.2.2.2.2.2.2.2.2.2.1).2.2 with hz | ⟨tq, hz⟩
  · skip
    refine va_gets hx hb hz hS G.2.2.2.1 (G.2.2.2.2.1 _ q4_221) (fun _ h9 => h9) dJ0_checkIndex_df160_2 ?_
    refine c_callSi (nA := 3) ([]) ([]) (mS_CI_n l D cA ad adF adW tt ST hT hW hSQ x y hxy hy) G hP hD hS (List.Perm.of_eq rfl) (g_goodSX q4_223 q4_224 q1_36 q4_225) (by decide +kernel) ⟨Nat.le_of_ble_eq_true rfl, Nat.le_of_ble_eq_true rfl, Nat.le_of_ble_eq_true rfl, Nat.le_of_ble_eq_true rfl⟩ rfl hl.1 [] rfl (Nat.le_of_ble_eq_true rfl) dJ0_checkIndex_df160_5 (fun r b9 H locs hok hP hD hS => ?_)
    have hP : va_P D vwCl ([]) H := hP
    have hD : va_D A ([]) := hD
    refine lv_pop hx hb dJ0_checkIndex_df160_8 rfl ?_
    exact c_retv () trivial G hP hD hS (by decide) dJ0_checkIndex_df160_9
  · skip
    refine va_gets hx hb hz hS G.2.2.2.1 (G.2.2.2.2.1 _ q4_221) (fun _ h9 => h9) dJ0_checkIndex_df160_2 ?_
    refine c_callSi (nA := 3) ([]) ([]) (mS_CI_r l D cA ad adF adW tt ST hT hW hSQ x y hxy hy tq) G hP hD hS (List.Perm.of_eq rfl) (g_goodSX q4_223 q4_224 q1_36 q4_225) (by decide +kernel) ⟨Nat.le_of_ble_eq_true rfl, Nat.le_of_ble_eq_true rfl, Nat.le_of_ble_eq_true rfl, Nat.le_of_ble_eq_true rfl⟩ rfl hl.1 [] rfl (Nat.le_of_ble_eq_true rfl) dJ0_checkIndex_df160_5 (fun r b9 H locs hok hP hD hS => ?_)
    have hP : va_P D vwCl ([]) H := hP
    have hD : va_D A ([]) := hD
    refine lv_pop hx hb dJ0_checkIndex_df160_8 rfl ?_
    exact c_retv () trivial G hP hD hS (by decide) dJ0_checkIndex_df160_9
set_option maxHeartbeats 4000000 in
set_option maxRecDepth 100000 in
theorem mT_ch1 (l : Launch) (D : va_G) (cA : Nat → ClassId) (ad adF adW tt : Nat → Nat) (ST : gST) (hT : STE ad adF adW tt ST) (hW : STW adW tt ST) (hSQ : STQ ST) (q : Nat) (f : Nat → Int32) (i : Nat) (t : Nat → Nat) (ht : sb_Lat t 55 f) (hi : i < 55) : gMetG l yJ1_charAt_3b067 cJ1_charAt_3b067 2 (some .char) 2 0 0 D (TYS cA) ST ([(q, .inl (cA 5, 55, .inl f))]) [.ref q, .int (nI i)] (gGi D (TYS cA) (fun r (_ : Unit) => r = nI (t i)) (fun _ => [(q, .inl (cA 5, 55, .inl f))])) := by
  refine g_ofWG hT.1 (by decide +kernel) (Nat.le_of_ble_eq_true rfl) ?_
  intro p e s m args below meth c ls A G hP hD hl
  have G : GC p s m args meth c cJ1_charAt_3b067 2 RJ1 (some .char) A D (TYS cA) ST := G
  have hx := G.1
  have hb := G.2.1
  have hS : va_S A s.heap s.heap [] := va_S.rf
  have hP : va_P D vwCl ([(q, .inl (cA 5, 55, .inl f))]) s.heap := hP
  have hD : va_D A ([(q, .inl (cA 5, 55, .inl f))]) := hD
  have hl : lv_has ls 2 [(0, .ref q), (1, .int (nI i))] := hl
  refine lv_iload_n hx hb dJ1_charAt_3b067_0 rfl (lv_at hl 1 rfl) ?_
  refine lv_aload_n hx hb dJ1_charAt_3b067_1 rfl (lv_at hl 0 rfl) ?_
  refine va_alen (v := (nI 55)) hx hb G.2.2.2.2.2.2.2.2.1 hP 0 5 rfl rfl rfl dJ1_charAt_3b067_2 ?_
  refine c_callSv (nA := 2) ([(q, .inl (cA 5, 55, .inl f))]) ([]) (mS_CI l D cA ad adF adW tt ST hT hW hSQ i 55 hi (by decide)) G hP hD hS (List.Perm.of_eq (List.append_nil _).symm) (g_goodSX q4_218 q4_219 q1_14 q4_220) (by decide +kernel) ⟨Nat.le_of_ble_eq_true rfl, Nat.le_of_ble_eq_true rfl, Nat.le_of_ble_eq_true rfl, Nat.le_of_ble_eq_true rfl⟩ rfl hl.1 [] rfl (Nat.le_of_ble_eq_true rfl) dJ1_charAt_3b067_3 (fun b9 H locs hok hP hD hS => ?_)
  have hP : va_P D vwCl ([(q, .inl (cA 5, 55, .inl f))]) H := hP
  have hD : va_D A ([(q, .inl (cA 5, 55, .inl f))]) := hD
  refine lv_aload_n hx hb dJ1_charAt_3b067_6 rfl (lv_at hl 0 rfl) ?_
  refine lv_iload_n hx hb dJ1_charAt_3b067_7 rfl (lv_at hl 1 rfl) ?_
  refine va_bald hx hb G.2.2.2.2.2.2.2.2.1 hP 0 5 rfl rfl (vp_in_nI (by omega) (by decide)) dJ1_charAt_3b067_8 ?_
  rw [show f (nI i).toNatClampNeg = (sb_b (t i)) from by rw [nI_clamp (by omega)]; exact (ht i hi).2]
  refine lv_sipush (v := 255) hx hb dJ1_charAt_3b067_9 (by decide) ?_
  refine lv_iand hx hb dJ1_charAt_3b067_12 ?_
  rw [show (sb_b (t i)) &&& 255 = (nI (t i)) from (sb_byte _ (ht i hi).1).1]
  refine lv_i2c (v := (nI (t i))) hx hb dJ1_charAt_3b067_13 ((sb_byte _ (ht i hi).1).2.1) ?_
  exact c_reti (()) (rfl) ((pk_charN (by have := (ht i hi).1; omega)).1) G hP hD hS (by decide) dJ1_charAt_3b067_14
set_option maxHeartbeats 4000000 in
set_option maxRecDepth 100000 in
theorem mT_charAt (l : Launch) (D : va_G) (cA : Nat → ClassId) (ad adF adW tt : Nat → Nat) (ST : gST) (hT : STE ad adF adW tt ST) (hW : STW adW tt ST) (hSQ : STQ ST) (y q : Nat) (f : Nat → Int32) (i : Nat) (t : Nat → Nat) (ht : sb_Lat t 55 f) (hi : i < 55) : gMetG l yJ0_charAt_5068e cJ0_charAt_5068e 2 (some .char) 3 0 0 D (TYS cA) ST (txC cA y q f) [.ref y, .int (nI i)] (gGi D (TYS cA) (fun r (_ : Unit) => r = nI (t i)) (fun _ => txC cA y q f)) := by
  refine g_ofWG hT.1 (by decide +kernel) (Nat.le_of_ble_eq_true rfl) ?_
  intro p e s m args below meth c ls A G hP hD hl
  have G : GC p s m args meth c cJ0_charAt_5068e 2 RJ0 (some .char) A D (TYS cA) ST := G
  have hx := G.1
  have hb := G.2.1
  have hS : va_S A s.heap s.heap [] := va_S.rf
  have hP : va_P D vwCl ([(y, .inr (0, [.ref q, .int 0, .int 0, .int 0])), (q, .inl (cA 5, 55, .inl f))]) s.heap := hP
  have hD : va_D A ([(y, .inr (0, [.ref q, .int 0, .int 0, .int 0])), (q, .inl (cA 5, 55, .inl f))]) := hD
  have hl : lv_has ls 2 [(0, .ref y), (1, .int (nI i))] := hl
  refine lv_aload_n hx hb dJ0_charAt_5068e_0 rfl (lv_at hl 0 rfl) ?_
  refine c_callVi (nA := 0) (C := RJ0) (T := TJ0) (M := 4) (ci := 0) ([] : va_W) (txC cA y q f) 0 rfl rfl (mT_isLatin1 l D cA ad adF adW tt ST hT hW hSQ y q f) G hP hD hS (List.Perm.of_eq rfl) (g_good q4_211 q4_212 q4_213 q1_14 q4_214) (by decide +kernel) ⟨Nat.le_of_ble_eq_true rfl, Nat.le_of_ble_eq_true rfl, Nat.le_of_ble_eq_true rfl, Nat.le_of_ble_eq_true rfl⟩ rfl hl.1 [] rfl (Nat.le_of_ble_eq_true rfl) dJ0_charAt_5068e_1 (fun r b9 H locs hok hP hD hS => ?_)
  have hP : va_P D vwCl ([(y, .inr (0, [.ref q, .int 0, .int 0, .int 0])), (q, .inl (cA 5, 55, .inl f))]) H := hP
  have hD : va_D A ([(y, .inr (0, [.ref q, .int 0, .int 0, .int 0])), (q, .inl (cA 5, 55, .inl f))]) := hD
  have hok : r = 1 := hok
  subst hok
  refine lv_if_eq (tgt := 16) hx hb dJ0_charAt_5068e_4 (by decide) (fun c9 => absurd c9 (by decide)) (fun c9 => ?_)
  refine lv_aload_n hx hb dJ0_charAt_5068e_7 rfl (lv_at hl 0 rfl) ?_
  refine c_get (F := [(y, .inr (0, [.ref q, .int 0, .int 0, .int 0])), (q, .inl (cA 5, 55, .inl f))]) (B := []) (C := RJ0) (T := TJ0) (M := 4) (ci := 0) G hP 0 0 i_J0 rfl rfl (by decide) q7_73 rfl dJ0_charAt_5068e_8 ?_
  refine lv_iload_n hx hb dJ0_charAt_5068e_11 rfl (lv_at hl 1 rfl) ?_
  refine c_callSi (nA := 2) ([(y, .inr (0, [.ref q, .int 0, .int 0, .int 0]))]) ([(q, .inl (cA 5, 55, .inl f))]) (mT_ch1 l D cA ad adF adW tt ST hT hW hSQ q f i t ht hi) G hP hD hS (List.Perm.of_eq rfl) (g_goodSX q4_215 q4_216 q1_35 q4_217) (by decide +kernel) ⟨Nat.le_of_ble_eq_true rfl, Nat.le_of_ble_eq_true rfl, Nat.le_of_ble_eq_true rfl, Nat.le_of_ble_eq_true rfl⟩ rfl hl.1 [] rfl (Nat.le_of_ble_eq_true rfl) dJ0_charAt_5068e_12 (fun r b9 H locs hok hP hD hS => ?_)
  have hP : va_P D vwCl ([(y, .inr (0, [.ref q, .int 0, .int 0, .int 0])), (q, .inl (cA 5, 55, .inl f))]) H := hP
  have hD : va_D A ([(y, .inr (0, [.ref q, .int 0, .int 0, .int 0])), (q, .inl (cA 5, 55, .inl f))]) := hD
  have hok : r = nI (t i) := hok
  subst hok
  exact c_reti (()) (rfl) ((pk_charN (by have := (ht i hi).1; omega)).1) G hP hD hS (by decide) dJ0_charAt_5068e_15
set_option maxHeartbeats 4000000 in
set_option maxRecDepth 100000 in
theorem mL_putT (l : Launch) (hlt : l.stackTraces = false) (D : va_G) (cA : Nat → ClassId) (ad adF adW tt a : Nat → Nat) (fr : va_W) (ST : gST) (hT : STE ad adF adW tt ST) (hSX : STX ST) (hW : STW adW tt ST) (hSQ : STQ ST) (y q : Nat) (f : Nat → Int32) (T : List Nat) (hT55 : T.length = 55) (hf : sb_Lat (fun j => T.getD j 0) 55 f) (hTok : ∀ j, j < 55 → 32 ≤ T.getD j 0 ∧ T.getD j 0 ≤ 126) {σ : St} {X : AM} {Hs : List AM} {Sv : Option AM} {B : List Nat} {er fl : Option Nat} {C : Nat} (h : KG σ X Hs Sv B er fl C) (h60 : B.length + T.length ≤ 60) : gMetG l yL_put cL_put 3 none 7 (2 * T.length) (12 * T.length) D (TYS cA) ST (wc cA ad a (txC cA y q f ++ fr) σ) [.ref (a 209), .ref y] (gGv D (TYS cA) (fun s1 => KG s1 X Hs Sv (B ++ T) er fl C) (wc cA ad a (txC cA y q f ++ fr))) := by
  refine g_ofWG hT.1 (by decide +kernel) (Nat.le_of_ble_eq_true rfl) ?_
  intro p e s m args below meth c ls A G hP hD hl
  have G : GC p s m args meth c cL_put 3 RL none A D (TYS cA) ST := G
  have hx := G.1
  have hb := G.2.1
  have hS : va_S A s.heap s.heap [] := va_S.rf
  have hl : lv_has ls 3 [(0, .ref (a 209)), (1, .ref y)] := hl
  have loop : ∀ (d i : Nat) (σ1 : St) (H : Heap) (locs : List Loc) (ls : Array Slot), i + d = T.length → KG σ1 X Hs Sv (B ++ T.take i) er fl C → va_P D vwCl (wc cA ad a (txC cA y q f ++ fr) σ1) H → va_D A (wc cA ad a (txC cA y q f ++ fr) σ1) → va_S A s.heap H locs → lv_has ls 3 [(2, .int (nI i)), (0, .ref (a 209)), (1, .ref y)] → W p l e (RMC 7 (2 * T.length) (12 * T.length)) s m args below meth c H locs (2 * i) (12 * i) (MQ below (gGv D (TYS cA) (fun s1 => KG s1 X Hs Sv (B ++ T) er fl C) (wc cA ad a (txC cA y q f ++ fr)) A) args s (2 * T.length) (12 * T.length) A) (F0 m 2 ls []) := by
    intro d
    induction d with
    | zero =>
      intro i σ1 H locs ls hi hK hP hD hS hl
      refine lv_iload_n hx hb dL_put_2 rfl (lv_at hl 0 rfl) ?_
      refine lv_aload_n hx hb dL_put_3 rfl (lv_at hl 2 rfl) ?_
      have hP := hP.perm gwd_pre.symm
      have hD := hD.perm gwd_pre.symm
      refine c_callVi (nA := 0) (C := RJ0) (T := TJ0) (M := 4) (ci := 0) (wc cA ad a fr σ1) (txC cA y q f) 0 rfl rfl (mT_length l D cA ad adF adW tt ST hT hW hSQ y q f) G hP hD hS List.perm_append_comm (g_good q5_121 q4_199 q4_200 q1_14 q4_201) (by decide +kernel) ⟨Nat.le_of_ble_eq_true rfl, Nat.le_of_ble_eq_true rfl, by show 2 * i ≤ 2 * _; omega, by show 12 * i ≤ 12 * _; omega⟩ rfl hl.1 [.int (nI i)] rfl (Nat.le_of_ble_eq_true rfl) dL_put_4 (fun r b9 H locs hok hP hD hS => ?_)
      have hok : r = nI 55 := hok
      subst hok
      have hP := (hP.perm List.perm_append_comm).perm gwd_pre
      have hD := (hD.perm List.perm_append_comm).perm gwd_pre
      refine lv_icmp_ge (tgt := 26) hx hb dL_put_7 (by decide) (fun _ => ?_) (fun c => absurd (nI_le (a := 55) (b := i) (by omega) (by omega)) c)
      rw [List.take_of_length_le (by omega)] at hK
      exact c_retv σ1 hK G hP hD hS ⟨by omega, by omega⟩ dL_put_26
    | succ d ih =>
      intro i σ1 H locs ls hi hK hP hD hS hl
      have hch := hTok i (by omega)
      refine lv_iload_n hx hb dL_put_2 rfl (lv_at hl 0 rfl) ?_
      refine lv_aload_n hx hb dL_put_3 rfl (lv_at hl 2 rfl) ?_
      have hP := hP.perm gwd_pre.symm
      have hD := hD.perm gwd_pre.symm
      refine c_callVi (nA := 0) (C := RJ0) (T := TJ0) (M := 4) (ci := 0) (wc cA ad a fr σ1) (txC cA y q f) 0 rfl rfl (mT_length l D cA ad adF adW tt ST hT hW hSQ y q f) G hP hD hS List.perm_append_comm (g_good q5_121 q4_199 q4_200 q1_14 q4_201) (by decide +kernel) ⟨Nat.le_of_ble_eq_true rfl, Nat.le_of_ble_eq_true rfl, by show 2 * i ≤ 2 * _; omega, by show 12 * i ≤ 12 * _; omega⟩ rfl hl.1 [.int (nI i)] rfl (Nat.le_of_ble_eq_true rfl) dL_put_4 (fun r b9 H locs hok hP hD hS => ?_)
      have hok : r = nI 55 := hok
      subst hok
      have hP := (hP.perm List.perm_append_comm).perm gwd_pre
      have hD := (hD.perm List.perm_append_comm).perm gwd_pre
      refine lv_icmp_ge (tgt := 26) hx hb dL_put_7 (by decide) (fun c => absurd c (nI_ge (a := i) (b := 55) (by omega) (by omega))) (fun _ => ?_)
      refine lv_aload_n hx hb dL_put_10 rfl (lv_at hl 1 rfl) ?_
      refine lv_aload_n hx hb dL_put_11 rfl (lv_at hl 2 rfl) ?_
      refine lv_iload_n hx hb dL_put_12 rfl (lv_at hl 0 rfl) ?_
      have hP := hP.perm gwd_pre.symm
      have hD := hD.perm gwd_pre.symm
      refine c_callVi (nA := 1) (C := RJ0) (T := TJ0) (M := 4) (ci := 0) (wc cA ad a fr σ1) (txC cA y q f) 0 rfl rfl (mT_charAt l D cA ad adF adW tt ST hT hW hSQ y q f i _ hf (by omega)) G hP hD hS List.perm_append_comm (g_good q5_122 q4_208 q4_209 q1_14 q4_210) (by decide +kernel) ⟨Nat.le_of_ble_eq_true rfl, Nat.le_of_ble_eq_true rfl, by show 2 * i ≤ 2 * _; omega, by show 12 * i ≤ 12 * _; omega⟩ rfl hl.1 [.ref (a 209)] rfl (Nat.le_of_ble_eq_true rfl) dL_put_13 (fun r b9 H locs hok hP hD hS => ?_)
      have hok : r = nI (T.getD i 0) := hok
      subst hok
      have hP := (hP.perm List.perm_append_comm).perm gwd_pre
      have hD := (hD.perm List.perm_append_comm).perm gwd_pre
      have htl : (T.take i).length = i := by rw [List.length_take]; omega
      obtain ⟨σ2, t1, t2⟩ := q_type hK hch.1 hch.2 (by rw [List.length_append, htl]; omega)
      refine gl_callVi (nA := 1) (mX11_type l hlt D cA ad adF adW tt a _ ST hT hSX _ σ1 0 _ σ2 t1) G hP hD hS (g_good q5_123 q5_124 q5_125 q1_1 q5_126) (by decide +kernel) ⟨Nat.le_of_ble_eq_true rfl, Nat.le_of_ble_eq_true rfl, by show 2 * i + 2 ≤ 2 * _; omega, by show 12 * i + 6 * 2 ≤ 12 * _; omega⟩ (by decide) sc_209 rfl rfl hl.1 [] rfl (Nat.le_of_ble_eq_true rfl) dL_put_16 (fun h0 => absurd rfl h0) (fun _ H locs hP hD hS => ?_)
      refine lv_pop hx hb dL_put_19 rfl ?_
      refine lv_iinc (v := nI (i + 1)) (lv' := [(2, .int (nI (i + 1))), (0, .ref (a 209)), (1, .ref y)]) hx hb dL_put_20 hl (k := 0) rfl (nI_1 i) (by decide) rfl (fun ls hl => ?_)
      refine lv_goto (tgt := 2) hx hb dL_put_23 (by decide) ?_
      have htk := tk_S B T (i := i) (by omega)
      rw [htk] at t2
      exact ih (i + 1) σ2 H locs ls (by omega) t2 hP hD hS hl
  refine lv_iconst (v := nI 0) hx hb dL_put_0 rfl ?_
  refine lv_istore_n (lv' := [(2, .int (nI 0)), (0, .ref (a 209)), (1, .ref y)]) hx hb dL_put_1 rfl hl (by decide) rfl (fun ls hl => ?_)
  exact loop T.length 0 σ s.heap [] ls (by omega) (by rw [List.take_zero, List.append_nil]; exact h) hP hD hS hl
