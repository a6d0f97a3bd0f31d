-- ===== p61: elements added, lists walked =====
theorem dJx4a65c_iterator_32c93_0 : decode cJx4a65c_iterator_32c93 0 = .ok (.new 267, 3) := by decide +kernel
theorem dJx4a65c_iterator_32c93_3 : decode cJx4a65c_iterator_32c93 3 = .ok (.dup, 1) := by decide +kernel
theorem dJx4a65c_iterator_32c93_4 : decode cJx4a65c_iterator_32c93 4 = .ok (.aload_n 0, 1) := by decide +kernel
theorem dJx4a65c_iterator_32c93_5 : decode cJx4a65c_iterator_32c93 5 = .ok (.invokespecial 269, 3) := by decide +kernel
theorem dJx4a65c_iterator_32c93_8 : decode cJx4a65c_iterator_32c93 8 = .ok (.areturn, 1) := by decide +kernel
theorem dJx35411_init_45d68_0 : decode cJx35411_init_45d68 0 = .ok (.aload_n 0, 1) := by decide +kernel
theorem dJx35411_init_45d68_1 : decode cJx35411_init_45d68 1 = .ok (.aload_n 1, 1) := by decide +kernel
theorem dJx35411_init_45d68_2 : decode cJx35411_init_45d68 2 = .ok (.putfield 1, 3) := by decide +kernel
theorem dJx35411_init_45d68_5 : decode cJx35411_init_45d68 5 = .ok (.aload_n 0, 1) := by decide +kernel
theorem dJx35411_init_45d68_6 : decode cJx35411_init_45d68 6 = .ok (.invokespecial 7, 3) := by decide +kernel
theorem dJx35411_init_45d68_9 : decode cJx35411_init_45d68 9 = .ok (.aload_n 0, 1) := by decide +kernel
theorem dJx35411_init_45d68_10 : decode cJx35411_init_45d68 10 = .ok (.iconst (-1), 1) := by decide +kernel
theorem dJx35411_init_45d68_11 : decode cJx35411_init_45d68 11 = .ok (.putfield 13, 3) := by decide +kernel
theorem dJx35411_init_45d68_14 : decode cJx35411_init_45d68 14 = .ok (.aload_n 0, 1) := by decide +kernel
theorem dJx35411_init_45d68_15 : decode cJx35411_init_45d68 15 = .ok (.aload_n 0, 1) := by decide +kernel
theorem dJx35411_init_45d68_16 : decode cJx35411_init_45d68 16 = .ok (.getfield 1, 3) := by decide +kernel
theorem dJx35411_init_45d68_19 : decode cJx35411_init_45d68 19 = .ok (.getfield 17, 3) := by decide +kernel
theorem dJx35411_init_45d68_22 : decode cJx35411_init_45d68 22 = .ok (.putfield 22, 3) := by decide +kernel
theorem dJx35411_init_45d68_25 : decode cJx35411_init_45d68 25 = .ok (.return_, 1) := by decide +kernel
theorem dJx35411_hasNext_aae02_0 : decode cJx35411_hasNext_aae02 0 = .ok (.aload_n 0, 1) := by decide +kernel
theorem dJx35411_hasNext_aae02_1 : decode cJx35411_hasNext_aae02 1 = .ok (.getfield 25, 3) := by decide +kernel
theorem dJx35411_hasNext_aae02_4 : decode cJx35411_hasNext_aae02 4 = .ok (.aload_n 0, 1) := by decide +kernel
theorem dJx35411_hasNext_aae02_5 : decode cJx35411_hasNext_aae02 5 = .ok (.getfield 1, 3) := by decide +kernel
theorem dJx35411_hasNext_aae02_8 : decode cJx35411_hasNext_aae02 8 = .ok (.getfield 28, 3) := by decide +kernel
theorem dJx35411_hasNext_aae02_11 : decode cJx35411_hasNext_aae02 11 = .ok (.if_icmp .eq 7, 3) := by decide +kernel
theorem dJx35411_hasNext_aae02_14 : decode cJx35411_hasNext_aae02 14 = .ok (.iconst 1, 1) := by decide +kernel
theorem dJx35411_hasNext_aae02_15 : decode cJx35411_hasNext_aae02 15 = .ok (.goto 4, 3) := by decide +kernel
theorem dJx35411_hasNext_aae02_18 : decode cJx35411_hasNext_aae02 18 = .ok (.iconst 0, 1) := by decide +kernel
theorem dJx35411_hasNext_aae02_19 : decode cJx35411_hasNext_aae02 19 = .ok (.ireturn, 1) := by decide +kernel
theorem dJx35411_next_0502b_0 : decode cJx35411_next_0502b 0 = .ok (.aload_n 0, 1) := by decide +kernel
theorem dJx35411_next_0502b_1 : decode cJx35411_next_0502b 1 = .ok (.invokevirtual 31, 3) := by decide +kernel
theorem dJx35411_next_0502b_4 : decode cJx35411_next_0502b 4 = .ok (.aload_n 0, 1) := by decide +kernel
theorem dJx35411_next_0502b_5 : decode cJx35411_next_0502b 5 = .ok (.getfield 25, 3) := by decide +kernel
theorem dJx35411_next_0502b_8 : decode cJx35411_next_0502b 8 = .ok (.istore_n 1, 1) := by decide +kernel
theorem dJx35411_next_0502b_9 : decode cJx35411_next_0502b 9 = .ok (.iload_n 1, 1) := by decide +kernel
theorem dJx35411_next_0502b_10 : decode cJx35411_next_0502b 10 = .ok (.aload_n 0, 1) := by decide +kernel
theorem dJx35411_next_0502b_11 : decode cJx35411_next_0502b 11 = .ok (.getfield 1, 3) := by decide +kernel
theorem dJx35411_next_0502b_14 : decode cJx35411_next_0502b 14 = .ok (.getfield 28, 3) := by decide +kernel
theorem dJx35411_next_0502b_17 : decode cJx35411_next_0502b 17 = .ok (.if_icmp .lt 11, 3) := by decide +kernel
theorem dJx35411_next_0502b_20 : decode cJx35411_next_0502b 20 = .ok (.new 34, 3) := by decide +kernel
theorem dJx35411_next_0502b_23 : decode cJx35411_next_0502b 23 = .ok (.dup, 1) := by decide +kernel
theorem dJx35411_next_0502b_24 : decode cJx35411_next_0502b 24 = .ok (.invokespecial 36, 3) := by decide +kernel
theorem dJx35411_next_0502b_27 : decode cJx35411_next_0502b 27 = .ok (.athrow, 1) := by decide +kernel
theorem dJx35411_next_0502b_28 : decode cJx35411_next_0502b 28 = .ok (.aload_n 0, 1) := by decide +kernel
theorem dJx35411_next_0502b_29 : decode cJx35411_next_0502b 29 = .ok (.getfield 1, 3) := by decide +kernel
theorem dJx35411_next_0502b_32 : decode cJx35411_next_0502b 32 = .ok (.getfield 37, 3) := by decide +kernel
theorem dJx35411_next_0502b_35 : decode cJx35411_next_0502b 35 = .ok (.astore_n 2, 1) := by decide +kernel
theorem dJx35411_next_0502b_36 : decode cJx35411_next_0502b 36 = .ok (.iload_n 1, 1) := by decide +kernel
theorem dJx35411_next_0502b_37 : decode cJx35411_next_0502b 37 = .ok (.aload_n 2, 1) := by decide +kernel
theorem dJx35411_next_0502b_38 : decode cJx35411_next_0502b 38 = .ok (.arraylength, 1) := by decide +kernel
theorem dJx35411_next_0502b_39 : decode cJx35411_next_0502b 39 = .ok (.if_icmp .lt 11, 3) := by decide +kernel
theorem dJx35411_next_0502b_42 : decode cJx35411_next_0502b 42 = .ok (.new 41, 3) := by decide +kernel
theorem dJx35411_next_0502b_45 : decode cJx35411_next_0502b 45 = .ok (.dup, 1) := by decide +kernel
theorem dJx35411_next_0502b_46 : decode cJx35411_next_0502b 46 = .ok (.invokespecial 43, 3) := by decide +kernel
theorem dJx35411_next_0502b_49 : decode cJx35411_next_0502b 49 = .ok (.athrow, 1) := by decide +kernel
theorem dJx35411_next_0502b_50 : decode cJx35411_next_0502b 50 = .ok (.aload_n 0, 1) := by decide +kernel
theorem dJx35411_next_0502b_51 : decode cJx35411_next_0502b 51 = .ok (.iload_n 1, 1) := by decide +kernel
theorem dJx35411_next_0502b_52 : decode cJx35411_next_0502b 52 = .ok (.iconst 1, 1) := by decide +kernel
theorem dJx35411_next_0502b_53 : decode cJx35411_next_0502b 53 = .ok (.iadd, 1) := by decide +kernel
theorem dJx35411_next_0502b_54 : decode cJx35411_next_0502b 54 = .ok (.putfield 25, 3) := by decide +kernel
theorem dJx35411_next_0502b_57 : decode cJx35411_next_0502b 57 = .ok (.aload_n 2, 1) := by decide +kernel
theorem dJx35411_next_0502b_58 : decode cJx35411_next_0502b 58 = .ok (.aload_n 0, 1) := by decide +kernel
theorem dJx35411_next_0502b_59 : decode cJx35411_next_0502b 59 = .ok (.iload_n 1, 1) := by decide +kernel
theorem dJx35411_next_0502b_60 : decode cJx35411_next_0502b 60 = .ok (.dup_x1, 1) := by decide +kernel
theorem dJx35411_next_0502b_61 : decode cJx35411_next_0502b 61 = .ok (.putfield 13, 3) := by decide +kernel
theorem dJx35411_next_0502b_64 : decode cJx35411_next_0502b 64 = .ok (.aaload, 1) := by decide +kernel
theorem dJx35411_next_0502b_65 : decode cJx35411_next_0502b 65 = .ok (.areturn, 1) := by decide +kernel
theorem dJx35411_checkForComodification_da8c8_0 : decode cJx35411_checkForComodification_da8c8 0 = .ok (.aload_n 0, 1) := by decide +kernel
theorem dJx35411_checkForComodification_da8c8_1 : decode cJx35411_checkForComodification_da8c8 1 = .ok (.getfield 1, 3) := by decide +kernel
theorem dJx35411_checkForComodification_da8c8_4 : decode cJx35411_checkForComodification_da8c8 4 = .ok (.getfield 17, 3) := by decide +kernel
theorem dJx35411_checkForComodification_da8c8_7 : decode cJx35411_checkForComodification_da8c8 7 = .ok (.aload_n 0, 1) := by decide +kernel
theorem dJx35411_checkForComodification_da8c8_8 : decode cJx35411_checkForComodification_da8c8 8 = .ok (.getfield 22, 3) := by decide +kernel
theorem dJx35411_checkForComodification_da8c8_11 : decode cJx35411_checkForComodification_da8c8 11 = .ok (.if_icmp .eq 11, 3) := by decide +kernel
theorem dJx35411_checkForComodification_da8c8_14 : decode cJx35411_checkForComodification_da8c8 14 = .ok (.new 41, 3) := by decide +kernel
theorem dJx35411_checkForComodification_da8c8_17 : decode cJx35411_checkForComodification_da8c8 17 = .ok (.dup, 1) := by decide +kernel
theorem dJx35411_checkForComodification_da8c8_18 : decode cJx35411_checkForComodification_da8c8 18 = .ok (.invokespecial 43, 3) := by decide +kernel
theorem dJx35411_checkForComodification_da8c8_21 : decode cJx35411_checkForComodification_da8c8 21 = .ok (.athrow, 1) := by decide +kernel
theorem dJx35411_checkForComodification_da8c8_22 : decode cJx35411_checkForComodification_da8c8 22 = .ok (.return_, 1) := by decide +kernel
theorem i_Jx35411 : ∀ w ∈ u_ws RJx35411 TJx35411 4, w ∈ BIG := show ∀ w ∈ ([u_lay RJx35411 TJx35411 0, u_lay RJx35411 TJx35411 1, u_lay RJx35411 TJx35411 2, u_lay RJx35411 TJx35411 3] : List Cond), w ∈ BIG from List.forall_mem_cons.mpr ⟨q6_79, List.forall_mem_cons.mpr ⟨q6_81, List.forall_mem_cons.mpr ⟨q6_83, List.forall_mem_cons.mpr ⟨q6_85, List.forall_mem_nil _⟩⟩⟩⟩
section S63
variable {p : Program} {l : Launch} {e : Env} {R : Room} {s : State} {m : MethodId} {args : Array Value} {below : List Frame} {meth : Method} {c : Code} {H : Heap} {locs : List Loc} {cells slots : Nat} {Q : State → Prop}
variable {cc : ByteArray} {maxL : Nat} {ret : Option FieldType} {pc : Nat} {ls : Array Slot} {rest : List Value} {D : va_G} {A : Nat → Prop} {cA : Nat → ClassId} {F B : va_W} {ST : gST} {own : String}
theorem c_getS {ref : String} {C : String} {T : u_T} {M ci index a : Nat} {fs : List Value} {v : Value} (G : GC p s m args meth c cc maxL own ret A D (TYS cA) ST) (hP : va_P D vwCl (F ++ B) H) (q0 j : Nat) (hin : ∀ w ∈ u_ws C T M, w ∈ BIG) (hc : vwCl[ci]? = some (C, T, M)) (he : F[q0]? = some (a, .inr (ci, fs))) (hj : j < M) (hlink : Cond.fieldLink own index ref (T j).2.1 (T j).2.2.1 ∈ BIG ∧ Cond.sameField ref (T j).1 (T j).2.1 (T j).2.2.1 ∈ BIG) (hv : fs[j]? = some v) (hdg : decode cc pc = .ok (.getfield index, 3))
    (kk : W p l e R s m args below meth c H locs cells slots Q (F0 m (pc + 3) ls (v :: rest))) : W p l e R s m args below meth c H locs cells slots Q (F0 m pc ls (.ref a :: rest)) :=
  va_get G.1 G.2.1 G.2.2.2.2.1 hin G.2.2.2.1 G.2.2.2.2.2.2.2.2.1 hP q0 (fb_get he) hc j hj (G.2.2.2.2.1 _ hlink.1) (u_same (G.2.2.2.2.1 _ hlink.2)) hv hdg kk
theorem c_getN {host : String} {C : String} {T : u_T} {M ci index a : Nat} {fs : List Value} {v : Value} (G : GC p s m args meth c cc maxL own ret A D (TYS cA) ST) (hP : va_P D vwCl (F ++ B) H) (q0 j : Nat) (hin : ∀ w ∈ u_ws C T M, w ∈ BIG) (hc : vwCl[ci]? = some (C, T, M)) (he : F[q0]? = some (a, .inr (ci, fs))) (hj : j < M) (hlink : va_Nw (Cond.fieldLinkNest own index (T j).1 (T j).2.1 (T j).2.2.1 host) s) (hv : fs[j]? = some v) (hdg : decode cc pc = .ok (.getfield index, 3))
    (kk : W p l e R s m args below meth c H locs cells slots Q (F0 m (pc + 3) ls (v :: rest))) : W p l e R s m args below meth c H locs cells slots Q (F0 m pc ls (.ref a :: rest)) :=
  va_getN G.1 G.2.1 G.2.2.2.2.1 hin G.2.2.2.1 G.2.2.2.2.2.2.2.2.1 hP q0 (fb_get he) hc j hj (va_Nw.use rfl hlink) (fun _ h => h) hv hdg kk
theorem c_putS {ref : String} {C : String} {T : u_T} {M ci index a : Nat} {fs : List Value} {v : Value} (G : GC p s m args meth c cc maxL own ret A D (TYS cA) ST) (hP : va_P D vwCl (F ++ B) H) (hD : va_D A (F ++ B)) (hS : va_S A s.heap H locs) (q0 j : Nat) (hin : ∀ w ∈ u_ws C T M, w ∈ BIG) (hc : vwCl[ci]? = some (C, T, M)) (ty0 : Nat → FieldType) (hty : ∀ k, k < M → parseFieldDescriptor (T k).2.2.1 = some (ty0 k)) (hnm : ∀ a, a < M → ∀ b, b < M → a ≠ b → (T a).2.1 ≠ (T b).2.1) (he : F[q0]? = some (a, .inr (ci, fs))) (hj : j < M) (hlink : Cond.fieldLink own index ref (T j).2.1 (T j).2.2.1 ∈ BIG ∧ Cond.sameField ref (T j).1 (T j).2.1 (T j).2.2.1 ∈ BIG) (hf : (T j).2.2.2 = false) (hn : narrow (ty0 j) v = v) (hfit : fits (ty0 j) v = true) (hl : j < fs.length) (hdg : decode cc pc = .ok (.putfield index, 3))
    (kk : ∀ (H1 : Heap) (locs1 : List Loc), va_P D vwCl (F.set q0 (a, .inr (ci, fs.set j v)) ++ B) H1 → va_D A (F.set q0 (a, .inr (ci, fs.set j v)) ++ B) → va_S A s.heap H1 locs1 → W p l e R s m args below meth c H1 locs1 cells slots Q (F0 m (pc + 3) ls rest)) : W p l e R s m args below meth c H locs cells slots Q (F0 m pc ls (v :: .ref a :: rest)) := by
  obtain ⟨hx, hb, hml, hown, hts, hr, hlocks, hA, hK, hN9, hX, hT⟩ := G
  refine va_put (ty := ty0 j) hx hb hts hin ty0 hty hnm hown hK hP hD hS q0 (fb_get he) hc j hj (hts _ hlink.1) (u_same (hts _ hlink.2)) hf (hty j hj) hn hfit hl hdg (fun H1 locs1 hP1 hD1 hS1 => ?_)
  rw [fb_set he] at hP1 hD1
  exact kk H1 locs1 hP1 hD1 hS1
theorem c_callIA {β : Type} {ok : β → Prop} {Wb : β → va_W} {y : MethodName} {bytes : ByteArray} {n nA d1 mc ms index q : Nat} {As st0 : List Value} (W0 wc : va_W) {w : va_W} (hM : gMetC l y bytes n d1 mc ms D (TYS cA) ST wc (.ref q :: As) ok Wb) (G : GC p s m args meth c cc maxL own ret A D (TYS cA) ST) (hP : va_P D vwCl w H) (hD : va_D A w) (hS : va_S A s.heap H locs) (hW : w.Perm (W0 ++ wc))
    (hl : Cond.methodLink own index y ∈ BIG) (hin : Cond.instanceMethod y ∈ BIG) (hini : Cond.initialized y.cls ∈ BIG) (hcd : Cond.code y bytes n none ∈ BIG) (hy1 : y.name = "<init>") (hd : y.cls ≠ "java/lang/invoke/MethodHandle" ∧ y.cls ≠ "java/lang/invoke/VarHandle" ∧ (parseMethodDescriptor y.desc).map (fun d => d.parameters.length) = some nA) (hR : d1 + 1 ≤ R.frames ∧ 19 + n + 40 * d1 ≤ R.locals ∧ cells + mc ≤ R.cells ∧ slots + ms ≤ R.slots) (hn : As.length = nA) (hls : ls.size = maxL) (rest : List Value) (hst : st0 = As.reverse ++ .ref q :: rest) (hcat : (rest.map fun v => v.category).sum ≤ 8) (hdg : decode cc pc = .ok (.invokespecial index, 3))
    (kk : ∀ (b : β) (H1 : Heap) (locs1 : List Loc), ok b → va_P D vwCl (W0 ++ Wb b) H1 → va_D A (W0 ++ Wb b) → va_S A s.heap H1 locs1 → W p l e R s m args below meth c H1 locs1 (cells + mc) (slots + ms) Q (F0 m (pc + 3) ls rest)) : W p l e R s m args below meth c H locs cells slots Q (F0 m pc ls st0) := by
  obtain ⟨hx, hb, hml, hown, hts, -, hlocks, hA, hK, hN, hX, hT⟩ := G
  have hP := hP.perm hW
  have hD := hD.perm hW
  have hF := fb_free hD hS hA
  have hPc : va_P D vwCl wc H := va_P_mem.mpr fun z hz => va_P_mem.mp hP z (List.mem_append_right _ hz)
  have hDc : va_D (fun _ => True) wc := va_D_nd.mpr ⟨by have h9 := (va_D_nd.mp hD).1; rw [List.map_append, List.nodup_append] at h9; exact h9.2.1, fun _ _ => trivial⟩
  have hG : GoodIn BIG (.code y bytes n none :: BIG) := fun w hw => big_good w (by rcases List.mem_cons.mp hw with rfl | h; exact hcd; exact h)
  refine va_callv (va_runI (As := As) (rest := rest) ⟨hx, hb, hml, hown, hts⟩ (hM H.size) (cwI nA hts hG rfl rfl rfl (hts _ hini) (hts _ hl) (hts _ hin) hy1 hd ⟨by show d1 + 1 ≤ R.frames; exact hR.1, by show 8 + (n + 11) + 40 * d1 ≤ R.locals; omega⟩) ⟨gPre_blind hT, fun U hU hW => ⟨rfl, by rw [hU], by rw [hU]; exact hPc, va_K.moved hW.alike hK, hDc, hN.warm hW, hT.2 _ _ _ _ _ _ hX hS hU hW hF⟩⟩ rfl hn hls hst (lv_room hcat) hdg ⟨hR.2.2.1, hR.2.2.2⟩) hS (fun q _ h => hF q h) hF (fun b t H1 locs1 ht hvm hw hB hz1 hk1 hS1 => ?_)
  obtain ⟨hP1, hK1, hD1⟩ := hB
  rw [ht] at hP1
  obtain ⟨hP2, hD2⟩ := fb_join hP hD hk1 hF hP1 hD1
  exact kk b H1 locs1 hw hP2 hD2 hS1
end S63
set_option maxHeartbeats 4000000 in
set_option maxRecDepth 100000 in
theorem mA30 (l : Launch) (D : va_G) (cA : Nat → ClassId) (ST : gST) (hT : STok ST) (e0 mi : Nat) (hL : STL e0 mi ST) (z : Nat) (mm : Int32) (v : Nat) (R : List (Nat × (Nat → Int32))) (k : Nat) (f9 : Nat → Int32) (hk : R[k]? = some (v, f9)) : gMetG l yJx4a65c_add_72be8 cJx4a65c_add_72be8 4 none 4 1 10 D (TYS cA) ST ([(z, .inr (4, [.int mm, .ref e0, .int (nI 0)]))] ++ rwW cA R) [.ref z, .ref v, .ref e0, .int (nI 0)] (gGv D (TYS cA) (fun _ : Nat => True) (fun q9 => [(z, .inr (4, [.int mm, .ref q9, .int (nI 1)])), (q9, .inl (cA 6, 10, .inr (.inr (.inr (.inr (va_up (fun _ => none) 0 (some v)))))))] ++ rwW cA R)) := by
  refine g_ofWG hT (by decide +kernel) (Nat.le_of_ble_eq_true rfl) ?_
  intro p e s m args below meth c ls A G hP hD hl
  have G : GC p s m args meth c cJx4a65c_add_72be8 4 RJx4a65c none A D (TYS cA) ST := G
  have hx := G.1
  have hb := G.2.1
  have hS : va_S A s.heap s.heap [] := va_S.rf
  have hP : va_P D vwCl ([(z, .inr (4, [.int mm, .ref e0, .int (nI 0)]))] ++ rwW cA R) s.heap := hP
  have hD : va_D A ([(z, .inr (4, [.int mm, .ref e0, .int (nI 0)]))] ++ rwW cA R) := hD
  have hl : lv_has ls 4 [(0, .ref z), (1, .ref v), (2, .ref e0), (3, .int (nI 0))] := hl
  refine lv_iload_n hx hb dJx4a65c_add_72be8_0 rfl (lv_at hl 3 rfl) ?_
  refine lv_aload_n hx hb dJx4a65c_add_72be8_1 rfl (lv_at hl 2 rfl) ?_
  refine va_tlen (v := 0) hx hb (hL _ _ G.2.2.2.2.2.2.2.2.2.2.1).2.1 hS rfl dJx4a65c_add_72be8_2 ?_
  refine lv_icmp_ne (tgt := 11) hx hb dJx4a65c_add_72be8_3 (by decide) (fun c9 => absurd (rfl) c9) (fun _ => ?_)
  refine lv_aload_n hx hb dJx4a65c_add_72be8_6 rfl (lv_at hl 0 rfl) ?_
  refine c_callVr (nA := 0) (C := RJx4a65c) (T := TJx4a65c) (M := 3) (ci := 4) ([] : va_W) ([(z, .inr (4, [.int mm, .ref e0, .int (nI 0)]))] ++ rwW cA R) 0 rfl rfl (mGG0 l D cA ST hT e0 mi hL z mm R) G hP hD hS (List.Perm.refl _) (g_good q6_7 q6_9 qs_23 q1_31 q6_10) (by decide +kernel) ⟨Nat.le_of_ble_eq_true rfl, Nat.le_of_ble_eq_true rfl, Nat.le_of_ble_eq_true rfl, Nat.le_of_ble_eq_true rfl⟩ rfl hl.1 [] rfl (Nat.le_of_ble_eq_true rfl) dJx4a65c_add_72be8_7 (fun q9 H locs hok hP hD hS => ?_)
  have hP : va_P D vwCl ([(z, .inr (4, [.int mm, .ref q9, .int (nI 0)])), (q9, .inl (cA 6, 10, .inr (.inr (.inr (.inr (fun _ => none))))))] ++ rwW cA R) H := hP
  have hD : va_D A ([(z, .inr (4, [.int mm, .ref q9, .int (nI 0)])), (q9, .inl (cA 6, 10, .inr (.inr (.inr (.inr (fun _ => none))))))] ++ rwW cA R) := hD
  refine lv_astore_n (lv' := [(2, .ref q9), (0, .ref z), (1, .ref v), (3, .int (nI 0))]) hx hb dJx4a65c_add_72be8_10 rfl hl (by decide) rfl (fun ls hl => ?_)
  refine lv_aload_n hx hb dJx4a65c_add_72be8_11 rfl (lv_at hl 0 rfl) ?_
  refine lv_iload_n hx hb dJx4a65c_add_72be8_12 rfl (lv_at hl 3 rfl) ?_
  refine lv_aload_n hx hb dJx4a65c_add_72be8_13 rfl (lv_at hl 2 rfl) ?_
  refine va_astqM hx hb G.2.2.2.2.2.2.2.2.1 hP hD hS 1 6 rfl rfl (rw_any (k := 2 + k) G.2.2.2.2.2.2.2.2.1 hP (hL _ _ G.2.2.2.2.2.2.2.2.2.2.1).2.2.2.1 (get2.trans (rwW_get hk))) (vp_in_nI (by omega) (by omega)) dJx4a65c_add_72be8_14 (fun H locs hP hD hS => ?_)
  rw [show (nI (0)).toNatClampNeg = 0 from nI_clamp (by omega)] at hP hD
  have hP : va_P D vwCl ([(z, .inr (4, [.int mm, .ref q9, .int (nI 0)])), (q9, .inl (cA 6, 10, .inr (.inr (.inr (.inr (va_up (fun _ => none) 0 (some v)))))))] ++ rwW cA R) H := hP
  have hD : va_D A ([(z, .inr (4, [.int mm, .ref q9, .int (nI 0)])), (q9, .inl (cA 6, 10, .inr (.inr (.inr (.inr (va_up (fun _ => none) 0 (some v)))))))] ++ rwW cA R) := hD
  refine lv_aload_n hx hb dJx4a65c_add_72be8_15 rfl (lv_at hl 1 rfl) ?_
  refine lv_iload_n hx hb dJx4a65c_add_72be8_16 rfl (lv_at hl 3 rfl) ?_
  refine lv_iconst (v := 1) hx hb dJx4a65c_add_72be8_17 (by decide) ?_
  refine lv_iadd hx hb dJx4a65c_add_72be8_18 ?_
  rw [show nI 0 + 1 = (nI 1) from by decide]
  refine c_putJ (F := [(z, .inr (4, [.int mm, .ref q9, .int (nI 0)])), (q9, .inl (cA 6, 10, .inr (.inr (.inr (.inr (va_up (fun _ => none) 0 (some v)))))))]) (B := rwW cA R) (C := RJx4a65c) (T := TJx4a65c) (M := 3) (ci := 4) (v := .int (nI 1)) G hP hD hS 0 2 i_Jx4a65c rfl tyJx4a65c tyJx4a65c_ok nmJx4a65c rfl (by decide) q5_216 rfl rfl rfl (Nat.le_of_ble_eq_true rfl) dJx4a65c_add_72be8_19 (fun H locs hP hD hS => ?_)
  have hP : va_P D vwCl ([(z, .inr (4, [.int mm, .ref q9, .int (nI 1)])), (q9, .inl (cA 6, 10, .inr (.inr (.inr (.inr (va_up (fun _ => none) 0 (some v)))))))] ++ rwW cA R) H := hP
  have hD : va_D A ([(z, .inr (4, [.int mm, .ref q9, .int (nI 1)])), (q9, .inl (cA 6, 10, .inr (.inr (.inr (.inr (va_up (fun _ => none) 0 (some v)))))))] ++ rwW cA R) := hD
  exact c_retv q9 trivial G hP hD hS (by decide) dJx4a65c_add_72be8_22
set_option maxHeartbeats 4000000 in
set_option maxRecDepth 100000 in
theorem mA31 (l : Launch) (D : va_G) (cA : Nat → ClassId) (ST : gST) (hT : STok ST) (e0 mi : Nat) (hL : STL e0 mi ST) (z q n0 cc0 : Nat) (g0 : Nat → Option Nat) (mm : Int32) (hc1 : cc0 < n0) (hn1 : n0 ≤ 15) (v : Nat) (R : List (Nat × (Nat → Int32))) (k : Nat) (f9 : Nat → Int32) (hk : R[k]? = some (v, f9)) : gMetG l yJx4a65c_add_72be8 cJx4a65c_add_72be8 4 none 4 0 0 D (TYS cA) ST ([(z, .inr (4, [.int mm, .ref q, .int (nI cc0)])), (q, .inl (cA 6, n0, .inr (.inr (.inr (.inr g0)))))] ++ rwW cA R) [.ref z, .ref v, .ref q, .int (nI cc0)] (gGv D (TYS cA) (fun _ : Unit => True) (fun _ => [(z, .inr (4, [.int mm, .ref q, .int (nI (cc0 + 1))])), (q, .inl (cA 6, n0, .inr (.inr (.inr (.inr (va_up g0 cc0 (some v)))))))] ++ rwW cA R)) := by
  refine g_ofWG hT (by decide +kernel) (Nat.le_of_ble_eq_true rfl) ?_
  intro p e s m args below meth c ls A G hP hD hl
  have G : GC p s m args meth c cJx4a65c_add_72be8 4 RJx4a65c none A D (TYS cA) ST := G
  have hx := G.1
  have hb := G.2.1
  have hS : va_S A s.heap s.heap [] := va_S.rf
  have hP : va_P D vwCl ([(z, .inr (4, [.int mm, .ref q, .int (nI cc0)])), (q, .inl (cA 6, n0, .inr (.inr (.inr (.inr g0)))))] ++ rwW cA R) s.heap := hP
  have hD : va_D A ([(z, .inr (4, [.int mm, .ref q, .int (nI cc0)])), (q, .inl (cA 6, n0, .inr (.inr (.inr (.inr g0)))))] ++ rwW cA R) := hD
  have hl : lv_has ls 4 [(0, .ref z), (1, .ref v), (2, .ref q), (3, .int (nI cc0))] := hl
  refine lv_iload_n hx hb dJx4a65c_add_72be8_0 rfl (lv_at hl 3 rfl) ?_
  refine lv_aload_n hx hb dJx4a65c_add_72be8_1 rfl (lv_at hl 2 rfl) ?_
  refine va_alen (v := nI (n0)) hx hb G.2.2.2.2.2.2.2.2.1 hP 1 6 rfl rfl rfl dJx4a65c_add_72be8_2 ?_
  refine lv_icmp_ne (tgt := 11) hx hb dJx4a65c_add_72be8_3 (by decide) (fun _ => ?_) (fun c9 => absurd c9 (fun e9 => by have := (nI_eq (show cc0 < 2 ^ 31 by omega) (show n0 < 2 ^ 31 by omega)).mp e9; omega))
  refine lv_aload_n hx hb dJx4a65c_add_72be8_11 rfl (lv_at hl 2 rfl) ?_
  refine lv_iload_n hx hb dJx4a65c_add_72be8_12 rfl (lv_at hl 3 rfl) ?_
  refine lv_aload_n hx hb dJx4a65c_add_72be8_13 rfl (lv_at hl 1 rfl) ?_
  refine va_astqM hx hb G.2.2.2.2.2.2.2.2.1 hP hD hS 1 6 rfl rfl (rw_any (k := 2 + k) G.2.2.2.2.2.2.2.2.1 hP (hL _ _ G.2.2.2.2.2.2.2.2.2.2.1).2.2.2.1 (get2.trans (rwW_get hk))) (vp_in_nI (by omega) (by omega)) dJx4a65c_add_72be8_14 (fun H locs hP hD hS => ?_)
  rw [show (nI (cc0)).toNatClampNeg = cc0 from nI_clamp (by omega)] at hP hD
  have hP : va_P D vwCl ([(z, .inr (4, [.int mm, .ref q, .int (nI cc0)])), (q, .inl (cA 6, n0, .inr (.inr (.inr (.inr (va_up g0 cc0 (some v)))))))] ++ rwW cA R) H := hP
  have hD : va_D A ([(z, .inr (4, [.int mm, .ref q, .int (nI cc0)])), (q, .inl (cA 6, n0, .inr (.inr (.inr (.inr (va_up g0 cc0 (some v)))))))] ++ rwW cA R) := hD
  refine lv_aload_n hx hb dJx4a65c_add_72be8_15 rfl (lv_at hl 0 rfl) ?_
  refine lv_iload_n hx hb dJx4a65c_add_72be8_16 rfl (lv_at hl 3 rfl) ?_
  refine lv_iconst (v := 1) hx hb dJx4a65c_add_72be8_17 (by decide) ?_
  refine lv_iadd hx hb dJx4a65c_add_72be8_18 ?_
  rw [show nI cc0 + 1 = (nI (cc0 + 1)) from nI_1 cc0]
  refine c_putJ (F := [(z, .inr (4, [.int mm, .ref q, .int (nI cc0)])), (q, .inl (cA 6, n0, .inr (.inr (.inr (.inr (va_up g0 cc0 (some v)))))))]) (B := rwW cA R) (C := RJx4a65c) (T := TJx4a65c) (M := 3) (ci := 4) (v := .int (nI (cc0 + 1))) G hP hD hS 0 2 i_Jx4a65c rfl tyJx4a65c tyJx4a65c_ok nmJx4a65c rfl (by decide) q5_216 rfl rfl rfl (Nat.le_of_ble_eq_true rfl) dJx4a65c_add_72be8_19 (fun H locs hP hD hS => ?_)
  have hP : va_P D vwCl ([(z, .inr (4, [.int mm, .ref q, .int (nI (cc0 + 1))])), (q, .inl (cA 6, n0, .inr (.inr (.inr (.inr (va_up g0 cc0 (some v)))))))] ++ rwW cA R) H := hP
  have hD : va_D A ([(z, .inr (4, [.int mm, .ref q, .int (nI (cc0 + 1))])), (q, .inl (cA 6, n0, .inr (.inr (.inr (.inr (va_up g0 cc0 (some v)))))))] ++ rwW cA R) := hD
  exact c_retv () trivial G hP hD hS (by decide) dJx4a65c_add_72be8_22
set_option maxHeartbeats 4000000 in
set_option maxRecDepth 100000 in
theorem mA32 (l : Launch) (D : va_G) (cA : Nat → ClassId) (ST : gST) (hT : STok ST) (e0 mi : Nat) (hL : STL e0 mi ST) (z q : Nat) (mm : Int32) (g : Nat → Option Nat) (v : Nat) (R : List (Nat × (Nat → Int32))) (k : Nat) (f9 : Nat → Int32) (hk : R[k]? = some (v, f9)) (hg : ∀ i, i < 10 → ∀ y, g i = some y → ∃ (k : Nat) (x : Nat × (Nat → Int32)), R[k]? = some x ∧ x.1 = y) : gMetG l yJx4a65c_add_72be8 cJx4a65c_add_72be8 4 none 7 1 15 D (TYS cA) ST ([(z, .inr (4, [.int mm, .ref q, .int (nI 10)])), (q, .inl (cA 6, 10, .inr (.inr (.inr (.inr g)))))] ++ rwW cA R) [.ref z, .ref v, .ref q, .int (nI 10)] (gGv D (TYS cA) (fun _ : Nat => True) (fun q9 => [(z, .inr (4, [.int mm, .ref q9, .int (nI 11)])), (q9, .inl (cA 6, 15, .inr (.inr (.inr (.inr (va_up (va_cpy g (fun _ => none) 0 0 10) 10 (some v)))))))] ++ rwW cA R)) := by
  refine g_ofWG hT (by decide +kernel) (Nat.le_of_ble_eq_true rfl) ?_
  intro p e s m args below meth c ls A G hP hD hl
  have G : GC p s m args meth c cJx4a65c_add_72be8 4 RJx4a65c none A D (TYS cA) ST := G
  have hx := G.1
  have hb := G.2.1
  have hS : va_S A s.heap s.heap [] := va_S.rf
  have hP : va_P D vwCl ([(z, .inr (4, [.int mm, .ref q, .int (nI 10)])), (q, .inl (cA 6, 10, .inr (.inr (.inr (.inr g)))))] ++ rwW cA R) s.heap := hP
  have hD : va_D A ([(z, .inr (4, [.int mm, .ref q, .int (nI 10)])), (q, .inl (cA 6, 10, .inr (.inr (.inr (.inr g)))))] ++ rwW cA R) := hD
  have hl : lv_has ls 4 [(0, .ref z), (1, .ref v), (2, .ref q), (3, .int (nI 10))] := hl
  refine lv_iload_n hx hb dJx4a65c_add_72be8_0 rfl (lv_at hl 3 rfl) ?_
  refine lv_aload_n hx hb dJx4a65c_add_72be8_1 rfl (lv_at hl 2 rfl) ?_
  refine va_alen (v := nI (10)) hx hb G.2.2.2.2.2.2.2.2.1 hP 1 6 rfl rfl rfl dJx4a65c_add_72be8_2 ?_
  refine lv_icmp_ne (tgt := 11) hx hb dJx4a65c_add_72be8_3 (by decide) (fun c9 => absurd (rfl) c9) (fun _ => ?_)
  refine lv_aload_n hx hb dJx4a65c_add_72be8_6 rfl (lv_at hl 0 rfl) ?_
  refine c_callVr (nA := 0) (C := RJx4a65c) (T := TJx4a65c) (M := 3) (ci := 4) ([] : va_W) ([(z, .inr (4, [.int mm, .ref q, .int (nI 10)])), (q, .inl (cA 6, 10, .inr (.inr (.inr (.inr g)))))] ++ rwW cA R) 0 rfl rfl (mGG1 l D cA ST hT e0 mi hL z q mm g R hg) G hP hD hS (List.Perm.refl _) (g_good q6_7 q6_9 qs_23 q1_31 q6_10) (by decide +kernel) ⟨Nat.le_of_ble_eq_true rfl, Nat.le_of_ble_eq_true rfl, Nat.le_of_ble_eq_true rfl, Nat.le_of_ble_eq_true rfl⟩ rfl hl.1 [] rfl (Nat.le_of_ble_eq_true rfl) dJx4a65c_add_72be8_7 (fun q9 H locs hok hP hD hS => ?_)
  have hP : va_P D vwCl ([(z, .inr (4, [.int mm, .ref q9, .int (nI 10)])), (q9, .inl (cA 6, 15, .inr (.inr (.inr (.inr (va_cpy g (fun _ => none) 0 0 10))))))] ++ rwW cA R) H := hP
  have hD : va_D A ([(z, .inr (4, [.int mm, .ref q9, .int (nI 10)])), (q9, .inl (cA 6, 15, .inr (.inr (.inr (.inr (va_cpy g (fun _ => none) 0 0 10))))))] ++ rwW cA R) := hD
  refine lv_astore_n (lv' := [(2, .ref q9), (0, .ref z), (1, .ref v), (3, .int (nI 10))]) hx hb dJx4a65c_add_72be8_10 rfl hl (by decide) rfl (fun ls hl => ?_)
  refine lv_aload_n hx hb dJx4a65c_add_72be8_11 rfl (lv_at hl 0 rfl) ?_
  refine lv_iload_n hx hb dJx4a65c_add_72be8_12 rfl (lv_at hl 3 rfl) ?_
  refine lv_aload_n hx hb dJx4a65c_add_72be8_13 rfl (lv_at hl 2 rfl) ?_
  refine va_astqM hx hb G.2.2.2.2.2.2.2.2.1 hP hD hS 1 6 rfl rfl (rw_any (k := 2 + k) G.2.2.2.2.2.2.2.2.1 hP (hL _ _ G.2.2.2.2.2.2.2.2.2.2.1).2.2.2.1 (get2.trans (rwW_get hk))) (vp_in_nI (by omega) (by omega)) dJx4a65c_add_72be8_14 (fun H locs hP hD hS => ?_)
  rw [show (nI (10)).toNatClampNeg = 10 from nI_clamp (by omega)] at hP hD
  have hP : va_P D vwCl ([(z, .inr (4, [.int mm, .ref q9, .int (nI 10)])), (q9, .inl (cA 6, 15, .inr (.inr (.inr (.inr (va_up (va_cpy g (fun _ => none) 0 0 10) 10 (some v)))))))] ++ rwW cA R) H := hP
  have hD : va_D A ([(z, .inr (4, [.int mm, .ref q9, .int (nI 10)])), (q9, .inl (cA 6, 15, .inr (.inr (.inr (.inr (va_up (va_cpy g (fun _ => none) 0 0 10) 10 (some v)))))))] ++ rwW cA R) := hD
  refine lv_aload_n hx hb dJx4a65c_add_72be8_15 rfl (lv_at hl 1 rfl) ?_
  refine lv_iload_n hx hb dJx4a65c_add_72be8_16 rfl (lv_at hl 3 rfl) ?_
  refine lv_iconst (v := 1) hx hb dJx4a65c_add_72be8_17 (by decide) ?_
  refine lv_iadd hx hb dJx4a65c_add_72be8_18 ?_
  rw [show nI 10 + 1 = (nI 11) from by decide]
  refine c_putJ (F := [(z, .inr (4, [.int mm, .ref q9, .int (nI 10)])), (q9, .inl (cA 6, 15, .inr (.inr (.inr (.inr (va_up (va_cpy g (fun _ => none) 0 0 10) 10 (some v)))))))]) (B := rwW cA R) (C := RJx4a65c) (T := TJx4a65c) (M := 3) (ci := 4) (v := .int (nI 11)) G hP hD hS 0 2 i_Jx4a65c rfl tyJx4a65c tyJx4a65c_ok nmJx4a65c rfl (by decide) q5_216 rfl rfl rfl (Nat.le_of_ble_eq_true rfl) dJx4a65c_add_72be8_19 (fun H locs hP hD hS => ?_)
  have hP : va_P D vwCl ([(z, .inr (4, [.int mm, .ref q9, .int (nI 11)])), (q9, .inl (cA 6, 15, .inr (.inr (.inr (.inr (va_up (va_cpy g (fun _ => none) 0 0 10) 10 (some v)))))))] ++ rwW cA R) H := hP
  have hD : va_D A ([(z, .inr (4, [.int mm, .ref q9, .int (nI 11)])), (q9, .inl (cA 6, 15, .inr (.inr (.inr (.inr (va_up (va_cpy g (fun _ => none) 0 0 10) 10 (some v)))))))] ++ rwW cA R) := hD
  exact c_retv q9 trivial G hP hD hS (by decide) dJx4a65c_add_72be8_22
set_option maxHeartbeats 4000000 in
set_option maxRecDepth 100000 in
theorem mADD0 (l : Launch) (D : va_G) (cA : Nat → ClassId) (ST : gST) (hT : STok ST) (e0 mi : Nat) (hL : STL e0 mi ST) (z : Nat) (v : Nat) (R : List (Nat × (Nat → Int32))) (k : Nat) (f9 : Nat → Int32) (hk : R[k]? = some (v, f9)) : gMetG l yJx4a65c_add_9ea2d cJx4a65c_add_9ea2d 2 (some .boolean) 5 1 15 D (TYS cA) ST ([(z, .inr (4, [.int 0, .ref e0, .int (nI 0)]))] ++ rwW cA R) [.ref z, .ref v] (gGi D (TYS cA) (fun r (b : LB) => r = 1 ∧ LBok [v] b) (fun b => lsC cA z 1 b ++ rwW cA R)) := by
  refine g_ofWG hT (by decide +kernel) (Nat.le_of_ble_eq_true rfl) ?_
  intro p e s m args below meth c ls A G hP hD hl
  have G : GC p s m args meth c cJx4a65c_add_9ea2d 2 RJx4a65c (some .boolean) A D (TYS cA) ST := G
  have hx := G.1
  have hb := G.2.1
  have hS : va_S A s.heap s.heap [] := va_S.rf
  have hP : va_P D vwCl ([(z, .inr (4, [.int 0, .ref e0, .int (nI 0)]))] ++ rwW cA R) s.heap := hP
  have hD : va_D A ([(z, .inr (4, [.int 0, .ref e0, .int (nI 0)]))] ++ rwW cA R) := hD
  have hl : lv_has ls 2 [(0, .ref z), (1, .ref v)] := hl
  refine lv_aload_n hx hb dJx4a65c_add_9ea2d_0 rfl (lv_at hl 0 rfl) ?_
  refine lv_dup hx hb dJx4a65c_add_9ea2d_1 rfl ?_
  refine c_getS (ref := "java/util/ArrayList") (F := [(z, .inr (4, [.int 0, .ref e0, .int (nI 0)]))]) (B := rwW cA R) (C := RJx4a65c) (T := TJx4a65c) (M := 3) (ci := 4) (v := .int 0) G hP 0 0 i_Jx4a65c rfl rfl (by decide) ⟨q5_220, q5_219⟩ rfl dJx4a65c_add_9ea2d_2 ?_
  refine lv_iconst (v := 1) hx hb dJx4a65c_add_9ea2d_5 (by decide) ?_
  refine lv_iadd hx hb dJx4a65c_add_9ea2d_6 ?_
  refine c_putS (ref := "java/util/ArrayList") (F := [(z, .inr (4, [.int 0, .ref e0, .int (nI 0)]))]) (B := rwW cA R) (C := RJx4a65c) (T := TJx4a65c) (M := 3) (ci := 4) (v := .int (0 + 1)) G hP hD hS 0 0 i_Jx4a65c rfl tyJx4a65c tyJx4a65c_ok nmJx4a65c rfl (by decide) ⟨q5_220, q5_219⟩ rfl rfl rfl (Nat.le_of_ble_eq_true rfl) dJx4a65c_add_9ea2d_7 (fun H locs hP hD hS => ?_)
  have hP : va_P D vwCl ([(z, .inr (4, [.int (0 + 1), .ref e0, .int (nI 0)]))] ++ rwW cA R) H := hP
  have hD : va_D A ([(z, .inr (4, [.int (0 + 1), .ref e0, .int (nI 0)]))] ++ rwW cA R) := hD
  refine lv_aload_n hx hb dJx4a65c_add_9ea2d_10 rfl (lv_at hl 0 rfl) ?_
  refine lv_aload_n hx hb dJx4a65c_add_9ea2d_11 rfl (lv_at hl 1 rfl) ?_
  refine lv_aload_n hx hb dJx4a65c_add_9ea2d_12 rfl (lv_at hl 0 rfl) ?_
  refine c_get (F := [(z, .inr (4, [.int (0 + 1), .ref e0, .int (nI 0)]))]) (B := rwW cA R) (C := RJx4a65c) (T := TJx4a65c) (M := 3) (ci := 4) (v := .ref e0) G hP 0 1 i_Jx4a65c rfl rfl (by decide) q5_213 rfl dJx4a65c_add_9ea2d_13 ?_
  refine lv_aload_n hx hb dJx4a65c_add_9ea2d_16 rfl (lv_at hl 0 rfl) ?_
  refine c_get (F := [(z, .inr (4, [.int (0 + 1), .ref e0, .int (nI 0)]))]) (B := rwW cA R) (C := RJx4a65c) (T := TJx4a65c) (M := 3) (ci := 4) (v := .int (nI 0)) G hP 0 2 i_Jx4a65c rfl rfl (by decide) q5_216 rfl dJx4a65c_add_9ea2d_17 ?_
  refine c_callVv (nA := 3) (C := RJx4a65c) (T := TJx4a65c) (M := 3) (ci := 4) ([] : va_W) ([(z, .inr (4, [.int (0 + 1), .ref e0, .int (nI 0)]))] ++ rwW cA R) 0 rfl rfl (mA30 l D cA ST hT e0 mi hL z (0 + 1) v R k f9 hk) G hP hD hS (List.Perm.refl _) (g_good q6_3 q6_5 qs_22 q1_31 q6_6) (by decide +kernel) ⟨Nat.le_of_ble_eq_true rfl, Nat.le_of_ble_eq_true rfl, Nat.le_of_ble_eq_true rfl, Nat.le_of_ble_eq_true rfl⟩ rfl hl.1 [] rfl (Nat.le_of_ble_eq_true rfl) dJx4a65c_add_9ea2d_20 (fun q9 H locs hok hP hD hS => ?_)
  refine lv_iconst (v := 1) hx hb dJx4a65c_add_9ea2d_23 (by decide) ?_
  refine c_reti ((0 + 1, q9, 10, va_up (fun _ => none) 0 (some v)) : LB) ⟨rfl, Or.inl rfl, (by show 1 ≤ 10; decide), fun i hi => ?_⟩ rfl G hP hD hS (by decide) dJx4a65c_add_9ea2d_24
  have hi : i < 1 := hi
  obtain rfl : i = 0 := by omega
  rfl
set_option maxHeartbeats 4000000 in
set_option maxRecDepth 100000 in
theorem mADD (l : Launch) (D : va_G) (cA : Nat → ClassId) (ST : gST) (hT : STok ST) (e0 mi : Nat) (hL : STL e0 mi ST) (v : Nat) (R : List (Nat × (Nat → Int32))) (k : Nat) (f9 : Nat → Int32) (hk : R[k]? = some (v, f9)) (z : Nat) (as : List Nat) (b0 : LB) (hb0 : LBok as b0) (h15 : as.length < 15) (h1 : 0 < as.length) (hR : ∀ y ∈ as, ∃ (k : Nat) (x : Nat × (Nat → Int32)), R[k]? = some x ∧ x.1 = y) : gMetG l yJx4a65c_add_9ea2d cJx4a65c_add_9ea2d 2 (some .boolean) 8 1 15 D (TYS cA) ST (lsC cA z as.length b0 ++ rwW cA R) [.ref z, .ref v] (gGi D (TYS cA) (fun r (b : LB) => r = 1 ∧ LBok (as ++ [v]) b) (fun b => lsC cA z (as.length + 1) b ++ rwW cA R)) := by
  refine g_ofWG hT (by decide +kernel) (Nat.le_of_ble_eq_true rfl) ?_
  intro p e s m args below meth c ls A G hP hD hl
  have G : GC p s m args meth c cJx4a65c_add_9ea2d 2 RJx4a65c (some .boolean) A D (TYS cA) ST := G
  have hx := G.1
  have hb := G.2.1
  have hS : va_S A s.heap s.heap [] := va_S.rf
  have hP : va_P D vwCl (lsC cA z as.length b0 ++ rwW cA R) s.heap := hP
  have hD : va_D A (lsC cA z as.length b0 ++ rwW cA R) := hD
  have hl : lv_has ls 2 [(0, .ref z), (1, .ref v)] := hl
  obtain ⟨mm, q, n0, g0⟩ := b0
  obtain ⟨hn, hcn, hg0⟩ := hb0
  have hn : n0 = 10 ∨ n0 = 15 := hn
  have hcn : as.length ≤ n0 := hcn
  have hg0 : ∀ i, i < as.length → g0 i = some (as.getD i 0) := hg0
  have hP : va_P D vwCl ([(z, .inr (4, [.int mm, .ref q, .int (nI as.length)])), (q, .inl (cA 6, n0, .inr (.inr (.inr (.inr g0)))))] ++ rwW cA R) s.heap := hP
  have hD : va_D A ([(z, .inr (4, [.int mm, .ref q, .int (nI as.length)])), (q, .inl (cA 6, n0, .inr (.inr (.inr (.inr g0)))))] ++ rwW cA R) := hD
  refine lv_aload_n hx hb dJx4a65c_add_9ea2d_0 rfl (lv_at hl 0 rfl) ?_
  refine lv_dup hx hb dJx4a65c_add_9ea2d_1 rfl ?_
  refine c_getS (ref := "java/util/ArrayList") (F := [(z, .inr (4, [.int mm, .ref q, .int (nI as.length)])), (q, .inl (cA 6, n0, .inr (.inr (.inr (.inr g0)))))]) (B := rwW cA R) (C := RJx4a65c) (T := TJx4a65c) (M := 3) (ci := 4) (v := .int mm) G hP 0 0 i_Jx4a65c rfl rfl (by decide) ⟨q5_220, q5_219⟩ rfl dJx4a65c_add_9ea2d_2 ?_
  refine lv_iconst (v := 1) hx hb dJx4a65c_add_9ea2d_5 (by decide) ?_
  refine lv_iadd hx hb dJx4a65c_add_9ea2d_6 ?_
  refine c_putS (ref := "java/util/ArrayList") (F := [(z, .inr (4, [.int mm, .ref q, .int (nI as.length)])), (q, .inl (cA 6, n0, .inr (.inr (.inr (.inr g0)))))]) (B := rwW cA R) (C := RJx4a65c) (T := TJx4a65c) (M := 3) (ci := 4) (v := .int (mm + 1)) G hP hD hS 0 0 i_Jx4a65c rfl tyJx4a65c tyJx4a65c_ok nmJx4a65c rfl (by decide) ⟨q5_220, q5_219⟩ rfl rfl rfl (Nat.le_of_ble_eq_true rfl) dJx4a65c_add_9ea2d_7 (fun H locs hP hD hS => ?_)
  have hP : va_P D vwCl ([(z, .inr (4, [.int (mm + 1), .ref q, .int (nI as.length)])), (q, .inl (cA 6, n0, .inr (.inr (.inr (.inr g0)))))] ++ rwW cA R) H := hP
  have hD : va_D A ([(z, .inr (4, [.int (mm + 1), .ref q, .int (nI as.length)])), (q, .inl (cA 6, n0, .inr (.inr (.inr (.inr g0)))))] ++ rwW cA R) := hD
  refine lv_aload_n hx hb dJx4a65c_add_9ea2d_10 rfl (lv_at hl 0 rfl) ?_
  refine lv_aload_n hx hb dJx4a65c_add_9ea2d_11 rfl (lv_at hl 1 rfl) ?_
  refine lv_aload_n hx hb dJx4a65c_add_9ea2d_12 rfl (lv_at hl 0 rfl) ?_
  refine c_get (F := [(z, .inr (4, [.int (mm + 1), .ref q, .int (nI as.length)])), (q, .inl (cA 6, n0, .inr (.inr (.inr (.inr g0)))))]) (B := rwW cA R) (C := RJx4a65c) (T := TJx4a65c) (M := 3) (ci := 4) (v := .ref q) G hP 0 1 i_Jx4a65c rfl rfl (by decide) q5_213 rfl dJx4a65c_add_9ea2d_13 ?_
  refine lv_aload_n hx hb dJx4a65c_add_9ea2d_16 rfl (lv_at hl 0 rfl) ?_
  refine c_get (F := [(z, .inr (4, [.int (mm + 1), .ref q, .int (nI as.length)])), (q, .inl (cA 6, n0, .inr (.inr (.inr (.inr g0)))))]) (B := rwW cA R) (C := RJx4a65c) (T := TJx4a65c) (M := 3) (ci := 4) (v := .int (nI as.length)) G hP 0 2 i_Jx4a65c rfl rfl (by decide) q5_216 rfl dJx4a65c_add_9ea2d_17 ?_
  by_cases hlt : as.length < n0
  · skip
    refine c_callVv (nA := 3) (C := RJx4a65c) (T := TJx4a65c) (M := 3) (ci := 4) ([] : va_W) ([(z, .inr (4, [.int (mm + 1), .ref q, .int (nI as.length)])), (q, .inl (cA 6, n0, .inr (.inr (.inr (.inr g0)))))] ++ rwW cA R) 0 rfl rfl (mA31 l D cA ST hT e0 mi hL z q n0 as.length g0 (mm + 1) hlt (by omega) v R k f9 hk) G hP hD hS (List.Perm.refl _) (g_good q6_3 q6_5 qs_22 q1_31 q6_6) (by decide +kernel) ⟨Nat.le_of_ble_eq_true rfl, Nat.le_of_ble_eq_true rfl, Nat.le_of_ble_eq_true rfl, Nat.le_of_ble_eq_true rfl⟩ rfl hl.1 [] rfl (Nat.le_of_ble_eq_true rfl) dJx4a65c_add_9ea2d_20 (fun _ H locs hok hP hD hS => ?_)
    refine lv_iconst (v := 1) hx hb dJx4a65c_add_9ea2d_23 (by decide) ?_
    refine c_reti ((mm + 1, q, n0, va_up g0 as.length (some v)) : LB) ⟨rfl, hn, by rw [List.length_append]; exact hlt, fun i hi => ?_⟩ rfl G hP hD hS (by decide) dJx4a65c_add_9ea2d_24
    rw [List.length_append] at hi
    have hi : i < as.length + 1 := hi
    rw [nap_getD (by omega)]
    by_cases e9 : i = as.length
    · rw [if_pos e9, e9]
      exact pu_upe rfl
    · rw [if_neg e9]
      exact (pu_upn e9).trans (hg0 i (by omega))
  obtain rfl : n0 = 10 := by omega
  have e10 : as.length = 10 := by omega
  have hP : va_P D vwCl ([(z, .inr (4, [.int (mm + 1), .ref q, .int (nI 10)])), (q, .inl (cA 6, 10, .inr (.inr (.inr (.inr g0)))))] ++ rwW cA R) H := by rw [e10] at hP; exact hP
  have hD : va_D A ([(z, .inr (4, [.int (mm + 1), .ref q, .int (nI 10)])), (q, .inl (cA 6, 10, .inr (.inr (.inr (.inr g0)))))] ++ rwW cA R) := by rw [e10] at hD; exact hD
  rw [show nI as.length = nI 10 from congrArg nI e10]
  have hg : ∀ i, i < 10 → ∀ y, g0 i = some y → ∃ (k : Nat) (x : Nat × (Nat → Int32)), R[k]? = some x ∧ x.1 = y := fun i hi y hy => by
    have h9 : g0 i = some (as.getD i 0) := hg0 i (by omega)
    rw [hy] at h9
    injection h9 with h9
    rw [h9]
    exact hR _ (ngetD_mem (by omega))
  refine c_callVv (nA := 3) (C := RJx4a65c) (T := TJx4a65c) (M := 3) (ci := 4) ([] : va_W) ([(z, .inr (4, [.int (mm + 1), .ref q, .int (nI 10)])), (q, .inl (cA 6, 10, .inr (.inr (.inr (.inr g0)))))] ++ rwW cA R) 0 rfl rfl (mA32 l D cA ST hT e0 mi hL z q (mm + 1) g0 v R k f9 hk hg) G hP hD hS (List.Perm.refl _) (g_good q6_3 q6_5 qs_22 q1_31 q6_6) (by decide +kernel) ⟨Nat.le_of_ble_eq_true rfl, Nat.le_of_ble_eq_true rfl, Nat.le_of_ble_eq_true rfl, Nat.le_of_ble_eq_true rfl⟩ rfl hl.1 [] rfl (Nat.le_of_ble_eq_true rfl) dJx4a65c_add_9ea2d_20 (fun q9 H locs hok hP hD hS => ?_)
  refine lv_iconst (v := 1) hx hb dJx4a65c_add_9ea2d_23 (by decide) ?_
  refine c_reti ((mm + 1, q9, 15, va_up (va_cpy g0 (fun _ => none) 0 0 10) 10 (some v)) : LB) ⟨rfl, Or.inr rfl, by rw [List.length_append, e10]; show 10 + 1 ≤ 15; omega, fun i hi => ?_⟩ rfl G (by rw [e10]; exact hP) (by rw [e10]; exact hD) hS (by decide) dJx4a65c_add_9ea2d_24
  rw [List.length_append, e10] at hi
  have hi : i < 11 := hi
  rw [nap_getD (by omega), e10]
  by_cases e9 : i = 10
  · rw [if_pos e9, e9]
    show va_up (va_cpy g0 (fun _ => none) 0 0 10) 10 (some v) 10 = some v
    exact pu_upe rfl
  · rw [if_neg e9]
    refine (pu_upn e9).trans ?_
    have h9 : g0 i = some (as.getD i 0) := hg0 i (by omega)
    rw [← h9]
    unfold va_cpy
    rw [if_pos (by omega)]
    exact congrArg g0 (by omega)
set_option maxHeartbeats 4000000 in
set_option maxRecDepth 100000 in
theorem mIT_init (l : Launch) (D : va_G) (cA : Nat → ClassId) (ST : gST) (hT : STok ST) (e0 mi : Nat) (hL : STL e0 mi ST) (y z q : Nat) (mm cc0 : Int32) : gMetC l yJx35411_init_45d68 cJx35411_init_45d68 2 1 0 0 D (TYS cA) ST ([(y, .inr (3, [.int 0, .int 0, .int 0, .null])), (z, .inr (4, [.int mm, .ref q, .int cc0]))] ++ ([] : va_W)) [.ref y, .ref z] (fun _ : Unit => True) (fun _ => [(y, .inr (3, [.int 0, .int (-1), .int mm, .ref z])), (z, .inr (4, [.int mm, .ref q, .int cc0]))] ++ ([] : va_W)) := by
  refine g_ofWC hT (by decide +kernel) (Nat.le_of_ble_eq_true rfl) ?_
  intro p e s m args below meth c ls A G hnm9 hP hD hl
  have hnm9 : meth.name = "<init>" := hnm9
  have G : GC p s m args meth c cJx35411_init_45d68 2 RJx35411 none A D (TYS cA) ST := G
  have hx := G.1
  have hb := G.2.1
  have hS : va_S A s.heap s.heap [] := va_S.rf
  have hP : va_P D vwCl ([(y, .inr (3, [.int 0, .int 0, .int 0, .null])), (z, .inr (4, [.int mm, .ref q, .int cc0]))] ++ ([] : va_W)) s.heap := hP
  have hD : va_D A ([(y, .inr (3, [.int 0, .int 0, .int 0, .null])), (z, .inr (4, [.int mm, .ref q, .int cc0]))] ++ ([] : va_W)) := hD
  have hl : lv_has ls 2 [(0, .ref y), (1, .ref z)] := hl
  refine lv_aload_n hx hb dJx35411_init_45d68_0 rfl (lv_at hl 0 rfl) ?_
  refine lv_aload_n hx hb dJx35411_init_45d68_1 rfl (lv_at hl 1 rfl) ?_
  refine c_put (F := [(y, .inr (3, [.int 0, .int 0, .int 0, .null])), (z, .inr (4, [.int mm, .ref q, .int cc0]))]) (B := ([] : va_W)) (ci := 3) (v := .ref z) hnm9 G hP hD hS 0 3 i_Jx35411 rfl tyJx35411 tyJx35411_ok nmJx35411 rfl (by decide) q6_78 rfl rfl rfl (Nat.le_of_ble_eq_true rfl) dJx35411_init_45d68_2 (fun H locs hP hD hS => ?_)
  have hP : va_P D vwCl ([(y, .inr (3, [.int 0, .int 0, .int 0, .ref z])), (z, .inr (4, [.int mm, .ref q, .int cc0]))] ++ ([] : va_W)) H := hP
  have hD : va_D A ([(y, .inr (3, [.int 0, .int 0, .int 0, .ref z])), (z, .inr (4, [.int mm, .ref q, .int cc0]))] ++ ([] : va_W)) := hD
  refine lv_aload_n hx hb dJx35411_init_45d68_5 rfl (lv_at hl 0 rfl) ?_
  refine c_objInit G q6_74 q1_46 q1_47 hl.1 dJx35411_init_45d68_6 (by decide) (Nat.le_of_ble_eq_true rfl) ?_
  refine lv_aload_n hx hb dJx35411_init_45d68_9 rfl (lv_at hl 0 rfl) ?_
  refine lv_iconst (v := (-1)) hx hb dJx35411_init_45d68_10 (by decide) ?_
  refine c_put (F := [(y, .inr (3, [.int 0, .int 0, .int 0, .ref z])), (z, .inr (4, [.int mm, .ref q, .int cc0]))]) (B := ([] : va_W)) (ci := 3) (v := .int (-1)) hnm9 G hP hD hS 0 1 i_Jx35411 rfl tyJx35411 tyJx35411_ok nmJx35411 rfl (by decide) q6_76 rfl rfl rfl (Nat.le_of_ble_eq_true rfl) dJx35411_init_45d68_11 (fun H locs hP hD hS => ?_)
  have hP : va_P D vwCl ([(y, .inr (3, [.int 0, .int (-1), .int 0, .ref z])), (z, .inr (4, [.int mm, .ref q, .int cc0]))] ++ ([] : va_W)) H := hP
  have hD : va_D A ([(y, .inr (3, [.int 0, .int (-1), .int 0, .ref z])), (z, .inr (4, [.int mm, .ref q, .int cc0]))] ++ ([] : va_W)) := hD
  refine lv_aload_n hx hb dJx35411_init_45d68_14 rfl (lv_at hl 0 rfl) ?_
  refine lv_aload_n hx hb dJx35411_init_45d68_15 rfl (lv_at hl 0 rfl) ?_
  refine c_get (F := [(y, .inr (3, [.int 0, .int (-1), .int 0, .ref z])), (z, .inr (4, [.int mm, .ref q, .int cc0]))]) (B := ([] : va_W)) (C := RJx35411) (T := TJx35411) (M := 4) (ci := 3) (v := .ref z) G hP 0 3 i_Jx35411 rfl rfl (by decide) q6_78 rfl dJx35411_init_45d68_16 ?_
  refine c_getS (ref := "java/util/ArrayList") (F := [(y, .inr (3, [.int 0, .int (-1), .int 0, .ref z])), (z, .inr (4, [.int mm, .ref q, .int cc0]))]) (B := ([] : va_W)) (C := RJx4a65c) (T := TJx4a65c) (M := 3) (ci := 4) (v := .int mm) G hP 1 0 i_Jx4a65c rfl rfl (by decide) ⟨q5_218, q5_219⟩ rfl dJx35411_init_45d68_19 ?_
  refine c_put (F := [(y, .inr (3, [.int 0, .int (-1), .int 0, .ref z])), (z, .inr (4, [.int mm, .ref q, .int cc0]))]) (B := ([] : va_W)) (ci := 3) (v := .int mm) hnm9 G hP hD hS 0 2 i_Jx35411 rfl tyJx35411 tyJx35411_ok nmJx35411 rfl (by decide) q6_77 rfl rfl rfl (Nat.le_of_ble_eq_true rfl) dJx35411_init_45d68_22 (fun H locs hP hD hS => ?_)
  have hP : va_P D vwCl ([(y, .inr (3, [.int 0, .int (-1), .int mm, .ref z])), (z, .inr (4, [.int mm, .ref q, .int cc0]))] ++ ([] : va_W)) H := hP
  have hD : va_D A ([(y, .inr (3, [.int 0, .int (-1), .int mm, .ref z])), (z, .inr (4, [.int mm, .ref q, .int cc0]))] ++ ([] : va_W)) := hD
  exact c_ret () trivial G hP hD hS (by decide) dJx35411_init_45d68_25
theorem dflt_Jx35411 : ∀ j, j < 4 → defaultValue (tyJx35411 j) = vp_V [.int 0, .int 0, .int 0, .null] j := fun j hj => by
  match j, hj with
  | 0, _ => rfl
  | 1, _ => rfl
  | 2, _ => rfl
  | 3, _ => rfl
  | j + 4, hj => omega
set_option maxHeartbeats 4000000 in
set_option maxRecDepth 100000 in
theorem mIT (l : Launch) (D : va_G) (cA : Nat → ClassId) (ST : gST) (hT : STok ST) (e0 mi : Nat) (hL : STL e0 mi ST) (z q : Nat) (mm cc0 : Int32) : gMetG l yJx4a65c_iterator_32c93 cJx4a65c_iterator_32c93 1 (some (.object "java/util/Iterator")) 2 1 4 D (TYS cA) ST ([(z, .inr (4, [.int mm, .ref q, .int cc0]))] ++ ([] : va_W)) [.ref z] (gGr D (TYS cA) (fun _ : Nat => True) (fun y => y) (fun y => [(y, .inr (3, [.int 0, .int (-1), .int mm, .ref z])), (z, .inr (4, [.int mm, .ref q, .int cc0]))])) := by
  refine g_ofWG hT (by decide +kernel) (Nat.le_of_ble_eq_true rfl) ?_
  intro p e s m args below meth c ls A G hP hD hl
  have G : GC p s m args meth c cJx4a65c_iterator_32c93 1 RJx4a65c (some (.object "java/util/Iterator")) A D (TYS cA) ST := G
  have hx := G.1
  have hb := G.2.1
  have hS : va_S A s.heap s.heap [] := va_S.rf
  have hP : va_P D vwCl ([(z, .inr (4, [.int mm, .ref q, .int cc0]))] ++ ([] : va_W)) s.heap := hP
  have hD : va_D A ([(z, .inr (4, [.int mm, .ref q, .int cc0]))] ++ ([] : va_W)) := hD
  have hl : lv_has ls 1 [(0, .ref z)] := hl
  refine c_new (F := [(z, .inr (4, [.int mm, .ref q, .int cc0]))]) (B := ([] : va_W)) (ci := 3) (fs := [.int 0, .int 0, .int 0, .null]) G hP hD hS i_Jx35411 tyJx35411 tyJx35411_ok q6_69 q6_70 q1_34 rfl dflt_Jx35411 (Nat.le_of_ble_eq_true rfl) (Nat.le_of_ble_eq_true rfl) dJx4a65c_iterator_32c93_0 (fun y H hP hD hS => ?_)
  refine lv_dup hx hb dJx4a65c_iterator_32c93_3 rfl ?_
  refine lv_aload_n hx hb dJx4a65c_iterator_32c93_4 rfl (lv_at hl 0 rfl) ?_
  refine c_callIA (nA := 1) (q := y) ([] : va_W) (([(y, .inr (3, [.int 0, .int 0, .int 0, .null])), (z, .inr (4, [.int mm, .ref q, .int cc0]))] : va_W) ++ ([] : va_W)) (mIT_init l D cA ST hT e0 mi hL y z q mm cc0) G hP hD hS (show List.Perm ([(z, .inr (4, [.int mm, .ref q, .int cc0])), (y, .inr (3, [.int 0, .int 0, .int 0, .null]))] : va_W) [(y, .inr (3, [.int 0, .int 0, .int 0, .null])), (z, .inr (4, [.int mm, .ref q, .int cc0]))] from List.Perm.swap _ _ _) q6_71 q6_72 q1_34 q6_73 rfl (by decide +kernel) ⟨Nat.le_of_ble_eq_true rfl, Nat.le_of_ble_eq_true rfl, Nat.le_of_ble_eq_true rfl, Nat.le_of_ble_eq_true rfl⟩ rfl hl.1 [.ref y] rfl (Nat.le_of_ble_eq_true rfl) dJx4a65c_iterator_32c93_5 (fun _ H locs _ hP hD hS => ?_)
  exact c_reta y trivial rfl (Or.inl ⟨_, rfl⟩) G hP hD hS (by decide) dJx4a65c_iterator_32c93_8
set_option maxHeartbeats 4000000 in
set_option maxRecDepth 100000 in
theorem mHN_t (l : Launch) (D : va_G) (cA : Nat → ClassId) (ST : gST) (hT : STok ST) (e0 mi : Nat) (hL : STL e0 mi ST) (y z q i cc0 : Nat) (lr mm : Int32) (hc9 : cc0 < 2 ^ 31) (hi : i < cc0) : gMetG l yJx35411_hasNext_aae02 cJx35411_hasNext_aae02 1 (some .boolean) 0 0 0 D (TYS cA) ST ([(y, .inr (3, [.int (nI i), .int lr, .int mm, .ref z])), (z, .inr (4, [.int mm, .ref q, .int (nI cc0)]))] ++ ([] : va_W)) [.ref y] (gGi D (TYS cA) (fun r (_ : Unit) => r = 1) (fun _ => [(y, .inr (3, [.int (nI i), .int lr, .int mm, .ref z])), (z, .inr (4, [.int mm, .ref q, .int (nI cc0)]))] ++ ([] : va_W))) := by
  refine g_ofWG hT (by decide +kernel) (Nat.le_of_ble_eq_true rfl) ?_
  intro p e s m args below meth c ls A G hP hD hl
  have G : GC p s m args meth c cJx35411_hasNext_aae02 1 RJx35411 (some .boolean) A D (TYS cA) ST := G
  have hx := G.1
  have hb := G.2.1
  have hS : va_S A s.heap s.heap [] := va_S.rf
  have hP : va_P D vwCl ([(y, .inr (3, [.int (nI i), .int lr, .int mm, .ref z])), (z, .inr (4, [.int mm, .ref q, .int (nI cc0)]))] ++ ([] : va_W)) s.heap := hP
  have hD : va_D A ([(y, .inr (3, [.int (nI i), .int lr, .int mm, .ref z])), (z, .inr (4, [.int mm, .ref q, .int (nI cc0)]))] ++ ([] : va_W)) := hD
  have hl : lv_has ls 1 [(0, .ref y)] := hl
  refine lv_aload_n hx hb dJx35411_hasNext_aae02_0 rfl (lv_at hl 0 rfl) ?_
  refine c_get (F := [(y, .inr (3, [.int (nI i), .int lr, .int mm, .ref z])), (z, .inr (4, [.int mm, .ref q, .int (nI cc0)]))]) (B := ([] : va_W)) (C := RJx35411) (T := TJx35411) (M := 4) (ci := 3) (v := .int (nI i)) G hP 0 0 i_Jx35411 rfl rfl (by decide) q6_75 rfl dJx35411_hasNext_aae02_1 ?_
  refine lv_aload_n hx hb dJx35411_hasNext_aae02_4 rfl (lv_at hl 0 rfl) ?_
  refine c_get (F := [(y, .inr (3, [.int (nI i), .int lr, .int mm, .ref z])), (z, .inr (4, [.int mm, .ref q, .int (nI cc0)]))]) (B := ([] : va_W)) (C := RJx35411) (T := TJx35411) (M := 4) (ci := 3) (v := .ref z) G hP 0 3 i_Jx35411 rfl rfl (by decide) q6_78 rfl dJx35411_hasNext_aae02_5 ?_
  refine c_getN (F := [(y, .inr (3, [.int (nI i), .int lr, .int mm, .ref z])), (z, .inr (4, [.int mm, .ref q, .int (nI cc0)]))]) (B := ([] : va_W)) (C := RJx4a65c) (T := TJx4a65c) (M := 3) (ci := 4) (v := .int (nI cc0)) G hP 1 2 i_Jx4a65c rfl rfl (by decide) (nf_35 G.2.2.2.2.2.2.2.2.2.1) rfl dJx35411_hasNext_aae02_8 ?_
  refine lv_icmp_eq (tgt := 18) hx hb dJx35411_hasNext_aae02_11 (by decide) (fun c9 => absurd c9 (fun e9 => by have := (nI_eq (show i < 2 ^ 31 by omega) hc9).mp e9; omega)) (fun _ => ?_)
  refine lv_iconst (v := 1) hx hb dJx35411_hasNext_aae02_14 (by decide) ?_
  refine lv_goto (tgt := 19) hx hb dJx35411_hasNext_aae02_15 (by decide) ?_
  exact c_reti () rfl rfl G hP hD hS (by decide) dJx35411_hasNext_aae02_19
set_option maxHeartbeats 4000000 in
set_option maxRecDepth 100000 in
theorem mHN_f (l : Launch) (D : va_G) (cA : Nat → ClassId) (ST : gST) (hT : STok ST) (e0 mi : Nat) (hL : STL e0 mi ST) (y z q i cc0 : Nat) (lr mm : Int32) (hc9 : cc0 < 2 ^ 31) : gMetG l yJx35411_hasNext_aae02 cJx35411_hasNext_aae02 1 (some .boolean) 0 0 0 D (TYS cA) ST ([(y, .inr (3, [.int (nI cc0), .int lr, .int mm, .ref z])), (z, .inr (4, [.int mm, .ref q, .int (nI cc0)]))] ++ ([] : va_W)) [.ref y] (gGi D (TYS cA) (fun r (_ : Unit) => r = 0) (fun _ => [(y, .inr (3, [.int (nI cc0), .int lr, .int mm, .ref z])), (z, .inr (4, [.int mm, .ref q, .int (nI cc0)]))] ++ ([] : va_W))) := by
  refine g_ofWG hT (by decide +kernel) (Nat.le_of_ble_eq_true rfl) ?_
  intro p e s m args below meth c ls A G hP hD hl
  have G : GC p s m args meth c cJx35411_hasNext_aae02 1 RJx35411 (some .boolean) A D (TYS cA) ST := G
  have hx := G.1
  have hb := G.2.1
  have hS : va_S A s.heap s.heap [] := va_S.rf
  have hP : va_P D vwCl ([(y, .inr (3, [.int (nI cc0), .int lr, .int mm, .ref z])), (z, .inr (4, [.int mm, .ref q, .int (nI cc0)]))] ++ ([] : va_W)) s.heap := hP
  have hD : va_D A ([(y, .inr (3, [.int (nI cc0), .int lr, .int mm, .ref z])), (z, .inr (4, [.int mm, .ref q, .int (nI cc0)]))] ++ ([] : va_W)) := hD
  have hl : lv_has ls 1 [(0, .ref y)] := hl
  refine lv_aload_n hx hb dJx35411_hasNext_aae02_0 rfl (lv_at hl 0 rfl) ?_
  refine c_get (F := [(y, .inr (3, [.int (nI cc0), .int lr, .int mm, .ref z])), (z, .inr (4, [.int mm, .ref q, .int (nI cc0)]))]) (B := ([] : va_W)) (C := RJx35411) (T := TJx35411) (M := 4) (ci := 3) (v := .int (nI cc0)) G hP 0 0 i_Jx35411 rfl rfl (by decide) q6_75 rfl dJx35411_hasNext_aae02_1 ?_
  refine lv_aload_n hx hb dJx35411_hasNext_aae02_4 rfl (lv_at hl 0 rfl) ?_
  refine c_get (F := [(y, .inr (3, [.int (nI cc0), .int lr, .int mm, .ref z])), (z, .inr (4, [.int mm, .ref q, .int (nI cc0)]))]) (B := ([] : va_W)) (C := RJx35411) (T := TJx35411) (M := 4) (ci := 3) (v := .ref z) G hP 0 3 i_Jx35411 rfl rfl (by decide) q6_78 rfl dJx35411_hasNext_aae02_5 ?_
  refine c_getN (F := [(y, .inr (3, [.int (nI cc0), .int lr, .int mm, .ref z])), (z, .inr (4, [.int mm, .ref q, .int (nI cc0)]))]) (B := ([] : va_W)) (C := RJx4a65c) (T := TJx4a65c) (M := 3) (ci := 4) (v := .int (nI cc0)) G hP 1 2 i_Jx4a65c rfl rfl (by decide) (nf_35 G.2.2.2.2.2.2.2.2.2.1) rfl dJx35411_hasNext_aae02_8 ?_
  refine lv_icmp_eq (tgt := 18) hx hb dJx35411_hasNext_aae02_11 (by decide) (fun _ => ?_) (fun c9 => absurd rfl c9)
  refine lv_iconst (v := 0) hx hb dJx35411_hasNext_aae02_18 (by decide) ?_
  exact c_reti () rfl rfl G hP hD hS (by decide) dJx35411_hasNext_aae02_19
set_option maxHeartbeats 4000000 in
set_option maxRecDepth 100000 in
theorem mCK (l : Launch) (D : va_G) (cA : Nat → ClassId) (ST : gST) (hT : STok ST) (e0 mi : Nat) (hL : STL e0 mi ST) (y z q i cc0 : Nat) (lr mm : Int32) : gMetG l yJx35411_checkForComodification_da8c8 cJx35411_checkForComodification_da8c8 1 none 0 0 0 D (TYS cA) ST ([(y, .inr (3, [.int (nI i), .int lr, .int mm, .ref z])), (z, .inr (4, [.int mm, .ref q, .int (nI cc0)]))] ++ ([] : va_W)) [.ref y] (gGv D (TYS cA) (fun _ : Unit => True) (fun _ => [(y, .inr (3, [.int (nI i), .int lr, .int mm, .ref z])), (z, .inr (4, [.int mm, .ref q, .int (nI cc0)]))] ++ ([] : va_W))) := by
  refine g_ofWG hT (by decide +kernel) (Nat.le_of_ble_eq_true rfl) ?_
  intro p e s m args below meth c ls A G hP hD hl
  have G : GC p s m args meth c cJx35411_checkForComodification_da8c8 1 RJx35411 none A D (TYS cA) ST := G
  have hx := G.1
  have hb := G.2.1
  have hS : va_S A s.heap s.heap [] := va_S.rf
  have hP : va_P D vwCl ([(y, .inr (3, [.int (nI i), .int lr, .int mm, .ref z])), (z, .inr (4, [.int mm, .ref q, .int (nI cc0)]))] ++ ([] : va_W)) s.heap := hP
  have hD : va_D A ([(y, .inr (3, [.int (nI i), .int lr, .int mm, .ref z])), (z, .inr (4, [.int mm, .ref q, .int (nI cc0)]))] ++ ([] : va_W)) := hD
  have hl : lv_has ls 1 [(0, .ref y)] := hl
  refine lv_aload_n hx hb dJx35411_checkForComodification_da8c8_0 rfl (lv_at hl 0 rfl) ?_
  refine c_get (F := [(y, .inr (3, [.int (nI i), .int lr, .int mm, .ref z])), (z, .inr (4, [.int mm, .ref q, .int (nI cc0)]))]) (B := ([] : va_W)) (C := RJx35411) (T := TJx35411) (M := 4) (ci := 3) (v := .ref z) G hP 0 3 i_Jx35411 rfl rfl (by decide) q6_78 rfl dJx35411_checkForComodification_da8c8_1 ?_
  refine c_getS (ref := "java/util/ArrayList") (F := [(y, .inr (3, [.int (nI i), .int lr, .int mm, .ref z])), (z, .inr (4, [.int mm, .ref q, .int (nI cc0)]))]) (B := ([] : va_W)) (C := RJx4a65c) (T := TJx4a65c) (M := 3) (ci := 4) (v := .int mm) G hP 1 0 i_Jx4a65c rfl rfl (by decide) ⟨q5_218, q5_219⟩ rfl dJx35411_checkForComodification_da8c8_4 ?_
  refine lv_aload_n hx hb dJx35411_checkForComodification_da8c8_7 rfl (lv_at hl 0 rfl) ?_
  refine c_get (F := [(y, .inr (3, [.int (nI i), .int lr, .int mm, .ref z])), (z, .inr (4, [.int mm, .ref q, .int (nI cc0)]))]) (B := ([] : va_W)) (C := RJx35411) (T := TJx35411) (M := 4) (ci := 3) (v := .int mm) G hP 0 2 i_Jx35411 rfl rfl (by decide) q6_77 rfl dJx35411_checkForComodification_da8c8_8 ?_
  refine lv_icmp_eq (tgt := 22) hx hb dJx35411_checkForComodification_da8c8_11 (by decide) (fun _ => ?_) (fun c9 => absurd rfl c9)
  exact c_retv () trivial G hP hD hS (by decide) dJx35411_checkForComodification_da8c8_22
set_option maxHeartbeats 4000000 in
set_option maxRecDepth 100000 in
theorem mNX (l : Launch) (D : va_G) (cA : Nat → ClassId) (ST : gST) (hT : STok ST) (e0 mi : Nat) (hL : STL e0 mi ST) (y z q n0 i cc0 v : Nat) (g0 : Nat → Option Nat) (lr mm : Int32) (hi : i < cc0) (hc9 : cc0 ≤ n0) (hn9 : n0 ≤ 15) (hgi : g0 i = some v) : gMetG l yJx35411_next_0502b cJx35411_next_0502b 3 (some (.object "java/lang/Object")) 1 0 0 D (TYS cA) ST ([(y, .inr (3, [.int (nI i), .int lr, .int mm, .ref z])), (z, .inr (4, [.int mm, .ref q, .int (nI cc0)])), (q, .inl (cA 6, n0, .inr (.inr (.inr (.inr g0)))))] ++ ([] : va_W)) [.ref y] (gGr D (TYS cA) (fun _ : Unit => True) (fun _ => v) (fun _ => [(y, .inr (3, [.int (nI (i + 1)), .int (nI i), .int mm, .ref z])), (z, .inr (4, [.int mm, .ref q, .int (nI cc0)])), (q, .inl (cA 6, n0, .inr (.inr (.inr (.inr g0)))))] ++ ([] : va_W))) := by
  refine g_ofWG hT (by decide +kernel) (Nat.le_of_ble_eq_true rfl) ?_
  intro p e s m args below meth c ls A G hP hD hl
  have G : GC p s m args meth c cJx35411_next_0502b 3 RJx35411 (some (.object "java/lang/Object")) A D (TYS cA) ST := G
  have hx := G.1
  have hb := G.2.1
  have hS : va_S A s.heap s.heap [] := va_S.rf
  have hP : va_P D vwCl ([(y, .inr (3, [.int (nI i), .int lr, .int mm, .ref z])), (z, .inr (4, [.int mm, .ref q, .int (nI cc0)])), (q, .inl (cA 6, n0, .inr (.inr (.inr (.inr g0)))))] ++ ([] : va_W)) s.heap := hP
  have hD : va_D A ([(y, .inr (3, [.int (nI i), .int lr, .int mm, .ref z])), (z, .inr (4, [.int mm, .ref q, .int (nI cc0)])), (q, .inl (cA 6, n0, .inr (.inr (.inr (.inr g0)))))] ++ ([] : va_W)) := hD
  have hl : lv_has ls 3 [(0, .ref y)] := hl
  refine lv_aload_n hx hb dJx35411_next_0502b_0 rfl (lv_at hl 0 rfl) ?_
  refine c_callVv (nA := 0) (C := RJx35411) (T := TJx35411) (M := 4) (ci := 3) ([(q, .inl (cA 6, n0, .inr (.inr (.inr (.inr g0)))))] : va_W) (([(y, .inr (3, [.int (nI i), .int lr, .int mm, .ref z])), (z, .inr (4, [.int mm, .ref q, .int (nI cc0)]))] : va_W) ++ ([] : va_W)) 0 rfl rfl (mCK l D cA ST hT e0 mi hL y z q i cc0 lr mm) G hP hD hS (List.perm_append_comm (l₁ := ([(y, .inr (3, [.int (nI i), .int lr, .int mm, .ref z])), (z, .inr (4, [.int mm, .ref q, .int (nI cc0)]))] : va_W)) (l₂ := ([(q, .inl (cA 6, n0, .inr (.inr (.inr (.inr g0)))))] : va_W))) (g_good q6_107 q6_108 q6_109 q1_34 q6_110) (by decide +kernel) ⟨Nat.le_of_ble_eq_true rfl, Nat.le_of_ble_eq_true rfl, Nat.le_of_ble_eq_true rfl, Nat.le_of_ble_eq_true rfl⟩ rfl hl.1 [] rfl (Nat.le_of_ble_eq_true rfl) dJx35411_next_0502b_1 (fun _ H locs hok hP hD hS => ?_)
  have hP := hP.perm (List.perm_append_comm (l₁ := ([(q, .inl (cA 6, n0, .inr (.inr (.inr (.inr g0)))))] : va_W)) (l₂ := ([(y, .inr (3, [.int (nI i), .int lr, .int mm, .ref z])), (z, .inr (4, [.int mm, .ref q, .int (nI cc0)]))] : va_W)))
  have hD := hD.perm (List.perm_append_comm (l₁ := ([(q, .inl (cA 6, n0, .inr (.inr (.inr (.inr g0)))))] : va_W)) (l₂ := ([(y, .inr (3, [.int (nI i), .int lr, .int mm, .ref z])), (z, .inr (4, [.int mm, .ref q, .int (nI cc0)]))] : va_W)))
  have hP : va_P D vwCl ([(y, .inr (3, [.int (nI i), .int lr, .int mm, .ref z])), (z, .inr (4, [.int mm, .ref q, .int (nI cc0)])), (q, .inl (cA 6, n0, .inr (.inr (.inr (.inr g0)))))] ++ ([] : va_W)) H := hP
  have hD : va_D A ([(y, .inr (3, [.int (nI i), .int lr, .int mm, .ref z])), (z, .inr (4, [.int mm, .ref q, .int (nI cc0)])), (q, .inl (cA 6, n0, .inr (.inr (.inr (.inr g0)))))] ++ ([] : va_W)) := hD
  refine lv_aload_n hx hb dJx35411_next_0502b_4 rfl (lv_at hl 0 rfl) ?_
  refine c_get (F := [(y, .inr (3, [.int (nI i), .int lr, .int mm, .ref z])), (z, .inr (4, [.int mm, .ref q, .int (nI cc0)])), (q, .inl (cA 6, n0, .inr (.inr (.inr (.inr g0)))))]) (B := ([] : va_W)) (C := RJx35411) (T := TJx35411) (M := 4) (ci := 3) (v := .int (nI i)) G hP 0 0 i_Jx35411 rfl rfl (by decide) q6_75 rfl dJx35411_next_0502b_5 ?_
  refine lv_istore_n (lv' := [(1, .int (nI i)), (0, .ref y)]) hx hb dJx35411_next_0502b_8 rfl hl (by decide) rfl (fun ls hl => ?_)
  refine lv_iload_n hx hb dJx35411_next_0502b_9 rfl (lv_at hl 0 rfl) ?_
  refine lv_aload_n hx hb dJx35411_next_0502b_10 rfl (lv_at hl 1 rfl) ?_
  refine c_get (F := [(y, .inr (3, [.int (nI i), .int lr, .int mm, .ref z])), (z, .inr (4, [.int mm, .ref q, .int (nI cc0)])), (q, .inl (cA 6, n0, .inr (.inr (.inr (.inr g0)))))]) (B := ([] : va_W)) (C := RJx35411) (T := TJx35411) (M := 4) (ci := 3) (v := .ref z) G hP 0 3 i_Jx35411 rfl rfl (by decide) q6_78 rfl dJx35411_next_0502b_11 ?_
  refine c_getN (F := [(y, .inr (3, [.int (nI i), .int lr, .int mm, .ref z])), (z, .inr (4, [.int mm, .ref q, .int (nI cc0)])), (q, .inl (cA 6, n0, .inr (.inr (.inr (.inr g0)))))]) (B := ([] : va_W)) (C := RJx4a65c) (T := TJx4a65c) (M := 3) (ci := 4) (v := .int (nI cc0)) G hP 1 2 i_Jx4a65c rfl rfl (by decide) (nf_35 G.2.2.2.2.2.2.2.2.2.1) rfl dJx35411_next_0502b_14 ?_
  refine lv_icmp_lt (tgt := 28) hx hb dJx35411_next_0502b_17 (by decide) (fun _ => ?_) (fun c9 => absurd (nI_lt hi (by omega)) c9)
  refine lv_aload_n hx hb dJx35411_next_0502b_28 rfl (lv_at hl 1 rfl) ?_
  refine c_get (F := [(y, .inr (3, [.int (nI i), .int lr, .int mm, .ref z])), (z, .inr (4, [.int mm, .ref q, .int (nI cc0)])), (q, .inl (cA 6, n0, .inr (.inr (.inr (.inr g0)))))]) (B := ([] : va_W)) (C := RJx35411) (T := TJx35411) (M := 4) (ci := 3) (v := .ref z) G hP 0 3 i_Jx35411 rfl rfl (by decide) q6_78 rfl dJx35411_next_0502b_29 ?_
  refine c_get (F := [(y, .inr (3, [.int (nI i), .int lr, .int mm, .ref z])), (z, .inr (4, [.int mm, .ref q, .int (nI cc0)])), (q, .inl (cA 6, n0, .inr (.inr (.inr (.inr g0)))))]) (B := ([] : va_W)) (C := RJx4a65c) (T := TJx4a65c) (M := 3) (ci := 4) (v := .ref q) G hP 1 1 i_Jx4a65c rfl rfl (by decide) q5_214 rfl dJx35411_next_0502b_32 ?_
  refine lv_astore_n (lv' := [(2, .ref q), (1, .int (nI i)), (0, .ref y)]) hx hb dJx35411_next_0502b_35 rfl hl (by decide) rfl (fun ls hl => ?_)
  refine lv_iload_n hx hb dJx35411_next_0502b_36 rfl (lv_at hl 1 rfl) ?_
  refine lv_aload_n hx hb dJx35411_next_0502b_37 rfl (lv_at hl 0 rfl) ?_
  refine va_alen (v := nI (n0)) hx hb G.2.2.2.2.2.2.2.2.1 hP 2 6 rfl rfl rfl dJx35411_next_0502b_38 ?_
  refine lv_icmp_lt (tgt := 50) hx hb dJx35411_next_0502b_39 (by decide) (fun _ => ?_) (fun c9 => absurd (nI_lt (by omega) (by omega)) c9)
  refine lv_aload_n hx hb dJx35411_next_0502b_50 rfl (lv_at hl 2 rfl) ?_
  refine lv_iload_n hx hb dJx35411_next_0502b_51 rfl (lv_at hl 1 rfl) ?_
  refine lv_iconst (v := 1) hx hb dJx35411_next_0502b_52 (by decide) ?_
  refine lv_iadd hx hb dJx35411_next_0502b_53 ?_
  rw [show nI i + 1 = (nI (i + 1)) from nI_1 i]
  refine c_putJ (F := [(y, .inr (3, [.int (nI i), .int lr, .int mm, .ref z])), (z, .inr (4, [.int mm, .ref q, .int (nI cc0)])), (q, .inl (cA 6, n0, .inr (.inr (.inr (.inr g0)))))]) (B := ([] : va_W)) (C := RJx35411) (T := TJx35411) (M := 4) (ci := 3) (v := .int (nI (i + 1))) G hP hD hS 0 0 i_Jx35411 rfl tyJx35411 tyJx35411_ok nmJx35411 rfl (by decide) q6_75 rfl rfl rfl (Nat.le_of_ble_eq_true rfl) dJx35411_next_0502b_54 (fun H locs hP hD hS => ?_)
  have hP : va_P D vwCl ([(y, .inr (3, [.int (nI (i + 1)), .int lr, .int mm, .ref z])), (z, .inr (4, [.int mm, .ref q, .int (nI cc0)])), (q, .inl (cA 6, n0, .inr (.inr (.inr (.inr g0)))))] ++ ([] : va_W)) H := hP
  have hD : va_D A ([(y, .inr (3, [.int (nI (i + 1)), .int lr, .int mm, .ref z])), (z, .inr (4, [.int mm, .ref q, .int (nI cc0)])), (q, .inl (cA 6, n0, .inr (.inr (.inr (.inr g0)))))] ++ ([] : va_W)) := hD
  refine lv_aload_n hx hb dJx35411_next_0502b_57 rfl (lv_at hl 0 rfl) ?_
  refine lv_aload_n hx hb dJx35411_next_0502b_58 rfl (lv_at hl 2 rfl) ?_
  refine lv_iload_n hx hb dJx35411_next_0502b_59 rfl (lv_at hl 1 rfl) ?_
  refine lv_dup_x1 hx hb dJx35411_next_0502b_60 rfl rfl ?_
  refine c_putJ (F := [(y, .inr (3, [.int (nI (i + 1)), .int lr, .int mm, .ref z])), (z, .inr (4, [.int mm, .ref q, .int (nI cc0)])), (q, .inl (cA 6, n0, .inr (.inr (.inr (.inr g0)))))]) (B := ([] : va_W)) (C := RJx35411) (T := TJx35411) (M := 4) (ci := 3) (v := .int (nI i)) G hP hD hS 0 1 i_Jx35411 rfl tyJx35411 tyJx35411_ok nmJx35411 rfl (by decide) q6_76 rfl rfl rfl (Nat.le_of_ble_eq_true rfl) dJx35411_next_0502b_61 (fun H locs hP hD hS => ?_)
  have hP : va_P D vwCl ([(y, .inr (3, [.int (nI (i + 1)), .int (nI i), .int mm, .ref z])), (z, .inr (4, [.int mm, .ref q, .int (nI cc0)])), (q, .inl (cA 6, n0, .inr (.inr (.inr (.inr g0)))))] ++ ([] : va_W)) H := hP
  have hD : va_D A ([(y, .inr (3, [.int (nI (i + 1)), .int (nI i), .int mm, .ref z])), (z, .inr (4, [.int mm, .ref q, .int (nI cc0)])), (q, .inl (cA 6, n0, .inr (.inr (.inr (.inr g0)))))] ++ ([] : va_W)) := hD
  refine va_aldq hx hb G.2.2.2.2.2.2.2.2.1 hP 2 6 rfl rfl (vp_in_nI (by omega) (by omega)) dJx35411_next_0502b_64 ?_
  rw [show (nI i).toNatClampNeg = i from nI_clamp (by omega), hgi]
  exact c_reta () trivial rfl (Or.inl ⟨_, rfl⟩) G hP hD hS (by decide) dJx35411_next_0502b_65
