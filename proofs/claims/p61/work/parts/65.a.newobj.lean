section D14
variable {p : Program} {l : Launch} {e : Env} {R : Room} {s : State} {m : MethodId} {args : Array Value} {below : List Frame} {meth : Method} {c : Code} {H : Heap} {locs : List Loc} {cells slots : Nat} {Q : State → Prop}
variable {cc : ByteArray} {maxL : Nat} {ret : Option FieldType} {pc : Nat} {ls : Array Slot} {rest : List Value} {D : va_G} {A : Nat → Prop} {cA : Nat → ClassId} {F B : va_W} {ST : gST} {own : String}
theorem c_callIa {β : Type} {ok : β → Prop} {Wb : β → va_W} {y : MethodName} {bytes : ByteArray} {n d1 mc ms index q : Nat} {x : va_E} {As st0 : List Value} {nA : Nat} (hM : gMetC l y bytes n d1 mc ms D (TYS cA) ST [(q, x)] (.ref q :: As) ok Wb) (G : GC p s m args meth c cc maxL own ret A D (TYS cA) ST) (hP : va_P D vwCl ((F ++ [(q, x)]) ++ B) H) (hD : va_D A ((F ++ [(q, x)]) ++ B)) (hS : va_S A s.heap H locs)
    (hl : Cond.methodLink own index y ∈ BIG) (hin : Cond.instanceMethod y ∈ BIG) (hini : Cond.initialized y.cls ∈ BIG) (hcd : Cond.code y bytes n none ∈ BIG) (hy1 : y.name = "<init>") (hd : y.cls ≠ "java/lang/invoke/MethodHandle" ∧ y.cls ≠ "java/lang/invoke/VarHandle" ∧ (parseMethodDescriptor y.desc).map (fun d => d.parameters.length) = some nA) (hR : d1 + 1 ≤ R.frames ∧ 19 + n + 40 * d1 ≤ R.locals ∧ cells + mc ≤ R.cells ∧ slots + ms ≤ R.slots) (hn : As.length = nA) (hls : ls.size = maxL) (hst : st0 = As.reverse ++ .ref q :: rest) (hcat : (rest.map fun v => v.category).sum ≤ 8) (hdg : decode cc pc = .ok (.invokespecial index, 3))
    (kk : ∀ (b : β) (H1 : Heap) (locs1 : List Loc), ok b → va_P D vwCl (F ++ (B ++ Wb b)) H1 → va_D A (F ++ (B ++ Wb b)) → va_S A s.heap H1 locs1 → W p l e R s m args below meth c H1 locs1 (cells + mc) (slots + ms) Q (F0 m (pc + 3) ls rest)) : W p l e R s m args below meth c H locs cells slots Q (F0 m pc ls st0) := by
  obtain ⟨hx, hb, hml, hown, hts, -, hlocks, hA, hK, hN, hX, hT⟩ := G
  have hp9 : ((F ++ [(q, x)]) ++ B).Perm ((F ++ B) ++ [(q, x)]) := (fb_push F B (q, x)).symm
  have hP := hP.perm hp9
  have hD := hD.perm hp9
  have hF := fb_free hD hS hA
  have hPc : va_P D vwCl [(q, x)] H := va_P_mem.mpr fun z hz => va_P_mem.mp hP z (List.mem_append_right _ hz)
  have hDc : va_D (fun _ => True) [(q, x)] := va_D_nd.mpr ⟨by simp, fun _ _ => trivial⟩
  have hG : GoodIn BIG (.code y bytes n none :: BIG) := fun w hw => big_good w (by rcases List.mem_cons.mp hw with rfl | h; exact hcd; exact h)
  refine va_callv (va_runI (As := As) (rest := rest) ⟨hx, hb, hml, hown, hts⟩ (hM H.size) (cwI nA hts hG rfl rfl rfl (hts _ hini) (hts _ hl) (hts _ hin) hy1 hd ⟨by show d1 + 1 ≤ R.frames; exact hR.1, by show 8 + (n + 11) + 40 * d1 ≤ R.locals; omega⟩) ⟨gPre_blind hT, fun U hU hW => ⟨rfl, by rw [hU], by rw [hU]; exact hPc, va_K.moved hW.alike hK, hDc, hN.warm hW, hT.2 _ _ _ _ _ _ hX hS hU hW hF⟩⟩ rfl hn hls hst (lv_room hcat) hdg ⟨hR.2.2.1, hR.2.2.2⟩) hS (fun q _ h => hF q h) hF (fun b t H1 locs1 ht hvm hw hB hz1 hk1 hS1 => ?_)
  obtain ⟨hP1, hK1, hD1⟩ := hB
  rw [ht] at hP1
  obtain ⟨hP2, hD2⟩ := fb_join hP hD hk1 hF hP1 hD1
  rw [List.append_assoc] at hP2 hD2
  exact kk b H1 locs1 hw hP2 hD2 hS1
end D14
theorem dJ5_init_0 : decode cJ5_init_d00df 0 = .ok (.aload_n 0, 1) := by decide +kernel
theorem dJ5_init_1 : decode cJ5_init_d00df 1 = .ok (.invokespecial 3, 3) := by decide +kernel
theorem dJ5_init_4 : decode cJ5_init_d00df 4 = .ok (.getstatic 18, 3) := by decide +kernel
theorem dJ5_init_7 : decode cJ5_init_d00df 7 = .ok (.ifCond .eq 18, 3) := by decide +kernel
theorem dJ5_init_10 : decode cJ5_init_d00df 10 = .ok (.aload_n 0, 1) := by decide +kernel
theorem dJ5_init_11 : decode cJ5_init_d00df 11 = .ok (.iload_n 1, 1) := by decide +kernel
theorem dJ5_init_12 : decode cJ5_init_d00df 12 = .ok (.newarray .byte, 2) := by decide +kernel
theorem dJ5_init_14 : decode cJ5_init_d00df 14 = .ok (.putfield 15, 3) := by decide +kernel
theorem dJ5_init_17 : decode cJ5_init_d00df 17 = .ok (.aload_n 0, 1) := by decide +kernel
theorem dJ5_init_18 : decode cJ5_init_d00df 18 = .ok (.iconst 0, 1) := by decide +kernel
theorem dJ5_init_19 : decode cJ5_init_d00df 19 = .ok (.putfield 22, 3) := by decide +kernel
theorem dJ5_init_22 : decode cJ5_init_d00df 22 = .ok (.goto 16, 3) := by decide +kernel
theorem dJ5_init_38 : decode cJ5_init_d00df 38 = .ok (.return_, 1) := by decide +kernel
theorem dJ4_init_0 : decode cJ4_init_da8c8 0 = .ok (.aload_n 0, 1) := by decide +kernel
theorem dJ4_init_1 : decode cJ4_init_da8c8 1 = .ok (.bipush 16, 2) := by decide +kernel
theorem dJ4_init_3 : decode cJ4_init_da8c8 3 = .ok (.invokespecial 1, 3) := by decide +kernel
theorem dJ4_init_6 : decode cJ4_init_da8c8 6 = .ok (.return_, 1) := by decide +kernel
theorem dflt_J4 : ∀ j, j < 4 → defaultValue (tyJ4 j) = vp_V [.null, .int 0, .int 0, .int 0] j := fun j hj => by
  match j, hj with
  | 0, _ => rfl
  | 1, _ => rfl
  | 2, _ => rfl
  | 3, _ => rfl
  | j + 4, hj => omega
def sb0 (q : Nat) : SBb := (q, 16, 0, fun _ => 0)
set_option maxHeartbeats 4000000 in
set_option maxRecDepth 100000 in
theorem mJ5_init (l : Launch) (D : va_G) (cA : Nat → ClassId) (ad adF adW tt : Nat → Nat) (ST : gST) (hT : STE ad adF adW tt ST) (hW : STW adW tt ST) (h0 : Nat) : gMetC l yJ5_init_d00df cJ5_init_d00df 2 1 1 16 D (TYS cA) ST [(h0, .inr (1, [.null, .int 0, .int 0, .int 0]))] [.ref h0, .int 16] (fun _ : Nat => True) (fun q => sbC cA h0 0 (sb0 q)) := by
  refine g_ofWC hT.1 (by decide +kernel) (Nat.le_of_ble_eq_true rfl) ?_
  intro p e s m args below meth c ls A G hnm9 hP hD hl
  have G : GC p s m args meth c cJ5_init_d00df 2 RJ5 none A D (TYS cA) ST := G
  have hnm9 : meth.name = "<init>" := hnm9
  have hx := G.1
  have hb := G.2.1
  have hS : va_S A s.heap s.heap [] := va_S.rf
  have hl : lv_has ls 2 [(0, .ref h0), (1, .int 16)] := hl
  have hP : va_P D vwCl ([(h0, .inr (1, [.null, .int 0, .int 0, .int 0]))] ++ ([] : va_W)) s.heap := hP
  have hD : va_D A ([(h0, .inr (1, [.null, .int 0, .int 0, .int 0]))] ++ ([] : va_W)) := hD
  refine lv_aload_n hx hb dJ5_init_0 rfl (lv_at hl 0 rfl) ?_
  refine c_objInit G q2_26 q1_46 q1_47 hl.1 dJ5_init_1 (by decide) (Nat.le_of_ble_eq_true rfl) ?_
  refine va_gets hx hb (hW _ _ G.2.2.2.2.2.2.2.2.2.2.1).1 hS G.2.2.2.1 (G.2.2.2.2.1 _ q2_27) (fun _ h9 => h9) dJ5_init_4 ?_
  refine lv_if_eq (tgt := 25) hx hb dJ5_init_7 (by decide) (fun c9 => absurd c9 (by decide)) (fun c9 => ?_)
  refine lv_aload_n hx hb dJ5_init_10 rfl (lv_at hl 0 rfl) ?_
  refine lv_iload_n hx hb dJ5_init_11 rfl (lv_at hl 1 rfl) ?_
  refine c_newa (atype := .byte) (ty := .byte) (F := [(h0, .inr (1, [.null, .int 0, .int 0, .int 0]))]) (B := ([] : va_W)) 5 rfl (fun _ h => by cases h) G hP hD hS q2_49 rfl (16, .inl (fun _ => 0)) (fun _ => rfl) (by decide) rfl (by decide) (Nat.le_of_ble_eq_true rfl) (Nat.le_of_ble_eq_true rfl) dJ5_init_12 (fun q1 H hP hD hS => ?_)
  have hP : va_P D vwCl ([(h0, .inr (1, [.null, .int 0, .int 0, .int 0])), (q1, .inl (cA 5, 16, .inl (fun _ => 0)))] ++ ([] : va_W)) H := hP
  have hD : va_D A ([(h0, .inr (1, [.null, .int 0, .int 0, .int 0])), (q1, .inl (cA 5, 16, .inl (fun _ => 0)))] ++ ([] : va_W)) := hD
  refine c_put (F := [(h0, .inr (1, [.null, .int 0, .int 0, .int 0])), (q1, .inl (cA 5, 16, .inl (fun _ => 0)))]) (B := ([] : va_W)) (ci := 1) (v := .ref q1) hnm9 G hP hD hS 0 0 i_J4 rfl tyJ4 tyJ4_ok nmJ4 rfl (by decide) q2_36 rfl rfl rfl (Nat.le_of_ble_eq_true rfl) dJ5_init_14 (fun H locs hP hD hS => ?_)
  have hP : va_P D vwCl ([(h0, .inr (1, [.ref q1, .int 0, .int 0, .int 0])), (q1, .inl (cA 5, 16, .inl (fun _ => 0)))] ++ ([] : va_W)) H := hP
  have hD : va_D A ([(h0, .inr (1, [.ref q1, .int 0, .int 0, .int 0])), (q1, .inl (cA 5, 16, .inl (fun _ => 0)))] ++ ([] : va_W)) := hD
  refine lv_aload_n hx hb dJ5_init_17 rfl (lv_at hl 0 rfl) ?_
  refine lv_iconst (v := 0) hx hb dJ5_init_18 (by decide) ?_
  refine c_put (F := [(h0, .inr (1, [.ref q1, .int 0, .int 0, .int 0])), (q1, .inl (cA 5, 16, .inl (fun _ => 0)))]) (B := ([] : va_W)) (ci := 1) (v := .int 0) hnm9 G hP hD hS 0 1 i_J4 rfl tyJ4 tyJ4_ok nmJ4 rfl (by decide) q2_37 rfl rfl rfl (Nat.le_of_ble_eq_true rfl) dJ5_init_19 (fun H locs hP hD hS => ?_)
  have hP : va_P D vwCl ([(h0, .inr (1, [.ref q1, .int 0, .int 0, .int 0])), (q1, .inl (cA 5, 16, .inl (fun _ => 0)))] ++ ([] : va_W)) H := hP
  have hD : va_D A ([(h0, .inr (1, [.ref q1, .int 0, .int 0, .int 0])), (q1, .inl (cA 5, 16, .inl (fun _ => 0)))] ++ ([] : va_W)) := hD
  refine lv_goto (tgt := 38) hx hb dJ5_init_22 (by decide) ?_
  rw [List.append_nil] at hP hD
  exact c_ret (Wb := fun q => sbC cA h0 0 (sb0 q)) q1 trivial G hP hD hS (by decide) dJ5_init_38
set_option maxHeartbeats 4000000 in
set_option maxRecDepth 100000 in
theorem mJ4_init (l : Launch) (D : va_G) (cA : Nat → ClassId) (ad adF adW tt : Nat → Nat) (ST : gST) (hT : STE ad adF adW tt ST) (hW : STW adW tt ST) (h0 : Nat) : gMetC l yJ4_init_da8c8 cJ4_init_da8c8 1 2 1 16 D (TYS cA) ST [(h0, .inr (1, [.null, .int 0, .int 0, .int 0]))] [.ref h0] (fun _ : Nat => True) (fun q => sbC cA h0 0 (sb0 q)) := by
  refine g_ofWC hT.1 (by decide +kernel) (Nat.le_of_ble_eq_true rfl) ?_
  intro p e s m args below meth c ls A G hnm9 hP hD hl
  have G : GC p s m args meth c cJ4_init_da8c8 1 RJ4 none A D (TYS cA) ST := G
  have hx := G.1
  have hb := G.2.1
  have hS : va_S A s.heap s.heap [] := va_S.rf
  have hl : lv_has ls 1 [(0, .ref h0)] := hl
  have hP : va_P D vwCl ((([] : va_W) ++ [(h0, .inr (1, [.null, .int 0, .int 0, .int 0]))]) ++ ([] : va_W)) s.heap := hP
  have hD : va_D A ((([] : va_W) ++ [(h0, .inr (1, [.null, .int 0, .int 0, .int 0]))]) ++ ([] : va_W)) := hD
  refine lv_aload_n hx hb dJ4_init_0 rfl (lv_at hl 0 rfl) ?_
  refine lv_bipush (v := 16) hx hb dJ4_init_1 (by decide) ?_
  refine c_callIa (nA := 1) (As := [.int 16]) (F := ([] : va_W)) (B := ([] : va_W)) (mJ5_init l D cA ad adF adW tt ST hT hW h0) G hP hD hS q2_23 q2_24 q1_12 q2_25 rfl (by decide +kernel) (by decide) rfl hl.1 rfl (Nat.le_of_ble_eq_true rfl) dJ4_init_3 (fun q1 H locs _ hP hD hS => ?_)
  exact c_ret (Wb := fun q => sbC cA h0 0 (sb0 q)) q1 trivial G hP hD hS (by decide) dJ4_init_6
-- ===== the object newly made =====
theorem gws_add {lo m n : Nat} {sh : Nat → Sh} {cA : Nat → ClassId} {ad a : Nat → Nat} {σ : St} : gws lo (m + n) sh cA ad a σ = gws lo m sh cA ad a σ ++ gws (lo + m) n sh cA ad a σ := by
  unfold gws
  rw [List.range_add, List.map_append, List.map_map]
  congr 1
  apply List.map_congr_left
  intro c _
  show (a (lo + (m + c)), mkE cA ad a (sh (lo + (m + c))) (σ (lo + (m + c)))) = _
  rw [Nat.add_assoc]
theorem wc_gws {cA : Nat → ClassId} {ad a : Nat → Nat} {fr : va_W} {σ : St} : wc cA ad a fr σ = gws 0 241 shc cA ad a σ ++ fr := by
  unfold wc gwd gws
  congr 1
theorem σN0_m {i c : Nat} (hi : i < 11) (hc : c < 19) : σN0 (19 * i + c) = σM0 c := by
  funext j
  show (if 19 * i + c < 209 then σM0 ((19 * i + c) % 19) j else _) = _
  rw [if_pos (by omega), show (19 * i + c) % 19 = c by omega]
theorem mill_seg {cA : Nat → ClassId} {ad a b : Nat → Nat} {i : Nat} (hi : i < 11) (hab : ∀ c, c < 19 → a (19 * i + c) = b c) : gws 0 19 (shmill 0) cA ad b σM0 = gws (19 * i) 19 shc cA ad a σN0 := by
  unfold gws
  apply List.map_congr_left
  intro c hc
  have hc := List.mem_range.mp hc
  have e : ∀ r, r < 19 → b r = a (19 * i + r) := fun r hr => (hab r hr).symm
  rw [Nat.zero_add, shc_mill hi hc, σN0_m hi hc, hab c hc]
  congr 1
  rcases (show c = 0 ∨ c = 1 ∨ c = 7 ∨ c = 12 ∨ (c ≠ 0 ∧ c ≠ 1 ∧ c ≠ 7 ∧ c ≠ 12) by omega) with rfl | rfl | rfl | rfl | ⟨h0, h1, h7, h12⟩
  · show (Sum.inr (8, [.ref (b 1), .ref (b 7), .ref (b 12), .ref (b 16), .ref (b 17), .ref (b 18), .int (σM0 0 6)]) : va_E) = Sum.inr (8, [.ref (a (19 * i + 1)), .ref (a (19 * i + 7)), .ref (a (19 * i + 12)), .ref (a (19 * i + 16)), .ref (a (19 * i + 17)), .ref (a (19 * i + 18)), .int (σM0 0 6)])
    rw [e 1 (by omega), e 7 (by omega), e 12 (by omega), e 16 (by omega), e 17 (by omega), e 18 (by omega)]
  · show (Sum.inr (9, [.ref (b 2), .ref (b 3), .ref (b 4), .ref (b 5), .ref (b 6), .int (σM0 1 5), .int (σM0 1 6)]) : va_E) = Sum.inr (9, [.ref (a (19 * i + 2)), .ref (a (19 * i + 3)), .ref (a (19 * i + 4)), .ref (a (19 * i + 5)), .ref (a (19 * i + 6)), .int (σM0 1 5), .int (σM0 1 6)])
    rw [e 2 (by omega), e 3 (by omega), e 4 (by omega), e 5 (by omega), e 6 (by omega)]
  · show (Sum.inr (11, [.ref (b 8), .ref (b 9), .ref (b 10), .ref (b 11), .int (σM0 7 4), .int (σM0 7 5), .int (σM0 7 6)]) : va_E) = Sum.inr (11, [.ref (a (19 * i + 8)), .ref (a (19 * i + 9)), .ref (a (19 * i + 10)), .ref (a (19 * i + 11)), .int (σM0 7 4), .int (σM0 7 5), .int (σM0 7 6)])
    rw [e 8 (by omega), e 9 (by omega), e 10 (by omega), e 11 (by omega)]
  · show (Sum.inr (7, [.ref (b 13), .ref (b 14), .ref (b 15), .int (σM0 12 3)]) : va_E) = Sum.inr (7, [.ref (a (19 * i + 13)), .ref (a (19 * i + 14)), .ref (a (19 * i + 15)), .int (σM0 12 3)])
    rw [e 13 (by omega), e 14 (by omega), e 15 (by omega)]
  · rcases (show c = 2 ∨ c = 3 ∨ c = 4 ∨ c = 5 ∨ c = 6 ∨ c = 8 ∨ c = 9 ∨ c = 10 ∨ c = 11 ∨ c = 13 ∨ c = 14 ∨ c = 15 ∨ c = 16 ∨ c = 17 ∨ c = 18 by omega) with rfl | rfl | rfl | rfl | rfl | rfl | rfl | rfl | rfl | rfl | rfl | rfl | rfl | rfl | rfl <;> rfl
theorem cmd_seg {cA : Nat → ClassId} {ad a b : Nat → Nat} {i : Nat} (hi : i < 12) (h0 : a (217 + 2 * i) = b 217) (h1 : a (217 + 2 * i + 1) = b 218) : gws 217 2 shc cA ad b σC0 = gws (217 + 2 * i) 2 shc cA ad a σN0 := by
  have s0 : shc (217 + 2 * i + 0) = .inl (5, [1, 217 + 2 * i + 0 + 1 + 2]) := by
    unfold shc
    rw [if_neg (by omega), if_neg (by omega), if_pos (by omega)]
  have s1 : shc (217 + 2 * i + 1) = .inr (.inl (0, 3)) := by
    unfold shc
    rw [if_neg (by omega), if_neg (by omega), if_neg (by omega)]
  have n0 : σN0 (217 + 2 * i + 0) 0 = 7 := by
    unfold σN0
    rw [if_neg (by omega), if_neg (by omega), if_pos (by omega)]
  have n1 : σN0 (217 + 2 * i + 1) = fun _ => 0 := by
    funext j
    unfold σN0
    rw [if_neg (by omega), if_neg (by omega), if_neg (by omega)]
  show [(b 217, mkE cA ad b (shc 217) (σC0 217)), (b 218, mkE cA ad b (shc 218) (σC0 218))] = [(a (217 + 2 * i + 0), mkE cA ad a (shc (217 + 2 * i + 0)) (σN0 (217 + 2 * i + 0))), (a (217 + 2 * i + 1), mkE cA ad a (shc (217 + 2 * i + 1)) (σN0 (217 + 2 * i + 1)))]
  rw [s0, s1, n1, show a (217 + 2 * i + 0) = b 217 from h0, h1]
  have e1 : mkE cA ad a (.inl (5, [1, 217 + 2 * i + 0 + 1 + 2])) (σN0 (217 + 2 * i + 0)) = Sum.inr (5, [.ref (ad (σN0 (217 + 2 * i + 0) 0).toNatClampNeg), .ref (a (217 + 2 * i + 1))]) := rfl
  rw [e1, n0, h1]
  rfl
/-- where the object's cells lie, from where its parts lie -/
def aN0 (b1 b2 b3 : Nat → Nat) (bH : Nat → Nat → Nat) (h0 : Nat) (bq : Nat → Nat) (bT : Nat → Nat → Nat) (z : Nat) : Nat → Nat := fun k => if k < 19 then b1 k else if k < 38 then b2 (k - 19) else if k < 57 then b3 (k - 38) else if k < 209 then bH ((k - 57) / 19) ((k - 57) % 19) else if k = 209 then h0 else if k < 212 then bH 8 (k - 210) else if k < 214 then bq k else if k < 217 then bT 12 (k - 214) else if k < 241 then bT ((k - 217) / 2) (217 + (k - 217) % 2) else z
theorem up8 {f : Nat → Nat} : (va_up (va_up (va_up (va_up (va_up (va_up (va_up (va_up (fun _ => none) 0 (some (f 0))) 1 (some (f 1))) 2 (some (f 2))) 3 (some (f 3))) 4 (some (f 4))) 5 (some (f 5))) 6 (some (f 6))) 7 (some (f 7))) = fun j => if j < 8 then some (f j) else none := by
  funext j
  by_cases h : j < 8
  · rcases (show j = 0 ∨ j = 1 ∨ j = 2 ∨ j = 3 ∨ j = 4 ∨ j = 5 ∨ j = 6 ∨ j = 7 by omega) with rfl | rfl | rfl | rfl | rfl | rfl | rfl | rfl <;> rfl
  · rw [if_neg h]
    simp only [va_up]
    rw [if_neg (by omega), if_neg (by omega), if_neg (by omega), if_neg (by omega), if_neg (by omega), if_neg (by omega), if_neg (by omega), if_neg (by omega)]
theorem up12 {f : Nat → Nat} : (va_up (va_up (va_up (va_up (va_up (va_up (va_up (va_up (va_up (va_up (va_up (va_up (fun _ => none) 0 (some (f 0))) 1 (some (f 1))) 2 (some (f 2))) 3 (some (f 3))) 4 (some (f 4))) 5 (some (f 5))) 6 (some (f 6))) 7 (some (f 7))) 8 (some (f 8))) 9 (some (f 9))) 10 (some (f 10))) 11 (some (f 11))) = fun j => if j < 12 then some (f j) else none := by
  funext j
  by_cases h : j < 12
  · rcases (show j = 0 ∨ j = 1 ∨ j = 2 ∨ j = 3 ∨ j = 4 ∨ j = 5 ∨ j = 6 ∨ j = 7 ∨ j = 8 ∨ j = 9 ∨ j = 10 ∨ j = 11 by omega) with rfl | rfl | rfl | rfl | rfl | rfl | rfl | rfl | rfl | rfl | rfl | rfl <;> rfl
  · rw [if_neg h]
    simp only [va_up]
    rw [if_neg (by omega), if_neg (by omega), if_neg (by omega), if_neg (by omega), if_neg (by omega), if_neg (by omega), if_neg (by omega), if_neg (by omega), if_neg (by omega), if_neg (by omega), if_neg (by omega), if_neg (by omega)]

section N65
variable {cA : Nat → ClassId} {ad b1 b2 b3 bq : Nat → Nat} {bH bT : Nat → Nat → Nat} {h0 z : Nat}
theorem aN_1 {c : Nat} (h : c < 19) : (aN0 b1 b2 b3 bH h0 bq bT z) (19 * 0 + c) = b1 c := by
  unfold aN0
  rw [Nat.mul_zero, Nat.zero_add, if_pos h]
theorem aN_2 {c : Nat} (h : c < 19) : (aN0 b1 b2 b3 bH h0 bq bT z) (19 * 1 + c) = b2 c := by
  unfold aN0
  rw [if_neg (by omega), if_pos (by omega), show 19 * 1 + c - 19 = c by omega]
theorem aN_3 {c : Nat} (h : c < 19) : (aN0 b1 b2 b3 bH h0 bq bT z) (19 * 2 + c) = b3 c := by
  unfold aN0
  rw [if_neg (by omega), if_neg (by omega), if_pos (by omega), show 19 * 2 + c - 38 = c by omega]
theorem aN_h {i c : Nat} (hi : i < 8) (h : c < 19) : (aN0 b1 b2 b3 bH h0 bq bT z) (19 * (3 + i) + c) = bH i c := by
  unfold aN0
  rw [if_neg (by omega), if_neg (by omega), if_neg (by omega), if_pos (by omega), show (19 * (3 + i) + c - 57) / 19 = i by omega, show (19 * (3 + i) + c - 57) % 19 = c by omega]
theorem aN_c {i : Nat} (hi : i < 12) : (aN0 b1 b2 b3 bH h0 bq bT z) (217 + 2 * i) = bT i 217 ∧ (aN0 b1 b2 b3 bH h0 bq bT z) (217 + 2 * i + 1) = bT i 218 := by
  unfold aN0
  constructor
  · rw [if_neg (by omega), if_neg (by omega), if_neg (by omega), if_neg (by omega), if_neg (by omega), if_neg (by omega), if_neg (by omega), if_neg (by omega), if_pos (by omega), show (217 + 2 * i - 217) / 2 = i by omega, show 217 + (217 + 2 * i - 217) % 2 = 217 by omega]
  · rw [if_neg (by omega), if_neg (by omega), if_neg (by omega), if_neg (by omega), if_neg (by omega), if_neg (by omega), if_neg (by omega), if_neg (by omega), if_pos (by omega), show (217 + 2 * i + 1 - 217) / 2 = i by omega, show 217 + (217 + 2 * i + 1 - 217) % 2 = 218 by omega]
theorem seg_H : ([(bH 8 0, .inr (6, [.ref (bH 8 1), .int 0, .int 0])), (bH 8 1, .inl (cA 4, 8, .inr (.inr (.inr (.inr (va_up (va_up (va_up (va_up (va_up (va_up (va_up (va_up (fun _ => none) 0 (some (bH 0 0))) 1 (some (bH 1 0))) 2 (some (bH 2 0))) 3 (some (bH 3 0))) 4 (some (bH 4 0))) 5 (some (bH 5 0))) 6 (some (bH 6 0))) 7 (some (bH 7 0))))))))] : va_W) = gws 210 2 shc cA ad (aN0 b1 b2 b3 bH h0 bq bT z) σN0 := by
  rw [up8 (f := fun i => bH i 0)]
  have e : (fun j : Nat => if j < 8 then some (bH j 0) else none) = fun j => if j < 8 then some ((aN0 b1 b2 b3 bH h0 bq bT z) (57 + 19 * j)) else none := by
    funext j
    by_cases h : j < 8
    · rw [if_pos h, if_pos h, show 57 + 19 * j = 19 * (3 + j) + 0 by omega, aN_h h (by omega)]
    · rw [if_neg h, if_neg h]
  rw [e]
  rfl
theorem seg_T : ([(bT 12 0, .inr (10, [.ref (bT 12 1), .int 0, .int 0, .ref (bT 12 2), .int 0])), (bT 12 1, .inl (cA 1, 60, .inl (fun _ => 0))), (bT 12 2, .inl (cA 3, 12, .inr (.inr (.inr (.inr (va_up (va_up (va_up (va_up (va_up (va_up (va_up (va_up (va_up (va_up (va_up (va_up (fun _ => none) 0 (some (bT 0 217))) 1 (some (bT 1 217))) 2 (some (bT 2 217))) 3 (some (bT 3 217))) 4 (some (bT 4 217))) 5 (some (bT 5 217))) 6 (some (bT 6 217))) 7 (some (bT 7 217))) 8 (some (bT 8 217))) 9 (some (bT 9 217))) 10 (some (bT 10 217))) 11 (some (bT 11 217))))))))] : va_W) = gws 214 3 shc cA ad (aN0 b1 b2 b3 bH h0 bq bT z) σN0 := by
  rw [up12 (f := fun i => bT i 217)]
  have e : (fun j : Nat => if j < 12 then some (bT j 217) else none) = fun j => if j < 12 then some ((aN0 b1 b2 b3 bH h0 bq bT z) (217 + 2 * j)) else none := by
    funext j
    by_cases h : j < 12
    · rw [if_pos h, if_pos h, (aN_c h).1]
    · rw [if_neg h, if_neg h]
  rw [e]
  rfl
theorem seg_Q : gws 212 2 shc cA ad bq (fun _ _ => 0) = gws 212 2 shc cA ad (aN0 b1 b2 b3 bH h0 bq bT z) σN0 := rfl
theorem seg_O : ([(h0, .inr (13, [.ref (b1 0), .ref (b2 0), .ref (b3 0), .int 0, .ref (bH 8 0), .ref (bq 212), .ref (bT 12 0), .ref z, .int (-1), .int (-1)]))] : va_W) = gws 209 1 shc cA ad (aN0 b1 b2 b3 bH h0 bq bT z) σN0 := rfl
theorem wN_perm {SB : va_W} : List.Perm (α := Nat × va_E) ([(h0, .inr (13, [.ref (b1 0), .ref (b2 0), .ref (b3 0), .int 0, .ref (bH 8 0), .ref (bq 212), .ref (bT 12 0), .ref z, .int (-1), .int (-1)]))] ++ ((((((([] : va_W) ++ gws 0 19 (shmill 0) cA ad b1 σM0) ++ gws 0 19 (shmill 0) cA ad b2 σM0) ++ gws 0 19 (shmill 0) cA ad b3 σM0) ++ wH cA ad bH) ++ gws 212 2 shc cA ad bq (fun _ _ => 0)) ++ wT cA ad bT) ++ SB) (wc cA ad (aN0 b1 b2 b3 bH h0 bq bT z) SB σN0) := by
  unfold wH wT
  rw [seg_O (b1 := b1) (b2 := b2) (b3 := b3) (bH := bH) (bq := bq) (bT := bT) (z := z) (h0 := h0) (cA := cA) (ad := ad), seg_H (b1 := b1) (b2 := b2) (b3 := b3) (bH := bH) (bq := bq) (bT := bT) (z := z) (h0 := h0) (cA := cA) (ad := ad), seg_T (b1 := b1) (b2 := b2) (b3 := b3) (bH := bH) (bq := bq) (bT := bT) (z := z) (h0 := h0) (cA := cA) (ad := ad), seg_Q (b1 := b1) (b2 := b2) (b3 := b3) (bH := bH) (bq := bq) (bT := bT) (z := z) (h0 := h0) (cA := cA) (ad := ad)]
  rw [mill_seg (i := 0) (a := (aN0 b1 b2 b3 bH h0 bq bT z)) (by omega) (fun c h => aN_1 h), mill_seg (i := 1) (a := (aN0 b1 b2 b3 bH h0 bq bT z)) (by omega) (fun c h => aN_2 h), mill_seg (i := 2) (a := (aN0 b1 b2 b3 bH h0 bq bT z)) (by omega) (fun c h => aN_3 h)]
  rw [mill_seg (b := bH 0) (i := 3 + 0) (a := (aN0 b1 b2 b3 bH h0 bq bT z)) (by omega) (fun c h => aN_h (by omega) h), mill_seg (b := bH 1) (i := 3 + 1) (a := (aN0 b1 b2 b3 bH h0 bq bT z)) (by omega) (fun c h => aN_h (by omega) h), mill_seg (b := bH 2) (i := 3 + 2) (a := (aN0 b1 b2 b3 bH h0 bq bT z)) (by omega) (fun c h => aN_h (by omega) h), mill_seg (b := bH 3) (i := 3 + 3) (a := (aN0 b1 b2 b3 bH h0 bq bT z)) (by omega) (fun c h => aN_h (by omega) h), mill_seg (b := bH 4) (i := 3 + 4) (a := (aN0 b1 b2 b3 bH h0 bq bT z)) (by omega) (fun c h => aN_h (by omega) h), mill_seg (b := bH 5) (i := 3 + 5) (a := (aN0 b1 b2 b3 bH h0 bq bT z)) (by omega) (fun c h => aN_h (by omega) h), mill_seg (b := bH 6) (i := 3 + 6) (a := (aN0 b1 b2 b3 bH h0 bq bT z)) (by omega) (fun c h => aN_h (by omega) h), mill_seg (b := bH 7) (i := 3 + 7) (a := (aN0 b1 b2 b3 bH h0 bq bT z)) (by omega) (fun c h => aN_h (by omega) h)]
  rw [cmd_seg (b := bT 0) (i := 0) (a := (aN0 b1 b2 b3 bH h0 bq bT z)) (by omega) (aN_c (i := 0) (by omega)).1 (aN_c (i := 0) (by omega)).2, cmd_seg (b := bT 1) (i := 1) (a := (aN0 b1 b2 b3 bH h0 bq bT z)) (by omega) (aN_c (i := 1) (by omega)).1 (aN_c (i := 1) (by omega)).2, cmd_seg (b := bT 2) (i := 2) (a := (aN0 b1 b2 b3 bH h0 bq bT z)) (by omega) (aN_c (i := 2) (by omega)).1 (aN_c (i := 2) (by omega)).2, cmd_seg (b := bT 3) (i := 3) (a := (aN0 b1 b2 b3 bH h0 bq bT z)) (by omega) (aN_c (i := 3) (by omega)).1 (aN_c (i := 3) (by omega)).2, cmd_seg (b := bT 4) (i := 4) (a := (aN0 b1 b2 b3 bH h0 bq bT z)) (by omega) (aN_c (i := 4) (by omega)).1 (aN_c (i := 4) (by omega)).2, cmd_seg (b := bT 5) (i := 5) (a := (aN0 b1 b2 b3 bH h0 bq bT z)) (by omega) (aN_c (i := 5) (by omega)).1 (aN_c (i := 5) (by omega)).2, cmd_seg (b := bT 6) (i := 6) (a := (aN0 b1 b2 b3 bH h0 bq bT z)) (by omega) (aN_c (i := 6) (by omega)).1 (aN_c (i := 6) (by omega)).2, cmd_seg (b := bT 7) (i := 7) (a := (aN0 b1 b2 b3 bH h0 bq bT z)) (by omega) (aN_c (i := 7) (by omega)).1 (aN_c (i := 7) (by omega)).2, cmd_seg (b := bT 8) (i := 8) (a := (aN0 b1 b2 b3 bH h0 bq bT z)) (by omega) (aN_c (i := 8) (by omega)).1 (aN_c (i := 8) (by omega)).2, cmd_seg (b := bT 9) (i := 9) (a := (aN0 b1 b2 b3 bH h0 bq bT z)) (by omega) (aN_c (i := 9) (by omega)).1 (aN_c (i := 9) (by omega)).2, cmd_seg (b := bT 10) (i := 10) (a := (aN0 b1 b2 b3 bH h0 bq bT z)) (by omega) (aN_c (i := 10) (by omega)).1 (aN_c (i := 10) (by omega)).2, cmd_seg (b := bT 11) (i := 11) (a := (aN0 b1 b2 b3 bH h0 bq bT z)) (by omega) (aN_c (i := 11) (by omega)).1 (aN_c (i := 11) (by omega)).2]
  rw [wc_gws, show (241 : Nat) = 19 + (19 + (19 + (19 + (19 + (19 + (19 + (19 + (19 + (19 + (19 + (1 + (2 + (2 + (3 + (2 + (2 + (2 + (2 + (2 + (2 + (2 + (2 + (2 + (2 + (2 + (2)))))))))))))))))))))))))) from rfl, gws_add, gws_add, gws_add, gws_add, gws_add, gws_add, gws_add, gws_add, gws_add, gws_add, gws_add, gws_add, gws_add, gws_add, gws_add, gws_add, gws_add, gws_add, gws_add, gws_add, gws_add, gws_add, gws_add, gws_add, gws_add, gws_add]
  haveI : DecidableEq (Nat × va_E) := fun a b => Classical.propDecidable (a = b)
  refine List.perm_iff_count.mpr fun x => ?_
  simp only [List.count_append, List.count_nil, Nat.reduceAdd, Nat.reduceMul]
  omega
end N65
set_option maxHeartbeats 4000000 in
set_option maxRecDepth 100000 in
theorem mX11_init (l : Launch) (D : va_G) (cA : Nat → ClassId) (ad adF adW tt : Nat → Nat) (ST : gST) (hT : STE ad adF adW tt ST) (hW : STW adW tt ST) (hO : STO ST) (h0 : Nat) : gMetC l yX11_init cX11_init 1 5 242 2305 D (TYS cA) ST [(h0, .inr (13, [.null, .null, .null, .int 0, .null, .null, .null, .null, .int 0, .int 0]))] [.ref h0] (fun b : (Nat → Nat) × Nat => b.1 209 = h0) (fun b => wc cA ad b.1 (sbC cA (b.1 241) 0 (sb0 b.2)) σN0) := by
  refine g_ofWC hT.1 (by decide +kernel) (Nat.le_of_ble_eq_true rfl) ?_
  intro p e s m args below meth c ls A G hnm9 hP hD hl
  have G : GC p s m args meth c cX11_init 1 RX11 none A D (TYS cA) ST := G
  have hnm9 : meth.name = "<init>" := hnm9
  have hx := G.1
  have hb := G.2.1
  have hS : va_S A s.heap s.heap [] := va_S.rf
  have hl : lv_has ls 1 [(0, .ref h0)] := hl
  have hP : va_P D vwCl ([(h0, .inr (13, [.null, .null, .null, .int 0, .null, .null, .null, .null, .int 0, .int 0]))] ++ ([] : va_W)) s.heap := hP
  have hD : va_D A ([(h0, .inr (13, [.null, .null, .null, .int 0, .null, .null, .null, .null, .int 0, .int 0]))] ++ ([] : va_W)) := hD
  refine lv_aload_n hx hb dX11_init_0 rfl (lv_at hl 0 rfl) ?_
  refine c_objInit G q1_45 q1_46 q1_47 hl.1 dX11_init_1 (by decide) (Nat.le_of_ble_eq_true rfl) ?_
  refine lv_aload_n hx hb dX11_init_4 rfl (lv_at hl 0 rfl) ?_
  refine c_new (F := [(h0, .inr (13, [.null, .null, .null, .int 0, .null, .null, .null, .null, .int 0, .int 0]))]) (B := ([] : va_W)) (ci := 8) (fs := [.null, .null, .null, .null, .null, .null, .int 0]) G hP hD hS i_X6 tyX6 tyX6_ok q1_48 q1_49 q1_2 rfl (dflt_X6) (Nat.le_of_ble_eq_true rfl) (Nat.le_of_ble_eq_true rfl) dX11_init_5 (fun n1 H hP hD hS => ?_)
  have hP : va_P D vwCl ([(h0, .inr (13, [.null, .null, .null, .int 0, .null, .null, .null, .null, .int 0, .int 0])), (n1, .inr (8, [.null, .null, .null, .null, .null, .null, .int 0]))] ++ ([] : va_W)) H := hP
  have hD : va_D A ([(h0, .inr (13, [.null, .null, .null, .int 0, .null, .null, .null, .null, .int 0, .int 0])), (n1, .inr (8, [.null, .null, .null, .null, .null, .null, .int 0]))] ++ ([] : va_W)) := hD
  refine lv_dup hx hb dX11_init_8 rfl ?_
  refine c_callI (F := [(h0, .inr (13, [.null, .null, .null, .int 0, .null, .null, .null, .null, .int 0, .int 0]))]) (B := ([] : va_W)) (mX6_init l D cA ad adF adW tt ST hT n1) G hP hD hS q1_50 q1_51 q1_2 q1_52 rfl (by decide +kernel) (by decide) hl.1 (Nat.le_of_ble_eq_true rfl) dX11_init_9 (fun b1 H locs hokb1 hP hD hS => ?_)
  refine c_put (F := [(h0, .inr (13, [.null, .null, .null, .int 0, .null, .null, .null, .null, .int 0, .int 0]))]) (B := (([] : va_W) ++ gws 0 19 (shmill 0) cA ad b1 σM0)) (ci := 13) (v := .ref n1) hnm9 G hP hD hS 0 0 i_X11 rfl tyX11 tyX11_ok nmX11 rfl (by decide) q2_50 rfl rfl rfl (Nat.le_of_ble_eq_true rfl) dX11_init_12 (fun H locs hP hD hS => ?_)
  have hP : va_P D vwCl ([(h0, .inr (13, [.ref n1, .null, .null, .int 0, .null, .null, .null, .null, .int 0, .int 0]))] ++ (([] : va_W) ++ gws 0 19 (shmill 0) cA ad b1 σM0)) H := hP
  have hD : va_D A ([(h0, .inr (13, [.ref n1, .null, .null, .int 0, .null, .null, .null, .null, .int 0, .int 0]))] ++ (([] : va_W) ++ gws 0 19 (shmill 0) cA ad b1 σM0)) := hD
  refine lv_aload_n hx hb dX11_init_15 rfl (lv_at hl 0 rfl) ?_
  refine c_new (F := [(h0, .inr (13, [.ref n1, .null, .null, .int 0, .null, .null, .null, .null, .int 0, .int 0]))]) (B := (([] : va_W) ++ gws 0 19 (shmill 0) cA ad b1 σM0)) (ci := 8) (fs := [.null, .null, .null, .null, .null, .null, .int 0]) G hP hD hS i_X6 tyX6 tyX6_ok q1_48 q1_49 q1_2 rfl (dflt_X6) (Nat.le_of_ble_eq_true rfl) (Nat.le_of_ble_eq_true rfl) dX11_init_16 (fun n2 H hP hD hS => ?_)
  have hP : va_P D vwCl ([(h0, .inr (13, [.ref n1, .null, .null, .int 0, .null, .null, .null, .null, .int 0, .int 0])), (n2, .inr (8, [.null, .null, .null, .null, .null, .null, .int 0]))] ++ (([] : va_W) ++ gws 0 19 (shmill 0) cA ad b1 σM0)) H := hP
  have hD : va_D A ([(h0, .inr (13, [.ref n1, .null, .null, .int 0, .null, .null, .null, .null, .int 0, .int 0])), (n2, .inr (8, [.null, .null, .null, .null, .null, .null, .int 0]))] ++ (([] : va_W) ++ gws 0 19 (shmill 0) cA ad b1 σM0)) := hD
  refine lv_dup hx hb dX11_init_19 rfl ?_
  refine c_callI (F := [(h0, .inr (13, [.ref n1, .null, .null, .int 0, .null, .null, .null, .null, .int 0, .int 0]))]) (B := (([] : va_W) ++ gws 0 19 (shmill 0) cA ad b1 σM0)) (mX6_init l D cA ad adF adW tt ST hT n2) G hP hD hS q1_50 q1_51 q1_2 q1_52 rfl (by decide +kernel) (by decide) hl.1 (Nat.le_of_ble_eq_true rfl) dX11_init_20 (fun b2 H locs hokb2 hP hD hS => ?_)
  refine c_put (F := [(h0, .inr (13, [.ref n1, .null, .null, .int 0, .null, .null, .null, .null, .int 0, .int 0]))]) (B := ((([] : va_W) ++ gws 0 19 (shmill 0) cA ad b1 σM0) ++ gws 0 19 (shmill 0) cA ad b2 σM0)) (ci := 13) (v := .ref n2) hnm9 G hP hD hS 0 1 i_X11 rfl tyX11 tyX11_ok nmX11 rfl (by decide) q2_51 rfl rfl rfl (Nat.le_of_ble_eq_true rfl) dX11_init_23 (fun H locs hP hD hS => ?_)
  have hP : va_P D vwCl ([(h0, .inr (13, [.ref n1, .ref n2, .null, .int 0, .null, .null, .null, .null, .int 0, .int 0]))] ++ ((([] : va_W) ++ gws 0 19 (shmill 0) cA ad b1 σM0) ++ gws 0 19 (shmill 0) cA ad b2 σM0)) H := hP
  have hD : va_D A ([(h0, .inr (13, [.ref n1, .ref n2, .null, .int 0, .null, .null, .null, .null, .int 0, .int 0]))] ++ ((([] : va_W) ++ gws 0 19 (shmill 0) cA ad b1 σM0) ++ gws 0 19 (shmill 0) cA ad b2 σM0)) := hD
  refine lv_aload_n hx hb dX11_init_26 rfl (lv_at hl 0 rfl) ?_
  refine c_new (F := [(h0, .inr (13, [.ref n1, .ref n2, .null, .int 0, .null, .null, .null, .null, .int 0, .int 0]))]) (B := ((([] : va_W) ++ gws 0 19 (shmill 0) cA ad b1 σM0) ++ gws 0 19 (shmill 0) cA ad b2 σM0)) (ci := 8) (fs := [.null, .null, .null, .null, .null, .null, .int 0]) G hP hD hS i_X6 tyX6 tyX6_ok q1_48 q1_49 q1_2 rfl (dflt_X6) (Nat.le_of_ble_eq_true rfl) (Nat.le_of_ble_eq_true rfl) dX11_init_27 (fun n3 H hP hD hS => ?_)
  have hP : va_P D vwCl ([(h0, .inr (13, [.ref n1, .ref n2, .null, .int 0, .null, .null, .null, .null, .int 0, .int 0])), (n3, .inr (8, [.null, .null, .null, .null, .null, .null, .int 0]))] ++ ((([] : va_W) ++ gws 0 19 (shmill 0) cA ad b1 σM0) ++ gws 0 19 (shmill 0) cA ad b2 σM0)) H := hP
  have hD : va_D A ([(h0, .inr (13, [.ref n1, .ref n2, .null, .int 0, .null, .null, .null, .null, .int 0, .int 0])), (n3, .inr (8, [.null, .null, .null, .null, .null, .null, .int 0]))] ++ ((([] : va_W) ++ gws 0 19 (shmill 0) cA ad b1 σM0) ++ gws 0 19 (shmill 0) cA ad b2 σM0)) := hD
  refine lv_dup hx hb dX11_init_30 rfl ?_
  refine c_callI (F := [(h0, .inr (13, [.ref n1, .ref n2, .null, .int 0, .null, .null, .null, .null, .int 0, .int 0]))]) (B := ((([] : va_W) ++ gws 0 19 (shmill 0) cA ad b1 σM0) ++ gws 0 19 (shmill 0) cA ad b2 σM0)) (mX6_init l D cA ad adF adW tt ST hT n3) G hP hD hS q1_50 q1_51 q1_2 q1_52 rfl (by decide +kernel) (by decide) hl.1 (Nat.le_of_ble_eq_true rfl) dX11_init_31 (fun b3 H locs hokb3 hP hD hS => ?_)
  refine c_put (F := [(h0, .inr (13, [.ref n1, .ref n2, .null, .int 0, .null, .null, .null, .null, .int 0, .int 0]))]) (B := (((([] : va_W) ++ gws 0 19 (shmill 0) cA ad b1 σM0) ++ gws 0 19 (shmill 0) cA ad b2 σM0) ++ gws 0 19 (shmill 0) cA ad b3 σM0)) (ci := 13) (v := .ref n3) hnm9 G hP hD hS 0 2 i_X11 rfl tyX11 tyX11_ok nmX11 rfl (by decide) q2_52 rfl rfl rfl (Nat.le_of_ble_eq_true rfl) dX11_init_34 (fun H locs hP hD hS => ?_)
  have hP : va_P D vwCl ([(h0, .inr (13, [.ref n1, .ref n2, .ref n3, .int 0, .null, .null, .null, .null, .int 0, .int 0]))] ++ (((([] : va_W) ++ gws 0 19 (shmill 0) cA ad b1 σM0) ++ gws 0 19 (shmill 0) cA ad b2 σM0) ++ gws 0 19 (shmill 0) cA ad b3 σM0)) H := hP
  have hD : va_D A ([(h0, .inr (13, [.ref n1, .ref n2, .ref n3, .int 0, .null, .null, .null, .null, .int 0, .int 0]))] ++ (((([] : va_W) ++ gws 0 19 (shmill 0) cA ad b1 σM0) ++ gws 0 19 (shmill 0) cA ad b2 σM0) ++ gws 0 19 (shmill 0) cA ad b3 σM0)) := hD
  refine lv_aload_n hx hb dX11_init_37 rfl (lv_at hl 0 rfl) ?_
  refine lv_iconst (v := 0) hx hb dX11_init_38 (by decide) ?_
  refine c_put (F := [(h0, .inr (13, [.ref n1, .ref n2, .ref n3, .int 0, .null, .null, .null, .null, .int 0, .int 0]))]) (B := (((([] : va_W) ++ gws 0 19 (shmill 0) cA ad b1 σM0) ++ gws 0 19 (shmill 0) cA ad b2 σM0) ++ gws 0 19 (shmill 0) cA ad b3 σM0)) (ci := 13) (v := .int 0) hnm9 G hP hD hS 0 3 i_X11 rfl tyX11 tyX11_ok nmX11 rfl (by decide) q2_53 rfl rfl rfl (Nat.le_of_ble_eq_true rfl) dX11_init_39 (fun H locs hP hD hS => ?_)
  have hP : va_P D vwCl ([(h0, .inr (13, [.ref n1, .ref n2, .ref n3, .int 0, .null, .null, .null, .null, .int 0, .int 0]))] ++ (((([] : va_W) ++ gws 0 19 (shmill 0) cA ad b1 σM0) ++ gws 0 19 (shmill 0) cA ad b2 σM0) ++ gws 0 19 (shmill 0) cA ad b3 σM0)) H := hP
  have hD : va_D A ([(h0, .inr (13, [.ref n1, .ref n2, .ref n3, .int 0, .null, .null, .null, .null, .int 0, .int 0]))] ++ (((([] : va_W) ++ gws 0 19 (shmill 0) cA ad b1 σM0) ++ gws 0 19 (shmill 0) cA ad b2 σM0) ++ gws 0 19 (shmill 0) cA ad b3 σM0)) := hD
  refine lv_aload_n hx hb dX11_init_42 rfl (lv_at hl 0 rfl) ?_
  refine c_new (F := [(h0, .inr (13, [.ref n1, .ref n2, .ref n3, .int 0, .null, .null, .null, .null, .int 0, .int 0]))]) (B := (((([] : va_W) ++ gws 0 19 (shmill 0) cA ad b1 σM0) ++ gws 0 19 (shmill 0) cA ad b2 σM0) ++ gws 0 19 (shmill 0) cA ad b3 σM0)) (ci := 6) (fs := [.null, .int 0, .int 0]) G hP hD hS i_X3 tyX3 tyX3_ok q1_179 q1_180 q1_6 rfl (dflt_X3) (Nat.le_of_ble_eq_true rfl) (Nat.le_of_ble_eq_true rfl) dX11_init_43 (fun n4 H hP hD hS => ?_)
  have hP : va_P D vwCl ([(h0, .inr (13, [.ref n1, .ref n2, .ref n3, .int 0, .null, .null, .null, .null, .int 0, .int 0])), (n4, .inr (6, [.null, .int 0, .int 0]))] ++ (((([] : va_W) ++ gws 0 19 (shmill 0) cA ad b1 σM0) ++ gws 0 19 (shmill 0) cA ad b2 σM0) ++ gws 0 19 (shmill 0) cA ad b3 σM0)) H := hP
  have hD : va_D A ([(h0, .inr (13, [.ref n1, .ref n2, .ref n3, .int 0, .null, .null, .null, .null, .int 0, .int 0])), (n4, .inr (6, [.null, .int 0, .int 0]))] ++ (((([] : va_W) ++ gws 0 19 (shmill 0) cA ad b1 σM0) ++ gws 0 19 (shmill 0) cA ad b2 σM0) ++ gws 0 19 (shmill 0) cA ad b3 σM0)) := hD
  refine lv_dup hx hb dX11_init_46 rfl ?_
  refine c_callI (F := [(h0, .inr (13, [.ref n1, .ref n2, .ref n3, .int 0, .null, .null, .null, .null, .int 0, .int 0]))]) (B := (((([] : va_W) ++ gws 0 19 (shmill 0) cA ad b1 σM0) ++ gws 0 19 (shmill 0) cA ad b2 σM0) ++ gws 0 19 (shmill 0) cA ad b3 σM0)) (mX3_init l D cA ad adF adW tt ST hT hO n4) G hP hD hS q1_181 q1_182 q1_6 q1_183 rfl (by decide +kernel) (by decide) hl.1 (Nat.le_of_ble_eq_true rfl) dX11_init_47 (fun bH H locs hokbH hP hD hS => ?_)
  refine c_put (F := [(h0, .inr (13, [.ref n1, .ref n2, .ref n3, .int 0, .null, .null, .null, .null, .int 0, .int 0]))]) (B := ((((([] : va_W) ++ gws 0 19 (shmill 0) cA ad b1 σM0) ++ gws 0 19 (shmill 0) cA ad b2 σM0) ++ gws 0 19 (shmill 0) cA ad b3 σM0) ++ wH cA ad bH)) (ci := 13) (v := .ref n4) hnm9 G hP hD hS 0 4 i_X11 rfl tyX11 tyX11_ok nmX11 rfl (by decide) q2_54 rfl rfl rfl (Nat.le_of_ble_eq_true rfl) dX11_init_50 (fun H locs hP hD hS => ?_)
  have hP : va_P D vwCl ([(h0, .inr (13, [.ref n1, .ref n2, .ref n3, .int 0, .ref n4, .null, .null, .null, .int 0, .int 0]))] ++ ((((([] : va_W) ++ gws 0 19 (shmill 0) cA ad b1 σM0) ++ gws 0 19 (shmill 0) cA ad b2 σM0) ++ gws 0 19 (shmill 0) cA ad b3 σM0) ++ wH cA ad bH)) H := hP
  have hD : va_D A ([(h0, .inr (13, [.ref n1, .ref n2, .ref n3, .int 0, .ref n4, .null, .null, .null, .int 0, .int 0]))] ++ ((((([] : va_W) ++ gws 0 19 (shmill 0) cA ad b1 σM0) ++ gws 0 19 (shmill 0) cA ad b2 σM0) ++ gws 0 19 (shmill 0) cA ad b3 σM0) ++ wH cA ad bH)) := hD
  refine lv_aload_n hx hb dX11_init_53 rfl (lv_at hl 0 rfl) ?_
  refine c_new (F := [(h0, .inr (13, [.ref n1, .ref n2, .ref n3, .int 0, .ref n4, .null, .null, .null, .int 0, .int 0]))]) (B := ((((([] : va_W) ++ gws 0 19 (shmill 0) cA ad b1 σM0) ++ gws 0 19 (shmill 0) cA ad b2 σM0) ++ gws 0 19 (shmill 0) cA ad b3 σM0) ++ wH cA ad bH)) (ci := 12) (fs := [.null, .int 0]) G hP hD hS i_X10 tyX10 tyX10_ok q1_199 q1_200 q1_7 rfl (dflt_X10) (Nat.le_of_ble_eq_true rfl) (Nat.le_of_ble_eq_true rfl) dX11_init_54 (fun n5 H hP hD hS => ?_)
  have hP : va_P D vwCl ([(h0, .inr (13, [.ref n1, .ref n2, .ref n3, .int 0, .ref n4, .null, .null, .null, .int 0, .int 0])), (n5, .inr (12, [.null, .int 0]))] ++ ((((([] : va_W) ++ gws 0 19 (shmill 0) cA ad b1 σM0) ++ gws 0 19 (shmill 0) cA ad b2 σM0) ++ gws 0 19 (shmill 0) cA ad b3 σM0) ++ wH cA ad bH)) H := hP
  have hD : va_D A ([(h0, .inr (13, [.ref n1, .ref n2, .ref n3, .int 0, .ref n4, .null, .null, .null, .int 0, .int 0])), (n5, .inr (12, [.null, .int 0]))] ++ ((((([] : va_W) ++ gws 0 19 (shmill 0) cA ad b1 σM0) ++ gws 0 19 (shmill 0) cA ad b2 σM0) ++ gws 0 19 (shmill 0) cA ad b3 σM0) ++ wH cA ad bH)) := hD
  refine lv_dup hx hb dX11_init_57 rfl ?_
  refine c_callIN (F := [(h0, .inr (13, [.ref n1, .ref n2, .ref n3, .int 0, .ref n4, .null, .null, .null, .int 0, .int 0]))]) (B := ((((([] : va_W) ++ gws 0 19 (shmill 0) cA ad b1 σM0) ++ gws 0 19 (shmill 0) cA ad b2 σM0) ++ gws 0 19 (shmill 0) cA ad b3 σM0) ++ wH cA ad bH)) (mX10_init l D cA ad adF adW tt ST hT n5) G hP hD hS (nm_3 G.2.2.2.2.2.2.2.2.2.1) q1_202 q1_7 q1_203 rfl (by decide +kernel) (by decide) hl.1 (Nat.le_of_ble_eq_true rfl) dX11_init_58 (fun bq H locs hokbq hP hD hS => ?_)
  refine c_put (F := [(h0, .inr (13, [.ref n1, .ref n2, .ref n3, .int 0, .ref n4, .null, .null, .null, .int 0, .int 0]))]) (B := (((((([] : va_W) ++ gws 0 19 (shmill 0) cA ad b1 σM0) ++ gws 0 19 (shmill 0) cA ad b2 σM0) ++ gws 0 19 (shmill 0) cA ad b3 σM0) ++ wH cA ad bH) ++ gws 212 2 shc cA ad bq (fun _ _ => 0))) (ci := 13) (v := .ref n5) hnm9 G hP hD hS 0 5 i_X11 rfl tyX11 tyX11_ok nmX11 rfl (by decide) q2_55 rfl rfl rfl (Nat.le_of_ble_eq_true rfl) dX11_init_61 (fun H locs hP hD hS => ?_)
  have hP : va_P D vwCl ([(h0, .inr (13, [.ref n1, .ref n2, .ref n3, .int 0, .ref n4, .ref n5, .null, .null, .int 0, .int 0]))] ++ (((((([] : va_W) ++ gws 0 19 (shmill 0) cA ad b1 σM0) ++ gws 0 19 (shmill 0) cA ad b2 σM0) ++ gws 0 19 (shmill 0) cA ad b3 σM0) ++ wH cA ad bH) ++ gws 212 2 shc cA ad bq (fun _ _ => 0))) H := hP
  have hD : va_D A ([(h0, .inr (13, [.ref n1, .ref n2, .ref n3, .int 0, .ref n4, .ref n5, .null, .null, .int 0, .int 0]))] ++ (((((([] : va_W) ++ gws 0 19 (shmill 0) cA ad b1 σM0) ++ gws 0 19 (shmill 0) cA ad b2 σM0) ++ gws 0 19 (shmill 0) cA ad b3 σM0) ++ wH cA ad bH) ++ gws 212 2 shc cA ad bq (fun _ _ => 0))) := hD
  refine lv_aload_n hx hb dX11_init_64 rfl (lv_at hl 0 rfl) ?_
  refine c_new (F := [(h0, .inr (13, [.ref n1, .ref n2, .ref n3, .int 0, .ref n4, .ref n5, .null, .null, .int 0, .int 0]))]) (B := (((((([] : va_W) ++ gws 0 19 (shmill 0) cA ad b1 σM0) ++ gws 0 19 (shmill 0) cA ad b2 σM0) ++ gws 0 19 (shmill 0) cA ad b3 σM0) ++ wH cA ad bH) ++ gws 212 2 shc cA ad bq (fun _ _ => 0))) (ci := 10) (fs := [.null, .int 0, .int 0, .null, .int 0]) G hP hD hS i_X8 tyX8 tyX8_ok q1_212 q1_213 q1_8 rfl (dflt_X8) (Nat.le_of_ble_eq_true rfl) (Nat.le_of_ble_eq_true rfl) dX11_init_65 (fun n6 H hP hD hS => ?_)
  have hP : va_P D vwCl ([(h0, .inr (13, [.ref n1, .ref n2, .ref n3, .int 0, .ref n4, .ref n5, .null, .null, .int 0, .int 0])), (n6, .inr (10, [.null, .int 0, .int 0, .null, .int 0]))] ++ (((((([] : va_W) ++ gws 0 19 (shmill 0) cA ad b1 σM0) ++ gws 0 19 (shmill 0) cA ad b2 σM0) ++ gws 0 19 (shmill 0) cA ad b3 σM0) ++ wH cA ad bH) ++ gws 212 2 shc cA ad bq (fun _ _ => 0))) H := hP
  have hD : va_D A ([(h0, .inr (13, [.ref n1, .ref n2, .ref n3, .int 0, .ref n4, .ref n5, .null, .null, .int 0, .int 0])), (n6, .inr (10, [.null, .int 0, .int 0, .null, .int 0]))] ++ (((((([] : va_W) ++ gws 0 19 (shmill 0) cA ad b1 σM0) ++ gws 0 19 (shmill 0) cA ad b2 σM0) ++ gws 0 19 (shmill 0) cA ad b3 σM0) ++ wH cA ad bH) ++ gws 212 2 shc cA ad bq (fun _ _ => 0))) := hD
  refine lv_dup hx hb dX11_init_68 rfl ?_
  refine c_callI (F := [(h0, .inr (13, [.ref n1, .ref n2, .ref n3, .int 0, .ref n4, .ref n5, .null, .null, .int 0, .int 0]))]) (B := (((((([] : va_W) ++ gws 0 19 (shmill 0) cA ad b1 σM0) ++ gws 0 19 (shmill 0) cA ad b2 σM0) ++ gws 0 19 (shmill 0) cA ad b3 σM0) ++ wH cA ad bH) ++ gws 212 2 shc cA ad bq (fun _ _ => 0))) (mX8_init l D cA ad adF adW tt ST hT hO n6) G hP hD hS q1_214 q1_215 q1_8 q1_216 rfl (by decide +kernel) (by decide) hl.1 (Nat.le_of_ble_eq_true rfl) dX11_init_69 (fun bT H locs hokbT hP hD hS => ?_)
  refine c_put (F := [(h0, .inr (13, [.ref n1, .ref n2, .ref n3, .int 0, .ref n4, .ref n5, .null, .null, .int 0, .int 0]))]) (B := ((((((([] : va_W) ++ gws 0 19 (shmill 0) cA ad b1 σM0) ++ gws 0 19 (shmill 0) cA ad b2 σM0) ++ gws 0 19 (shmill 0) cA ad b3 σM0) ++ wH cA ad bH) ++ gws 212 2 shc cA ad bq (fun _ _ => 0)) ++ wT cA ad bT)) (ci := 13) (v := .ref n6) hnm9 G hP hD hS 0 6 i_X11 rfl tyX11 tyX11_ok nmX11 rfl (by decide) q2_56 rfl rfl rfl (Nat.le_of_ble_eq_true rfl) dX11_init_72 (fun H locs hP hD hS => ?_)
  have hP : va_P D vwCl ([(h0, .inr (13, [.ref n1, .ref n2, .ref n3, .int 0, .ref n4, .ref n5, .ref n6, .null, .int 0, .int 0]))] ++ ((((((([] : va_W) ++ gws 0 19 (shmill 0) cA ad b1 σM0) ++ gws 0 19 (shmill 0) cA ad b2 σM0) ++ gws 0 19 (shmill 0) cA ad b3 σM0) ++ wH cA ad bH) ++ gws 212 2 shc cA ad bq (fun _ _ => 0)) ++ wT cA ad bT)) H := hP
  have hD : va_D A ([(h0, .inr (13, [.ref n1, .ref n2, .ref n3, .int 0, .ref n4, .ref n5, .ref n6, .null, .int 0, .int 0]))] ++ ((((((([] : va_W) ++ gws 0 19 (shmill 0) cA ad b1 σM0) ++ gws 0 19 (shmill 0) cA ad b2 σM0) ++ gws 0 19 (shmill 0) cA ad b3 σM0) ++ wH cA ad bH) ++ gws 212 2 shc cA ad bq (fun _ _ => 0)) ++ wT cA ad bT)) := hD
  refine lv_aload_n hx hb dX11_init_75 rfl (lv_at hl 0 rfl) ?_
  refine c_new (F := [(h0, .inr (13, [.ref n1, .ref n2, .ref n3, .int 0, .ref n4, .ref n5, .ref n6, .null, .int 0, .int 0]))]) (B := ((((((([] : va_W) ++ gws 0 19 (shmill 0) cA ad b1 σM0) ++ gws 0 19 (shmill 0) cA ad b2 σM0) ++ gws 0 19 (shmill 0) cA ad b3 σM0) ++ wH cA ad bH) ++ gws 212 2 shc cA ad bq (fun _ _ => 0)) ++ wT cA ad bT)) (ci := 1) (fs := [.null, .int 0, .int 0, .int 0]) G hP hD hS i_J4 tyJ4 tyJ4_ok q2_18 q2_19 q1_13 rfl (dflt_J4) (Nat.le_of_ble_eq_true rfl) (Nat.le_of_ble_eq_true rfl) dX11_init_76 (fun n7 H hP hD hS => ?_)
  have hP : va_P D vwCl ([(h0, .inr (13, [.ref n1, .ref n2, .ref n3, .int 0, .ref n4, .ref n5, .ref n6, .null, .int 0, .int 0])), (n7, .inr (1, [.null, .int 0, .int 0, .int 0]))] ++ ((((((([] : va_W) ++ gws 0 19 (shmill 0) cA ad b1 σM0) ++ gws 0 19 (shmill 0) cA ad b2 σM0) ++ gws 0 19 (shmill 0) cA ad b3 σM0) ++ wH cA ad bH) ++ gws 212 2 shc cA ad bq (fun _ _ => 0)) ++ wT cA ad bT)) H := hP
  have hD : va_D A ([(h0, .inr (13, [.ref n1, .ref n2, .ref n3, .int 0, .ref n4, .ref n5, .ref n6, .null, .int 0, .int 0])), (n7, .inr (1, [.null, .int 0, .int 0, .int 0]))] ++ ((((((([] : va_W) ++ gws 0 19 (shmill 0) cA ad b1 σM0) ++ gws 0 19 (shmill 0) cA ad b2 σM0) ++ gws 0 19 (shmill 0) cA ad b3 σM0) ++ wH cA ad bH) ++ gws 212 2 shc cA ad bq (fun _ _ => 0)) ++ wT cA ad bT)) := hD
  refine lv_dup hx hb dX11_init_79 rfl ?_
  refine c_callI (F := [(h0, .inr (13, [.ref n1, .ref n2, .ref n3, .int 0, .ref n4, .ref n5, .ref n6, .null, .int 0, .int 0]))]) (B := ((((((([] : va_W) ++ gws 0 19 (shmill 0) cA ad b1 σM0) ++ gws 0 19 (shmill 0) cA ad b2 σM0) ++ gws 0 19 (shmill 0) cA ad b3 σM0) ++ wH cA ad bH) ++ gws 212 2 shc cA ad bq (fun _ _ => 0)) ++ wT cA ad bT)) (mJ4_init l D cA ad adF adW tt ST hT hW n7) G hP hD hS q2_20 q2_21 q1_13 q2_22 rfl (by decide +kernel) (by decide) hl.1 (Nat.le_of_ble_eq_true rfl) dX11_init_80 (fun q7 H locs hokq7 hP hD hS => ?_)
  refine c_put (F := [(h0, .inr (13, [.ref n1, .ref n2, .ref n3, .int 0, .ref n4, .ref n5, .ref n6, .null, .int 0, .int 0]))]) (B := (((((((([] : va_W) ++ gws 0 19 (shmill 0) cA ad b1 σM0) ++ gws 0 19 (shmill 0) cA ad b2 σM0) ++ gws 0 19 (shmill 0) cA ad b3 σM0) ++ wH cA ad bH) ++ gws 212 2 shc cA ad bq (fun _ _ => 0)) ++ wT cA ad bT) ++ sbC cA n7 0 (sb0 q7))) (ci := 13) (v := .ref n7) hnm9 G hP hD hS 0 7 i_X11 rfl tyX11 tyX11_ok nmX11 rfl (by decide) q2_57 rfl rfl rfl (Nat.le_of_ble_eq_true rfl) dX11_init_83 (fun H locs hP hD hS => ?_)
  have hP : va_P D vwCl ([(h0, .inr (13, [.ref n1, .ref n2, .ref n3, .int 0, .ref n4, .ref n5, .ref n6, .ref n7, .int 0, .int 0]))] ++ (((((((([] : va_W) ++ gws 0 19 (shmill 0) cA ad b1 σM0) ++ gws 0 19 (shmill 0) cA ad b2 σM0) ++ gws 0 19 (shmill 0) cA ad b3 σM0) ++ wH cA ad bH) ++ gws 212 2 shc cA ad bq (fun _ _ => 0)) ++ wT cA ad bT) ++ sbC cA n7 0 (sb0 q7))) H := hP
  have hD : va_D A ([(h0, .inr (13, [.ref n1, .ref n2, .ref n3, .int 0, .ref n4, .ref n5, .ref n6, .ref n7, .int 0, .int 0]))] ++ (((((((([] : va_W) ++ gws 0 19 (shmill 0) cA ad b1 σM0) ++ gws 0 19 (shmill 0) cA ad b2 σM0) ++ gws 0 19 (shmill 0) cA ad b3 σM0) ++ wH cA ad bH) ++ gws 212 2 shc cA ad bq (fun _ _ => 0)) ++ wT cA ad bT) ++ sbC cA n7 0 (sb0 q7))) := hD
  refine lv_aload_n hx hb dX11_init_86 rfl (lv_at hl 0 rfl) ?_
  refine lv_iconst (v := -1) hx hb dX11_init_87 (by decide) ?_
  refine c_put (F := [(h0, .inr (13, [.ref n1, .ref n2, .ref n3, .int 0, .ref n4, .ref n5, .ref n6, .ref n7, .int 0, .int 0]))]) (B := (((((((([] : va_W) ++ gws 0 19 (shmill 0) cA ad b1 σM0) ++ gws 0 19 (shmill 0) cA ad b2 σM0) ++ gws 0 19 (shmill 0) cA ad b3 σM0) ++ wH cA ad bH) ++ gws 212 2 shc cA ad bq (fun _ _ => 0)) ++ wT cA ad bT) ++ sbC cA n7 0 (sb0 q7))) (ci := 13) (v := .int (-1)) hnm9 G hP hD hS 0 8 i_X11 rfl tyX11 tyX11_ok nmX11 rfl (by decide) q2_58 rfl rfl rfl (Nat.le_of_ble_eq_true rfl) dX11_init_88 (fun H locs hP hD hS => ?_)
  have hP : va_P D vwCl ([(h0, .inr (13, [.ref n1, .ref n2, .ref n3, .int 0, .ref n4, .ref n5, .ref n6, .ref n7, .int (-1), .int 0]))] ++ (((((((([] : va_W) ++ gws 0 19 (shmill 0) cA ad b1 σM0) ++ gws 0 19 (shmill 0) cA ad b2 σM0) ++ gws 0 19 (shmill 0) cA ad b3 σM0) ++ wH cA ad bH) ++ gws 212 2 shc cA ad bq (fun _ _ => 0)) ++ wT cA ad bT) ++ sbC cA n7 0 (sb0 q7))) H := hP
  have hD : va_D A ([(h0, .inr (13, [.ref n1, .ref n2, .ref n3, .int 0, .ref n4, .ref n5, .ref n6, .ref n7, .int (-1), .int 0]))] ++ (((((((([] : va_W) ++ gws 0 19 (shmill 0) cA ad b1 σM0) ++ gws 0 19 (shmill 0) cA ad b2 σM0) ++ gws 0 19 (shmill 0) cA ad b3 σM0) ++ wH cA ad bH) ++ gws 212 2 shc cA ad bq (fun _ _ => 0)) ++ wT cA ad bT) ++ sbC cA n7 0 (sb0 q7))) := hD
  refine lv_aload_n hx hb dX11_init_91 rfl (lv_at hl 0 rfl) ?_
  refine lv_iconst (v := -1) hx hb dX11_init_92 (by decide) ?_
  refine c_put (F := [(h0, .inr (13, [.ref n1, .ref n2, .ref n3, .int 0, .ref n4, .ref n5, .ref n6, .ref n7, .int (-1), .int 0]))]) (B := (((((((([] : va_W) ++ gws 0 19 (shmill 0) cA ad b1 σM0) ++ gws 0 19 (shmill 0) cA ad b2 σM0) ++ gws 0 19 (shmill 0) cA ad b3 σM0) ++ wH cA ad bH) ++ gws 212 2 shc cA ad bq (fun _ _ => 0)) ++ wT cA ad bT) ++ sbC cA n7 0 (sb0 q7))) (ci := 13) (v := .int (-1)) hnm9 G hP hD hS 0 9 i_X11 rfl tyX11 tyX11_ok nmX11 rfl (by decide) q2_59 rfl rfl rfl (Nat.le_of_ble_eq_true rfl) dX11_init_93 (fun H locs hP hD hS => ?_)
  have hP : va_P D vwCl ([(h0, .inr (13, [.ref n1, .ref n2, .ref n3, .int 0, .ref n4, .ref n5, .ref n6, .ref n7, .int (-1), .int (-1)]))] ++ (((((((([] : va_W) ++ gws 0 19 (shmill 0) cA ad b1 σM0) ++ gws 0 19 (shmill 0) cA ad b2 σM0) ++ gws 0 19 (shmill 0) cA ad b3 σM0) ++ wH cA ad bH) ++ gws 212 2 shc cA ad bq (fun _ _ => 0)) ++ wT cA ad bT) ++ sbC cA n7 0 (sb0 q7))) H := hP
  have hD : va_D A ([(h0, .inr (13, [.ref n1, .ref n2, .ref n3, .int 0, .ref n4, .ref n5, .ref n6, .ref n7, .int (-1), .int (-1)]))] ++ (((((((([] : va_W) ++ gws 0 19 (shmill 0) cA ad b1 σM0) ++ gws 0 19 (shmill 0) cA ad b2 σM0) ++ gws 0 19 (shmill 0) cA ad b3 σM0) ++ wH cA ad bH) ++ gws 212 2 shc cA ad bq (fun _ _ => 0)) ++ wT cA ad bT) ++ sbC cA n7 0 (sb0 q7))) := hD
  have hp9 := wN_perm (cA := cA) (ad := ad) (b1 := b1) (b2 := b2) (b3 := b3) (bH := bH) (bq := bq) (bT := bT) (h0 := h0) (z := n7) (SB := sbC cA n7 0 (sb0 q7))
  rw [hokb1, hokb2, hokb3, hokbH, hokbq, hokbT] at hp9
  exact c_ret (Wb := fun b : (Nat → Nat) × Nat => wc cA ad b.1 (sbC cA (b.1 241) 0 (sb0 b.2)) σN0) (aN0 b1 b2 b3 bH h0 bq bT n7, q7) rfl G (hP.perm hp9) (hD.perm hp9) hS (by decide) dX11_init_96
