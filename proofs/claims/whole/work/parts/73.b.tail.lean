-- ===== the law's loop: the ends of the rounds =====
section T73
variable {p : Program} {l : Launch} {e : Env} {s : State} {m : MethodId} {args : Array Value} {below : List Frame} {meth : Method} {c : Code} {H : Heap} {locs : List Loc} {cells slots : Nat} {Q : State → Prop}
variable {pc : Nat} {ls : Array Slot} {rest : List Value} {D : va_G} {A : Nat → Prop} {cA : Nat → ClassId} {ad adF adW tt a : Nat → Nat} {ao ao2 : Nat} {ad2 a2 : Nat → Nat} {bb L : Nat} {xs : Nat → Int32}
variable {C N : Nat} {b : SBb} {g : Nat → Int64} {gd : Nat → UInt64} {σ s' : St} {T : List Nat}
theorem la_thr (K : LC p l s m args meth c D A cA ad adF adW tt bb L xs) (hP : va_P D vwCl (LW cA ad a ao g N b ao2 gd ad2 a2 σ s') H) (hD : va_D A (LW cA ad a ao g N b ao2 gd ad2 a2 σ s')) (hS : va_S A s.heap H locs) (hc1 : cells ≤ 60000) (hc2 : slots ≤ 600000) (hls : ls.size = 9) {k : Int32} (hk : s' 0 13 = k) (h2 : ls[2]? = some (.val (.ref (a2 0)))) (h6 : ls[6]? = some (.val (.int k))) (t0 : decode cL_law pc = .ok (.aload_n 2, 1)) (t1 : decode cL_law (pc + 1) = .ok (.invokevirtual 178, 3)) (t4 : decode cL_law (pc + 4) = .ok (.iload 6, 2)) (t6 : decode cL_law (pc + 6) = .ok (.if_icmp .eq 5, 3)) (t11 : decode cL_law (pc + 11) = .ok (.iload 6, 2))
    (kk : ∀ (H1 : Heap) (locs1 : List Loc), va_P D vwCl (LW cA ad a ao g N b ao2 gd ad2 a2 σ s') H1 → va_D A (LW cA ad a ao g N b ao2 gd ad2 a2 σ s') → va_S A s.heap H1 locs1 → W p l e room_1 s m args below meth c H1 locs1 cells slots Q (F0 m (pc + 13) ls [.int k])) : W p l e room_1 s m args below meth c H locs cells slots Q (F0 m pc ls []) := by
  have hx := K.1.1
  have hb := K.1.2.1
  refine lv_aload_n hx hb t0 rfl h2 ?_
  refine la_mi (nA := 0) (As := []) K (mX12_thrown l D cA ad2 a2 [] s' (s' 0 13) s' rfl) hP hD hS q7_215 q7_216 q7_217 q1_16 q7_218 (by decide +kernel) (by decide) hc1 hc2 rfl hls [] rfl (Nat.le_of_ble_eq_true rfl) t1 (fun H1 locs1 hP hD hS => ?_)
  rw [hk]
  refine lv_iload hx hb t4 h6 ?_
  refine lv_icmp_eq (tgt := pc + 11) hx hb t6 (by omega) (fun _ => ?_) (fun h => absurd rfl h)
  refine lv_iload hx hb t11 h6 ?_
  exact kk H1 locs1 hP hD hS
set_option maxHeartbeats 4000000 in
set_option maxRecDepth 100000 in
theorem la_tail (K : LC p l s m args meth c D A cA ad adF adW tt bb L xs) (hC : C < 512) (Nx : LGo p l e s m args below meth c Q D A cA ad a ao ao2 ad2 a2 bb (C + 1)) {k v : Int32} (hG : GG σ s' (C + 1) T) (hB : SBT T b) (hk : s' 0 13 = k) (hv : k = 0 → g 0 = v.toInt64) (hP : va_P D vwCl (LW cA ad a ao g T.length b ao2 gd ad2 a2 σ s') H) (hD : va_D A (LW cA ad a ao g T.length b ao2 gd ad2 a2 σ s')) (hS : va_S A s.heap H locs) (hc1 : cells ≤ 254 + 70 * (C + 1)) (hc2 : slots ≤ 4842 + 680 * (C + 1)) (hl : lv_has ls 9 ((7, .int v) :: (6, .int k) :: LL bb (a 209) (a2 0) ao ao2 (nI (4 * C)))) {off : Int}
    (t0 : decode cL_law pc = .ok (.aload_n 2, 1)) (t1 : decode cL_law (pc + 1) = .ok (.invokevirtual 178, 3)) (t4 : decode cL_law (pc + 4) = .ok (.iload 6, 2)) (t6 : decode cL_law (pc + 6) = .ok (.if_icmp .eq 5, 3)) (t11 : decode cL_law (pc + 11) = .ok (.iload 6, 2)) (t13 : decode cL_law (pc + 13) = .ok (.ifCond .ne 15, 3)) (t16 : decode cL_law (pc + 16) = .ok (.aload_n 3, 1)) (t17 : decode cL_law (pc + 17) = .ok (.iconst 0, 1)) (t18 : decode cL_law (pc + 18) = .ok (.laload, 1)) (t19 : decode cL_law (pc + 19) = .ok (.iload 7, 2)) (t21 : decode cL_law (pc + 21) = .ok (.i2l, 1)) (t22 : decode cL_law (pc + 22) = .ok (.lcmp, 1)) (t23 : decode cL_law (pc + 23) = .ok (.ifCond .eq 5, 3)) (t28 : decode cL_law (pc + 28) = .ok (.goto off, 3)) (ho : ((pc + 28 : Nat) : Int) + off = ((3090 : Nat) : Int)) : W p l e room_1 s m args below meth c H locs cells slots Q (F0 m pc ls []) := by
  have hx := K.1.1
  have hb := K.1.2.1
  refine la_thr K hP hD hS (by omega) (by omega) hl.1 hk (lv_at hl 5 rfl) (lv_at hl 1 rfl) t0 t1 t4 t6 t11 (fun H locs hP hD hS => ?_)
  have fin : W p l e room_1 s m args below meth c H locs cells slots Q (F0 m (pc + 28) ls []) := lv_goto (tgt := 3090) hx hb t28 ho (la_end K Nx hG hB hP hD hS hc1 hc2 (lv_sub hl [2, 3, 4, 5, 6, 7] rfl))
  refine lv_if_ne (tgt := pc + 28) hx hb t13 (by omega) (fun _ => fin) (fun h0 => ?_)
  refine lv_aload_n hx hb t16 rfl (lv_at hl 6 rfl) ?_
  refine lv_iconst (v := nI 0) hx hb t17 rfl ?_
  refine va_lald hx hb K.1.2.2.2.2.2.2.2.2.1 hP 241 6 LW_L rfl (vp_in_nI (by decide) (by decide)) t18 ?_
  refine lv_iload hx hb t19 (lv_at hl 0 rfl) ?_
  refine lv_i2l (v := v.toInt64) hx hb t21 rfl ?_
  refine W.lcmp hx hb t22 ?_
  refine lv_if_eq (tgt := pc + 28) hx hb t23 (by omega) (fun _ => fin) (fun h => ?_)
  exact absurd ((lg_cmp_eq _ _).mpr (by rw [nI_clamp (by decide)]; exact hv h0)) h
set_option maxHeartbeats 4000000 in
set_option maxRecDepth 100000 in
theorem la_tailB (K : LC p l s m args meth c D A cA ad adF adW tt bb L xs) (hC : C < 512) (Nx : LGo p l e s m args below meth c Q D A cA ad a ao ao2 ad2 a2 bb (C + 1)) {k v : Int32} (hG : GG σ s' (C + 1) T) (hB : SBT T b) (hk : s' 0 13 = k) (hv : k = 0 → g 0 = if v = 0 then (0 : Int64) else 1) (hP : va_P D vwCl (LW cA ad a ao g T.length b ao2 gd ad2 a2 σ s') H) (hD : va_D A (LW cA ad a ao g T.length b ao2 gd ad2 a2 σ s')) (hS : va_S A s.heap H locs) (hc1 : cells ≤ 254 + 70 * (C + 1)) (hc2 : slots ≤ 4842 + 680 * (C + 1)) (hl : lv_has ls 9 ((7, .int v) :: (6, .int k) :: LL bb (a 209) (a2 0) ao ao2 (nI (4 * C)))) {off : Int}
    (t0 : decode cL_law pc = .ok (.aload_n 2, 1)) (t1 : decode cL_law (pc + 1) = .ok (.invokevirtual 178, 3)) (t4 : decode cL_law (pc + 4) = .ok (.iload 6, 2)) (t6 : decode cL_law (pc + 6) = .ok (.if_icmp .eq 5, 3)) (t11 : decode cL_law (pc + 11) = .ok (.iload 6, 2)) (t13 : decode cL_law (pc + 13) = .ok (.ifCond .ne 22, 3)) (t16 : decode cL_law (pc + 16) = .ok (.aload_n 3, 1)) (t17 : decode cL_law (pc + 17) = .ok (.iconst 0, 1)) (t18 : decode cL_law (pc + 18) = .ok (.laload, 1)) (t19 : decode cL_law (pc + 19) = .ok (.iload 7, 2)) (t21 : decode cL_law (pc + 21) = .ok (.ifCond .eq 7, 3)) (t24 : decode cL_law (pc + 24) = .ok (.lconst 1, 1)) (t25 : decode cL_law (pc + 25) = .ok (.goto 4, 3)) (t28 : decode cL_law (pc + 28) = .ok (.lconst 0, 1)) (t29 : decode cL_law (pc + 29) = .ok (.lcmp, 1)) (t30 : decode cL_law (pc + 30) = .ok (.ifCond .eq 5, 3)) (t35 : decode cL_law (pc + 35) = .ok (.goto off, 3)) (ho : ((pc + 35 : Nat) : Int) + off = ((3090 : Nat) : Int)) : W p l e room_1 s m args below meth c H locs cells slots Q (F0 m pc ls []) := by
  have hx := K.1.1
  have hb := K.1.2.1
  refine la_thr K hP hD hS (by omega) (by omega) hl.1 hk (lv_at hl 5 rfl) (lv_at hl 1 rfl) t0 t1 t4 t6 t11 (fun H locs hP hD hS => ?_)
  have fin : W p l e room_1 s m args below meth c H locs cells slots Q (F0 m (pc + 35) ls []) := lv_goto (tgt := 3090) hx hb t35 ho (la_end K Nx hG hB hP hD hS hc1 hc2 (lv_sub hl [2, 3, 4, 5, 6, 7] rfl))
  refine lv_if_ne (tgt := pc + 35) hx hb t13 (by omega) (fun _ => fin) (fun h0 => ?_)
  refine lv_aload_n hx hb t16 rfl (lv_at hl 6 rfl) ?_
  refine lv_iconst (v := nI 0) hx hb t17 rfl ?_
  refine va_lald hx hb K.1.2.2.2.2.2.2.2.2.1 hP 241 6 LW_L rfl (vp_in_nI (by decide) (by decide)) t18 ?_
  rw [nI_clamp (by decide), hv h0]
  refine lv_iload hx hb t19 (lv_at hl 0 rfl) ?_
  have cmp : ∀ z : Int64, z = (if v = 0 then (0 : Int64) else 1) → W p l e room_1 s m args below meth c H locs cells slots Q (F0 m (pc + 29) ls [.long z, .long (if v = 0 then (0 : Int64) else 1)]) := by
    intro z hz
    refine W.lcmp hx hb t29 ?_
    refine lv_if_eq (tgt := pc + 35) hx hb t30 (by omega) (fun _ => fin) (fun h => ?_)
    exact absurd ((lg_cmp_eq _ _).mpr hz.symm) h
  refine lv_if_eq (tgt := pc + 28) hx hb t21 (by omega) (fun h9 => ?_) (fun h9 => ?_)
  · refine lv_lconst (v := 0) hx hb t28 rfl ?_
    exact cmp 0 (if_pos h9).symm
  · refine lv_lconst (v := 1) hx hb t24 rfl ?_
    refine lv_goto (tgt := pc + 29) hx hb t25 (by omega) ?_
    exact cmp 1 (if_neg h9).symm
set_option maxHeartbeats 4000000 in
set_option maxRecDepth 100000 in
theorem la_tailD (K : LC p l s m args meth c D A cA ad adF adW tt bb L xs) (hC : C < 512) (Nx : LGo p l e s m args below meth c Q D A cA ad a ao ao2 ad2 a2 bb (C + 1)) {k : Int32} {v : UInt64} (hG : GG σ s' (C + 1) T) (hB : SBT T b) (hk : s' 0 13 = k) (hv : k = 0 → gd 0 = v ∧ vf_n64 v) (hP : va_P D vwCl (LW cA ad a ao g T.length b ao2 gd ad2 a2 σ s') H) (hD : va_D A (LW cA ad a ao g T.length b ao2 gd ad2 a2 σ s')) (hS : va_S A s.heap H locs) (hc1 : cells ≤ 254 + 70 * (C + 1)) (hc2 : slots ≤ 4842 + 680 * (C + 1)) (hl : lv_has ls 9 ((7, .double v) :: (6, .int k) :: LL bb (a 209) (a2 0) ao ao2 (nI (4 * C)))) {off : Int}
    (t0 : decode cL_law pc = .ok (.aload_n 2, 1)) (t1 : decode cL_law (pc + 1) = .ok (.invokevirtual 178, 3)) (t4 : decode cL_law (pc + 4) = .ok (.iload 6, 2)) (t6 : decode cL_law (pc + 6) = .ok (.if_icmp .eq 5, 3)) (t11 : decode cL_law (pc + 11) = .ok (.iload 6, 2)) (t13 : decode cL_law (pc + 13) = .ok (.ifCond .ne 35, 3)) (t16 : decode cL_law (pc + 16) = .ok (.aload 4, 2)) (t18 : decode cL_law (pc + 18) = .ok (.iconst 0, 1)) (t19 : decode cL_law (pc + 19) = .ok (.daload, 1)) (t20 : decode cL_law (pc + 20) = .ok (.dload 7, 2)) (t22 : decode cL_law (pc + 22) = .ok (.dcmp .l, 1)) (t23 : decode cL_law (pc + 23) = .ok (.ifCond .eq 25, 3)) (t48 : decode cL_law (pc + 48) = .ok (.goto off, 3)) (ho : ((pc + 48 : Nat) : Int) + off = ((3090 : Nat) : Int)) : W p l e room_1 s m args below meth c H locs cells slots Q (F0 m pc ls []) := by
  have hx := K.1.1
  have hb := K.1.2.1
  refine la_thr K hP hD hS (by omega) (by omega) hl.1 hk (lv_at hl 5 rfl) (lv_at hl 1 rfl) t0 t1 t4 t6 t11 (fun H locs hP hD hS => ?_)
  have fin : W p l e room_1 s m args below meth c H locs cells slots Q (F0 m (pc + 48) ls []) := lv_goto (tgt := 3090) hx hb t48 ho (la_end K Nx hG hB hP hD hS hc1 hc2 (lv_sub hl [2, 3, 4, 5, 6, 7] rfl))
  refine lv_if_ne (tgt := pc + 48) hx hb t13 (by omega) (fun _ => fin) (fun h0 => ?_)
  refine lv_aload hx hb t16 (lv_at hl 7 rfl) ?_
  refine lv_iconst (v := nI 0) hx hb t18 rfl ?_
  refine va_dald hx hb K.1.2.2.2.2.2.2.2.2.1 hP 244 7 LW_D rfl (vp_in_nI (by decide) (by decide)) t19 ?_
  rw [nI_clamp (by decide), (hv h0).1]
  refine lv_dload hx hb t20 (lv_at hl 0 rfl) ?_
  refine lv_dcmp hx hb t22 ?_
  rw [dcmp_self (hv h0).2]
  refine lv_if_eq (tgt := pc + 48) hx hb t23 (by omega) (fun _ => fin) (fun h => ?_)
  exact absurd rfl h
set_option maxHeartbeats 4000000 in
set_option maxRecDepth 100000 in
theorem la_tailF (K : LC p l s m args meth c D A cA ad adF adW tt bb L xs) (hC : C < 512) (Nx : LGo p l e s m args below meth c Q D A cA ad a ao ao2 ad2 a2 bb (C + 1)) {k : Int32} {v : UInt32} (hG : GG σ s' (C + 1) T) (hB : SBT T b) (hk : s' 0 13 = k) (hv : k = 0 → gd 0 = FP.f2d v ∧ vf_n64 (FP.f2d v)) (hP : va_P D vwCl (LW cA ad a ao g T.length b ao2 gd ad2 a2 σ s') H) (hD : va_D A (LW cA ad a ao g T.length b ao2 gd ad2 a2 σ s')) (hS : va_S A s.heap H locs) (hc1 : cells ≤ 254 + 70 * (C + 1)) (hc2 : slots ≤ 4842 + 680 * (C + 1)) (hl : lv_has ls 9 ((7, .float v) :: (6, .int k) :: LL bb (a 209) (a2 0) ao ao2 (nI (4 * C)))) {off : Int}
    (t0 : decode cL_law pc = .ok (.aload_n 2, 1)) (t1 : decode cL_law (pc + 1) = .ok (.invokevirtual 178, 3)) (t4 : decode cL_law (pc + 4) = .ok (.iload 6, 2)) (t6 : decode cL_law (pc + 6) = .ok (.if_icmp .eq 5, 3)) (t11 : decode cL_law (pc + 11) = .ok (.iload 6, 2)) (t13 : decode cL_law (pc + 13) = .ok (.ifCond .ne 36, 3)) (t16 : decode cL_law (pc + 16) = .ok (.aload 4, 2)) (t18 : decode cL_law (pc + 18) = .ok (.iconst 0, 1)) (t19 : decode cL_law (pc + 19) = .ok (.daload, 1)) (t20 : decode cL_law (pc + 20) = .ok (.fload 7, 2)) (t22 : decode cL_law (pc + 22) = .ok (.f2d, 1)) (t23 : decode cL_law (pc + 23) = .ok (.dcmp .l, 1)) (t24 : decode cL_law (pc + 24) = .ok (.ifCond .eq 25, 3)) (t49 : decode cL_law (pc + 49) = .ok (.goto off, 3)) (ho : ((pc + 49 : Nat) : Int) + off = ((3090 : Nat) : Int)) : W p l e room_1 s m args below meth c H locs cells slots Q (F0 m pc ls []) := by
  have hx := K.1.1
  have hb := K.1.2.1
  refine la_thr K hP hD hS (by omega) (by omega) hl.1 hk (lv_at hl 5 rfl) (lv_at hl 1 rfl) t0 t1 t4 t6 t11 (fun H locs hP hD hS => ?_)
  have fin : W p l e room_1 s m args below meth c H locs cells slots Q (F0 m (pc + 49) ls []) := lv_goto (tgt := 3090) hx hb t49 ho (la_end K Nx hG hB hP hD hS hc1 hc2 (lv_sub hl [2, 3, 4, 5, 6, 7] rfl))
  refine lv_if_ne (tgt := pc + 49) hx hb t13 (by omega) (fun _ => fin) (fun h0 => ?_)
  refine lv_aload hx hb t16 (lv_at hl 7 rfl) ?_
  refine lv_iconst (v := nI 0) hx hb t18 rfl ?_
  refine va_dald hx hb K.1.2.2.2.2.2.2.2.2.1 hP 244 7 LW_D rfl (vp_in_nI (by decide) (by decide)) t19 ?_
  rw [nI_clamp (by decide), (hv h0).1]
  refine lv_fload hx hb t20 (lv_at hl 0 rfl) ?_
  refine lv_f2d hx hb t22 (hv h0).2 ?_
  refine lv_dcmp hx hb t23 ?_
  rw [dcmp_self (hv h0).2]
  refine lv_if_eq (tgt := pc + 49) hx hb t24 (by omega) (fun _ => fin) (fun h => ?_)
  exact absurd rfl h
end T73
