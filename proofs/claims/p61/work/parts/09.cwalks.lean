noncomputable def fJ9_floorMod_7cf53 (p1 : Int32) (p2 : Int32) (s0 : St) : Option (Int32 × St) :=
  NZ p2 <|
  LET (p1 - p1 / p2 * p2) fun y2 =>
  if 0 ≤ (p1 ^^^ p2) then
    some (y2, s0)
  else
    if y2 = 0 then
      some (y2, s0)
    else
      some (y2 + p2, s0)
set_option maxHeartbeats 4000000 in
set_option maxRecDepth 100000 in
theorem mJ9_floorMod_7cf53 (l : Launch) (D : va_G) (cA : Nat → ClassId) (ad adF adW tt a : Nat → Nat) (fr : va_W) (ST : gST) (hT : STE ad adF adW tt ST) (p1 : Int32) (p2 : Int32) (s0 : St) (r : Int32) (s' : St) (h : fJ9_floorMod_7cf53 p1 p2 s0 = some (r, s')) : gMet l yJ9_floorMod_7cf53 cJ9_floorMod_7cf53 3 (some .int) 0 D (TYS cA) ST (wc cA ad a fr s0) [.int p1, .int p2] (fun A => gQi D (TYS cA) A (wc cA ad a fr) r s') := by
  refine g_ofWF hT.1 (by decide +kernel) (Nat.le_of_ble_eq_true rfl) ?_
  intro p e s m args below meth c ls A G hP hD hl
  have G : GC p s m args meth c cJ9_floorMod_7cf53 3 RJ9 (some .int) A D (TYS cA) ST := G
  have hx := G.1
  have hb := G.2.1
  have hS : va_S A s.heap s.heap [] := va_S.rf
  have hl : lv_has ls 3 [(0, .int p1), (1, .int p2)] := hl
  unfold fJ9_floorMod_7cf53 at h
  refine lv_iload_n hx hb dJ9_floorMod_7cf53_0 rfl (lv_at hl 0 rfl) ?_
  refine lv_iload_n hx hb dJ9_floorMod_7cf53_1 rfl (lv_at hl 1 rfl) ?_
  obtain ⟨nz1, h⟩ := nz_e h
  refine lv_irem hx hb dJ9_floorMod_7cf53_2 nz1 ?_
  refine lv_topi (fun y2 ey2 => ?_)
  replace h := let_e ey2 h
  refine lv_istore_n (lv' := [(2, .int y2), (0, .int p1), (1, .int p2)]) hx hb dJ9_floorMod_7cf53_3 rfl hl (by decide) rfl (fun ls hl => ?_)
  refine lv_iload_n hx hb dJ9_floorMod_7cf53_4 rfl (lv_at hl 1 rfl) ?_
  refine lv_iload_n hx hb dJ9_floorMod_7cf53_5 rfl (lv_at hl 2 rfl) ?_
  refine lv_ixor hx hb dJ9_floorMod_7cf53_6 ?_
  refine lv_if_ge (tgt := 18) hx hb dJ9_floorMod_7cf53_7 (by decide) (fun c3 => ?_) (fun c3 => ?_)
  · replace h := it_t c3 h
    refine lv_iload_n hx hb dJ9_floorMod_7cf53_18 rfl (lv_at hl 0 rfl) ?_
    exact g_ret G hP hD hS h rfl dJ9_floorMod_7cf53_19
  · replace h := it_f c3 h
    refine lv_iload_n hx hb dJ9_floorMod_7cf53_10 rfl (lv_at hl 0 rfl) ?_
    refine lv_if_eq (tgt := 18) hx hb dJ9_floorMod_7cf53_11 (by decide) (fun c4 => ?_) (fun c4 => ?_)
    · replace h := it_t c4 h
      refine lv_iload_n hx hb dJ9_floorMod_7cf53_18 rfl (lv_at hl 0 rfl) ?_
      exact g_ret G hP hD hS h rfl dJ9_floorMod_7cf53_19
    · replace h := it_f c4 h
      refine lv_iload_n hx hb dJ9_floorMod_7cf53_14 rfl (lv_at hl 0 rfl) ?_
      refine lv_iload_n hx hb dJ9_floorMod_7cf53_15 rfl (lv_at hl 2 rfl) ?_
      refine lv_iadd hx hb dJ9_floorMod_7cf53_16 ?_
      exact g_ret G hP hD hS h rfl dJ9_floorMod_7cf53_17
noncomputable def fJ9_min_7cf53 (p1 : Int32) (p2 : Int32) (s0 : St) : Option (Int32 × St) :=
  if p2 < p1 then
    some (p2, s0)
  else
    some (p1, s0)
set_option maxHeartbeats 4000000 in
set_option maxRecDepth 100000 in
theorem mJ9_min_7cf53 (l : Launch) (D : va_G) (cA : Nat → ClassId) (ad adF adW tt a : Nat → Nat) (fr : va_W) (ST : gST) (hT : STE ad adF adW tt ST) (p1 : Int32) (p2 : Int32) (s0 : St) (r : Int32) (s' : St) (h : fJ9_min_7cf53 p1 p2 s0 = some (r, s')) : gMet l yJ9_min_7cf53 cJ9_min_7cf53 2 (some .int) 0 D (TYS cA) ST (wc cA ad a fr s0) [.int p1, .int p2] (fun A => gQi D (TYS cA) A (wc cA ad a fr) r s') := by
  refine g_ofWF hT.1 (by decide +kernel) (Nat.le_of_ble_eq_true rfl) ?_
  intro p e s m args below meth c ls A G hP hD hl
  have G : GC p s m args meth c cJ9_min_7cf53 2 RJ9 (some .int) A D (TYS cA) ST := G
  have hx := G.1
  have hb := G.2.1
  have hS : va_S A s.heap s.heap [] := va_S.rf
  have hl : lv_has ls 2 [(0, .int p1), (1, .int p2)] := hl
  unfold fJ9_min_7cf53 at h
  refine lv_iload_n hx hb dJ9_min_7cf53_0 rfl (lv_at hl 0 rfl) ?_
  refine lv_iload_n hx hb dJ9_min_7cf53_1 rfl (lv_at hl 1 rfl) ?_
  refine lv_icmp_gt (tgt := 9) hx hb dJ9_min_7cf53_2 (by decide) (fun c1 => ?_) (fun c1 => ?_)
  · replace h := it_t c1 h
    refine lv_iload_n hx hb dJ9_min_7cf53_9 rfl (lv_at hl 1 rfl) ?_
    exact g_ret G hP hD hS h rfl dJ9_min_7cf53_10
  · replace h := it_f c1 h
    refine lv_iload_n hx hb dJ9_min_7cf53_5 rfl (lv_at hl 0 rfl) ?_
    refine lv_goto (tgt := 10) hx hb dJ9_min_7cf53_6 (by decide) ?_
    exact g_ret G hP hD hS h rfl dJ9_min_7cf53_10
noncomputable def fJ9_max_7cf53 (p1 : Int32) (p2 : Int32) (s0 : St) : Option (Int32 × St) :=
  if p1 < p2 then
    some (p2, s0)
  else
    some (p1, s0)
set_option maxHeartbeats 4000000 in
set_option maxRecDepth 100000 in
theorem mJ9_max_7cf53 (l : Launch) (D : va_G) (cA : Nat → ClassId) (ad adF adW tt a : Nat → Nat) (fr : va_W) (ST : gST) (hT : STE ad adF adW tt ST) (p1 : Int32) (p2 : Int32) (s0 : St) (r : Int32) (s' : St) (h : fJ9_max_7cf53 p1 p2 s0 = some (r, s')) : gMet l yJ9_max_7cf53 cJ9_max_7cf53 2 (some .int) 0 D (TYS cA) ST (wc cA ad a fr s0) [.int p1, .int p2] (fun A => gQi D (TYS cA) A (wc cA ad a fr) r s') := by
  refine g_ofWF hT.1 (by decide +kernel) (Nat.le_of_ble_eq_true rfl) ?_
  intro p e s m args below meth c ls A G hP hD hl
  have G : GC p s m args meth c cJ9_max_7cf53 2 RJ9 (some .int) A D (TYS cA) ST := G
  have hx := G.1
  have hb := G.2.1
  have hS : va_S A s.heap s.heap [] := va_S.rf
  have hl : lv_has ls 2 [(0, .int p1), (1, .int p2)] := hl
  unfold fJ9_max_7cf53 at h
  refine lv_iload_n hx hb dJ9_max_7cf53_0 rfl (lv_at hl 0 rfl) ?_
  refine lv_iload_n hx hb dJ9_max_7cf53_1 rfl (lv_at hl 1 rfl) ?_
  refine lv_icmp_lt (tgt := 9) hx hb dJ9_max_7cf53_2 (by decide) (fun c1 => ?_) (fun c1 => ?_)
  · replace h := it_t c1 h
    refine lv_iload_n hx hb dJ9_max_7cf53_9 rfl (lv_at hl 1 rfl) ?_
    exact g_ret G hP hD hS h rfl dJ9_max_7cf53_10
  · replace h := it_f c1 h
    refine lv_iload_n hx hb dJ9_max_7cf53_5 rfl (lv_at hl 0 rfl) ?_
    refine lv_goto (tgt := 10) hx hb dJ9_max_7cf53_6 (by decide) ?_
    exact g_ret G hP hD hS h rfl dJ9_max_7cf53_10
noncomputable def fX5_copyFrom (k : Nat) (k1 : Nat) (s0 : St) : Option (Int32 × St) :=
  LET (va_up s0 (k + 1) (cpy0 (s0 (k1 + 1)) (s0 (k + 1)) 8)) fun s1 =>
  LET (va_up s1 (k + 2) (cpy0 (s1 (k1 + 2)) (s1 (k + 2)) 8)) fun s2 =>
  LET (va_up s2 (k + 3) (cpy0 (s2 (k1 + 3)) (s2 (k + 3)) 8)) fun s3 =>
  LET (u2 s3 k 3 (s3 k1 3)) fun s4 =>
  some (0, s4)
set_option maxHeartbeats 4000000 in
set_option maxRecDepth 100000 in
theorem mX5_copyFrom (l : Launch) (D : va_G) (cA : Nat → ClassId) (ad adF adW tt a : Nat → Nat) (fr : va_W) (ST : gST) (hT : STE ad adF adW tt ST) (k : Nat) (k1 : Nat) (hk : isL k) (hk1 : isL k1) (s0 : St) (r : Int32) (s' : St) (h : fX5_copyFrom k k1 s0 = some (r, s')) : gMet l yX5_copyFrom cX5_copyFrom 2 none 2 D (TYS cA) ST (wc cA ad a fr s0) [.ref (a k), .ref (a k1)] (fun A => gQv D (TYS cA) A (wc cA ad a fr) s') := by
  refine g_ofW hT.1 (by decide +kernel) (Nat.le_of_ble_eq_true rfl) ?_
  intro p e s m args below meth c ls A G hP hD hl
  have G : GC p s m args meth c cX5_copyFrom 2 RX5 none A D (TYS cA) ST := G
  have hx := G.1
  have hb := G.2.1
  have hS : va_S A s.heap s.heap [] := va_S.rf
  have hl : lv_has ls 2 [(0, .ref (a k)), (1, .ref (a k1))] := hl
  unfold fX5_copyFrom at h
  refine lv_aload_n hx hb dX5_copyFrom_0 rfl (lv_at hl 1 rfl) ?_
  refine gfX5_9 hk1 G hP dX5_copyFrom_1 ?_
  refine lv_iconst (v := 0) hx hb dX5_copyFrom_4 (by decide) ?_
  refine lv_aload_n hx hb dX5_copyFrom_5 rfl (lv_at hl 0 rfl) ?_
  refine gfX5_9 hk G hP dX5_copyFrom_6 ?_
  refine lv_iconst (v := 0) hx hb dX5_copyFrom_9 (by decide) ?_
  refine lv_bipush (v := 8) hx hb dX5_copyFrom_10 (by decide) ?_
  refine g_cpy (t := 0) (ty := .int) G hP hD hS (k1 + 1) (k + 1) (ltL_1 hk1) (sL_1 hk1) (ltL_1 hk) (sL_1 hk) rfl rfl 8 rfl (by decide) (by decide) (by decide) (fun i hi => rfl) hl.1 q3_30 q3_20 q3_19 q1_27 (by decide) (Nat.le_of_ble_eq_true rfl) dX5_copyFrom_12 (fun s1 es1 H locs hP hD hS => ?_)
  replace h := let_e es1 h
  refine lv_aload_n hx hb dX5_copyFrom_15 rfl (lv_at hl 1 rfl) ?_
  refine gfX5_15 hk1 G hP dX5_copyFrom_16 ?_
  refine lv_iconst (v := 0) hx hb dX5_copyFrom_19 (by decide) ?_
  refine lv_aload_n hx hb dX5_copyFrom_20 rfl (lv_at hl 0 rfl) ?_
  refine gfX5_15 hk G hP dX5_copyFrom_21 ?_
  refine lv_iconst (v := 0) hx hb dX5_copyFrom_24 (by decide) ?_
  refine lv_bipush (v := 8) hx hb dX5_copyFrom_25 (by decide) ?_
  refine g_cpy (t := 0) (ty := .int) G hP hD hS (k1 + 2) (k + 2) (ltL_2 hk1) (sL_2 hk1) (ltL_2 hk) (sL_2 hk) rfl rfl 8 rfl (by decide) (by decide) (by decide) (fun i hi => rfl) hl.1 q3_30 q3_20 q3_19 q1_27 (by decide) (Nat.le_of_ble_eq_true rfl) dX5_copyFrom_27 (fun s2 es2 H locs hP hD hS => ?_)
  replace h := let_e es2 h
  refine lv_aload_n hx hb dX5_copyFrom_30 rfl (lv_at hl 1 rfl) ?_
  refine gfX5_18 hk1 G hP dX5_copyFrom_31 ?_
  refine lv_iconst (v := 0) hx hb dX5_copyFrom_34 (by decide) ?_
  refine lv_aload_n hx hb dX5_copyFrom_35 rfl (lv_at hl 0 rfl) ?_
  refine gfX5_18 hk G hP dX5_copyFrom_36 ?_
  refine lv_iconst (v := 0) hx hb dX5_copyFrom_39 (by decide) ?_
  refine lv_bipush (v := 8) hx hb dX5_copyFrom_40 (by decide) ?_
  refine g_cpy (t := 0) (ty := .int) G hP hD hS (k1 + 3) (k + 3) (ltL_3 hk1) (sL_3 hk1) (ltL_3 hk) (sL_3 hk) rfl rfl 8 rfl (by decide) (by decide) (by decide) (fun i hi => rfl) hl.1 q3_30 q3_20 q3_19 q1_27 (by decide) (Nat.le_of_ble_eq_true rfl) dX5_copyFrom_42 (fun s3 es3 H locs hP hD hS => ?_)
  replace h := let_e es3 h
  refine lv_aload_n hx hb dX5_copyFrom_45 rfl (lv_at hl 0 rfl) ?_
  refine lv_aload_n hx hb dX5_copyFrom_46 rfl (lv_at hl 1 rfl) ?_
  refine gfX5_21 hk1 G hP dX5_copyFrom_47 ?_
  refine pfX5_21 hk G hP hD hS dX5_copyFrom_50 (fun s4 es4 H locs hP hD hS => ?_)
  replace h := let_e es4 h
  exact g_vret G hP hD hS h dX5_copyFrom_53
noncomputable def fX5_remember (k : Nat) (p1 : Int32) (p2 : Int32) (p3 : Int32) (s0 : St) : Option (Int32 × St) :=
  OB (fJ9_floorMod_7cf53 (s0 k 3) 8 s0) fun r1 s2 =>
  BND r1 8 <|
  LET (u2 s2 (k + 1) r1.toNatClampNeg p1) fun s5 =>
  BND r1 8 <|
  LET (u2 s5 (k + 2) r1.toNatClampNeg p2) fun s7 =>
  BND r1 8 <|
  LET (u2 s7 (k + 3) r1.toNatClampNeg p3) fun s9 =>
  LET (u2 s9 k 3 ((s9 k 3) + 1)) fun s10 =>
  some (0, s10)
set_option maxHeartbeats 4000000 in
set_option maxRecDepth 100000 in
theorem mX5_remember (l : Launch) (D : va_G) (cA : Nat → ClassId) (ad adF adW tt a : Nat → Nat) (fr : va_W) (ST : gST) (hT : STE ad adF adW tt ST) (k : Nat) (hk : isL k) (p1 : Int32) (p2 : Int32) (p3 : Int32) (s0 : St) (r : Int32) (s' : St) (h : fX5_remember k p1 p2 p3 s0 = some (r, s')) : gMet l yX5_remember cX5_remember 5 none 1 D (TYS cA) ST (wc cA ad a fr s0) [.ref (a k), .int p1, .int p2, .int p3] (fun A => gQv D (TYS cA) A (wc cA ad a fr) s') := by
  refine g_ofW hT.1 (by decide +kernel) (Nat.le_of_ble_eq_true rfl) ?_
  intro p e s m args below meth c ls A G hP hD hl
  have G : GC p s m args meth c cX5_remember 5 RX5 none A D (TYS cA) ST := G
  have hx := G.1
  have hb := G.2.1
  have hS : va_S A s.heap s.heap [] := va_S.rf
  have hl : lv_has ls 5 [(0, .ref (a k)), (1, .int p1), (2, .int p2), (3, .int p3)] := hl
  unfold fX5_remember at h
  refine lv_aload_n hx hb dX5_remember_0 rfl (lv_at hl 0 rfl) ?_
  refine gfX5_21 hk G hP dX5_remember_1 ?_
  refine lv_bipush (v := 8) hx hb dX5_remember_4 (by decide) ?_
  obtain ⟨r1, s2, g3, h⟩ := ob_e h
  refine g_callSXi (nA := 2) (mJ9_floorMod_7cf53 l D cA ad adF adW tt a fr ST hT (s0 k 3) 8 s0 r1 s2 g3) G hP hD hS (g_goodSX q3_152 q3_33 q1_28 q3_34) (by decide +kernel) (by decide) rfl hl.1 [] rfl (Nat.le_of_ble_eq_true rfl) dX5_remember_6 (fun H locs hP hD hS => ?_)
  refine lv_istore (lv' := [(4, .int r1), (0, .ref (a k)), (1, .int p1), (2, .int p2), (3, .int p3)]) hx hb dX5_remember_9 hl (by decide) rfl (fun ls hl => ?_)
  refine lv_aload_n hx hb dX5_remember_11 rfl (lv_at hl 1 rfl) ?_
  refine gfX5_9 hk G hP dX5_remember_12 ?_
  refine lv_iload hx hb dX5_remember_15 (lv_at hl 0 rfl) ?_
  refine lv_iload_n hx hb dX5_remember_17 rfl (lv_at hl 2 rfl) ?_
  obtain ⟨b4, h⟩ := bnd_e h
  refine g_ast (t := 0) (ty := .int) (Or.inl rfl) G hP hD hS (k + 1) (ltL_1 hk) (sL_1 hk) rfl b4 dX5_remember_18 (fun s5 es5 H locs hP hD hS => ?_)
  replace h := let_e es5 h
  refine lv_aload_n hx hb dX5_remember_19 rfl (lv_at hl 1 rfl) ?_
  refine gfX5_15 hk G hP dX5_remember_20 ?_
  refine lv_iload hx hb dX5_remember_23 (lv_at hl 0 rfl) ?_
  refine lv_iload_n hx hb dX5_remember_25 rfl (lv_at hl 3 rfl) ?_
  obtain ⟨b6, h⟩ := bnd_e h
  refine g_ast (t := 0) (ty := .int) (Or.inl rfl) G hP hD hS (k + 2) (ltL_2 hk) (sL_2 hk) rfl b6 dX5_remember_26 (fun s7 es7 H locs hP hD hS => ?_)
  replace h := let_e es7 h
  refine lv_aload_n hx hb dX5_remember_27 rfl (lv_at hl 1 rfl) ?_
  refine gfX5_18 hk G hP dX5_remember_28 ?_
  refine lv_iload hx hb dX5_remember_31 (lv_at hl 0 rfl) ?_
  refine lv_iload_n hx hb dX5_remember_33 rfl (lv_at hl 4 rfl) ?_
  obtain ⟨b8, h⟩ := bnd_e h
  refine g_ast (t := 0) (ty := .int) (Or.inl rfl) G hP hD hS (k + 3) (ltL_3 hk) (sL_3 hk) rfl b8 dX5_remember_34 (fun s9 es9 H locs hP hD hS => ?_)
  replace h := let_e es9 h
  refine lv_aload_n hx hb dX5_remember_35 rfl (lv_at hl 1 rfl) ?_
  refine lv_dup hx hb dX5_remember_36 rfl ?_
  refine gfX5_21 hk G hP dX5_remember_37 ?_
  refine lv_iconst (v := 1) hx hb dX5_remember_40 (by decide) ?_
  refine lv_iadd hx hb dX5_remember_41 ?_
  refine pfX5_21 hk G hP hD hS dX5_remember_42 (fun s10 es10 H locs hP hD hS => ?_)
  replace h := let_e es10 h
  exact g_vret G hP hD hS h dX5_remember_45
noncomputable def fX5_rowOf (k : Nat) (p1 : Int32) (s0 : St) : Option (Int32 × St) :=
  if p1 < 0 then
    some ((-1), s0)
  else
    if 8 ≤ p1 then
      some ((-1), s0)
    else
      if p1 < (s0 k 3) then
        OB (fJ9_floorMod_7cf53 (((s0 k 3) - 1) - p1) 8 s0) fun r4 s5 =>
        some (r4, s5)
      else
        some ((-1), s0)
set_option maxHeartbeats 4000000 in
set_option maxRecDepth 100000 in
theorem mX5_rowOf (l : Launch) (D : va_G) (cA : Nat → ClassId) (ad adF adW tt a : Nat → Nat) (fr : va_W) (ST : gST) (hT : STE ad adF adW tt ST) (k : Nat) (hk : isL k) (p1 : Int32) (s0 : St) (r : Int32) (s' : St) (h : fX5_rowOf k p1 s0 = some (r, s')) : gMet l yX5_rowOf cX5_rowOf 2 (some .int) 1 D (TYS cA) ST (wc cA ad a fr s0) [.ref (a k), .int p1] (fun A => gQi D (TYS cA) A (wc cA ad a fr) r s') := by
  refine g_ofW hT.1 (by decide +kernel) (Nat.le_of_ble_eq_true rfl) ?_
  intro p e s m args below meth c ls A G hP hD hl
  have G : GC p s m args meth c cX5_rowOf 2 RX5 (some .int) A D (TYS cA) ST := G
  have hx := G.1
  have hb := G.2.1
  have hS : va_S A s.heap s.heap [] := va_S.rf
  have hl : lv_has ls 2 [(0, .ref (a k)), (1, .int p1)] := hl
  unfold fX5_rowOf at h
  refine lv_iload_n hx hb dX5_rowOf_0 rfl (lv_at hl 1 rfl) ?_
  refine lv_if_lt (tgt := 18) hx hb dX5_rowOf_1 (by decide) (fun c1 => ?_) (fun c1 => ?_)
  · replace h := it_t c1 h
    refine lv_iconst (v := (-1)) hx hb dX5_rowOf_18 (by decide) ?_
    exact g_ret G hP hD hS h rfl dX5_rowOf_19
  · replace h := it_f c1 h
    refine lv_iload_n hx hb dX5_rowOf_4 rfl (lv_at hl 1 rfl) ?_
    refine lv_bipush (v := 8) hx hb dX5_rowOf_5 (by decide) ?_
    refine lv_icmp_ge (tgt := 18) hx hb dX5_rowOf_7 (by decide) (fun c2 => ?_) (fun c2 => ?_)
    · replace h := it_t c2 h
      refine lv_iconst (v := (-1)) hx hb dX5_rowOf_18 (by decide) ?_
      exact g_ret G hP hD hS h rfl dX5_rowOf_19
    · replace h := it_f c2 h
      refine lv_iload_n hx hb dX5_rowOf_10 rfl (lv_at hl 1 rfl) ?_
      refine lv_aload_n hx hb dX5_rowOf_11 rfl (lv_at hl 0 rfl) ?_
      refine gfX5_21 hk G hP dX5_rowOf_12 ?_
      refine lv_icmp_lt (tgt := 20) hx hb dX5_rowOf_15 (by decide) (fun c3 => ?_) (fun c3 => ?_)
      · replace h := it_t c3 h
        refine lv_aload_n hx hb dX5_rowOf_20 rfl (lv_at hl 0 rfl) ?_
        refine gfX5_21 hk G hP dX5_rowOf_21 ?_
        refine lv_iconst (v := 1) hx hb dX5_rowOf_24 (by decide) ?_
        refine lv_isub hx hb dX5_rowOf_25 ?_
        refine lv_iload_n hx hb dX5_rowOf_26 rfl (lv_at hl 1 rfl) ?_
        refine lv_isub hx hb dX5_rowOf_27 ?_
        refine lv_bipush (v := 8) hx hb dX5_rowOf_28 (by decide) ?_
        obtain ⟨r4, s5, g6, h⟩ := ob_e h
        refine g_callSXi (nA := 2) (mJ9_floorMod_7cf53 l D cA ad adF adW tt a fr ST hT (((s0 k 3) - 1) - p1) 8 s0 r4 s5 g6) G hP hD hS (g_goodSX q3_152 q3_33 q1_28 q3_34) (by decide +kernel) (by decide) rfl hl.1 [] rfl (Nat.le_of_ble_eq_true rfl) dX5_rowOf_30 (fun H locs hP hD hS => ?_)
        exact g_ret G hP hD hS h rfl dX5_rowOf_33
      · replace h := it_f c3 h
        refine lv_iconst (v := (-1)) hx hb dX5_rowOf_18 (by decide) ?_
        exact g_ret G hP hD hS h rfl dX5_rowOf_19
noncomputable def fX7_copyFrom_L62b (nF : Nat) (k : Nat) (k1 : Nat) (K62 : Int32 → St → Option (Int32 × St)) (x2 : Int32) (s1 : St) : Option (Int32 × St) :=
  if 3 ≤ x2 then
    LET (u2 s1 k 5 (s1 k1 5)) fun s2 =>
    LET (u2 s2 k 6 (s2 k1 6)) fun s3 =>
    some (0, s3)
  else
    BND x2 3 <|
    BND x2 3 <|
    LET (u2 s1 (k + 5) x2.toNatClampNeg (vp_nar .boolean (s1 (k1 + 5) x2.toNatClampNeg))) fun s6 =>
    LET (x2 + 1) fun y7 =>
    K62 y7 s6
noncomputable def fX7_copyFrom_L62 (nF : Nat) (k : Nat) (k1 : Nat) : Nat → Int32 → St → Option (Int32 × St) := fun k_ => Nat.rec (fun _ _ => none) (fun _ K => fX7_copyFrom_L62b nF k k1 K) k_
theorem fX7_copyFrom_L62_s (nF : Nat) (k : Nat) (k1 : Nat) (k_ : Nat) : fX7_copyFrom_L62 nF k k1 (k_ + 1) = fX7_copyFrom_L62b nF k k1 (fX7_copyFrom_L62 nF k k1 k_) := rfl
noncomputable def fX7_copyFrom (nF : Nat) (k : Nat) (k1 : Nat) (s0 : St) : Option (Int32 × St) :=
  LET (va_up s0 (k + 1) (cpy0 (s0 (k1 + 1)) (s0 (k + 1)) 15)) fun s8 =>
  LET (va_up s8 (k + 2) (cpy0 (s8 (k1 + 2)) (s8 (k + 2)) 15)) fun s9 =>
  LET (va_up s9 (k + 3) (cpy0 (s9 (k1 + 3)) (s9 (k + 3)) 15)) fun s10 =>
  LET (va_up s10 (k + 4) (cpy0 (s10 (k1 + 4)) (s10 (k + 4)) 15)) fun s11 =>
  fX7_copyFrom_L62 nF k k1 nF 0 s11
set_option maxHeartbeats 4000000 in
set_option maxRecDepth 100000 in
theorem mX7_copyFrom (l : Launch) (D : va_G) (cA : Nat → ClassId) (ad adF adW tt a : Nat → Nat) (fr : va_W) (ST : gST) (hT : STE ad adF adW tt ST) (nF : Nat) (k : Nat) (k1 : Nat) (hk : isN k) (hk1 : isN k1) (s0 : St) (r : Int32) (s' : St) (h : fX7_copyFrom nF k k1 s0 = some (r, s')) : gMet l yX7_copyFrom cX7_copyFrom 3 none 2 D (TYS cA) ST (wc cA ad a fr s0) [.ref (a k), .ref (a k1)] (fun A => gQv D (TYS cA) A (wc cA ad a fr) s') := by
  refine g_ofW hT.1 (by decide +kernel) (Nat.le_of_ble_eq_true rfl) ?_
  intro p e s m args below meth c ls A G hP hD hl
  have G : GC p s m args meth c cX7_copyFrom 3 RX7 none A D (TYS cA) ST := G
  have hx := G.1
  have hb := G.2.1
  have hS : va_S A s.heap s.heap [] := va_S.rf
  have hl : lv_has ls 3 [(0, .ref (a k)), (1, .ref (a k1))] := hl
  have hB62 : ∀ (K62 : Int32 → St → Option (Int32 × St)), (∀ (x2 : Int32) (s1 : St), K62 x2 s1 = some (r, s') → ∀ (H : Heap) (locs : List Loc) (ls : Array Slot), va_P D vwCl (wc cA ad a fr s1) H → va_D A (wc cA ad a fr s1) → va_S A s.heap H locs → lv_has ls 3 [(0, .ref (a k)), (1, .ref (a k1)), (2, .int x2)] → W p l e (RM 2) s m args below meth c H locs 0 0 (MQ below (gQv D (TYS cA) A (wc cA ad a fr) s') args s 0 0 A) (F0 m 62 ls [])) → ∀ (x2 : Int32) (s1 : St), fX7_copyFrom_L62b nF k k1 K62 x2 s1 = some (r, s') → ∀ (H : Heap) (locs : List Loc) (ls : Array Slot), va_P D vwCl (wc cA ad a fr s1) H → va_D A (wc cA ad a fr s1) → va_S A s.heap H locs → lv_has ls 3 [(0, .ref (a k)), (1, .ref (a k1)), (2, .int x2)] → W p l e (RM 2) s m args below meth c H locs 0 0 (MQ below (gQv D (TYS cA) A (wc cA ad a fr) s') args s 0 0 A) (F0 m 62 ls []) := by
    intro K62 hK62 x2 s1 h H locs ls hP hD hS hl
    unfold fX7_copyFrom_L62b at h
    refine lv_iload_n hx hb dX7_copyFrom_62 rfl (lv_at hl 2 rfl) ?_
    refine lv_iconst (v := 3) hx hb dX7_copyFrom_63 (by decide) ?_
    refine lv_icmp_ge (tgt := 85) hx hb dX7_copyFrom_64 (by decide) (fun c1 => ?_) (fun c1 => ?_)
    · replace h := it_t c1 h
      refine lv_aload_n hx hb dX7_copyFrom_85 rfl (lv_at hl 0 rfl) ?_
      refine lv_aload_n hx hb dX7_copyFrom_86 rfl (lv_at hl 1 rfl) ?_
      refine gfX7_28 hk1 G hP dX7_copyFrom_87 ?_
      refine pfX7_28 hk G hP hD hS dX7_copyFrom_90 (fun s2 es2 H locs hP hD hS => ?_)
      replace h := let_e es2 h
      refine lv_aload_n hx hb dX7_copyFrom_93 rfl (lv_at hl 0 rfl) ?_
      refine lv_aload_n hx hb dX7_copyFrom_94 rfl (lv_at hl 1 rfl) ?_
      refine gfX7_32 hk1 G hP dX7_copyFrom_95 ?_
      refine pfX7_32 hk G hP hD hS dX7_copyFrom_98 (fun s3 es3 H locs hP hD hS => ?_)
      replace h := let_e es3 h
      exact g_vret G hP hD hS h dX7_copyFrom_101
    · replace h := it_f c1 h
      refine lv_aload_n hx hb dX7_copyFrom_67 rfl (lv_at hl 0 rfl) ?_
      refine gfX7_24 hk G hP dX7_copyFrom_68 ?_
      refine lv_iload_n hx hb dX7_copyFrom_71 rfl (lv_at hl 2 rfl) ?_
      refine lv_aload_n hx hb dX7_copyFrom_72 rfl (lv_at hl 1 rfl) ?_
      refine gfX7_24 hk1 G hP dX7_copyFrom_73 ?_
      refine lv_iload_n hx hb dX7_copyFrom_76 rfl (lv_at hl 2 rfl) ?_
      obtain ⟨b4, h⟩ := bnd_e h
      refine g_ald (t := 2) (ty := .boolean) (Or.inr (Or.inr rfl)) G hP (k1 + 5) (ltN_5 hk1) (sN_5 hk1) rfl b4 dX7_copyFrom_77 ?_
      obtain ⟨b5, h⟩ := bnd_e h
      refine g_ast (t := 2) (ty := .boolean) (Or.inr (Or.inr rfl)) G hP hD hS (k + 5) (ltN_5 hk) (sN_5 hk) rfl b5 dX7_copyFrom_78 (fun s6 es6 H locs hP hD hS => ?_)
      replace h := let_e es6 h
      obtain ⟨y7, ey7⟩ : ∃ y : Int32, y = x2 + 1 := ⟨_, rfl⟩
      replace h := let_e ey7 h
      refine lv_iinc (v := y7) (lv' := [(2, .int y7), (0, .ref (a k)), (1, .ref (a k1))]) hx hb dX7_copyFrom_79 hl (k := 2) rfl (by rw [ey7]; rfl) (by decide) rfl (fun ls hl => ?_)
      refine lv_goto (tgt := 62) hx hb dX7_copyFrom_82 (by decide) ?_
      exact hK62 y7 s6 h _ _ ls hP hD hS (lv_sub hl [1, 2, 0] rfl)
  have hL62 : ∀ k_ : Nat, ∀ (x2 : Int32) (s1 : St), fX7_copyFrom_L62 nF k k1 k_ x2 s1 = some (r, s') → ∀ (H : Heap) (locs : List Loc) (ls : Array Slot), va_P D vwCl (wc cA ad a fr s1) H → va_D A (wc cA ad a fr s1) → va_S A s.heap H locs → lv_has ls 3 [(0, .ref (a k)), (1, .ref (a k1)), (2, .int x2)] → W p l e (RM 2) s m args below meth c H locs 0 0 (MQ below (gQv D (TYS cA) A (wc cA ad a fr) s') args s 0 0 A) (F0 m 62 ls []) := by
    intro k_
    induction k_ with
    | zero => intro x2 s1 h; cases h
    | succ k_ ih => exact hB62 (fX7_copyFrom_L62 nF k k1 k_) ih
  unfold fX7_copyFrom at h
  refine lv_aload_n hx hb dX7_copyFrom_0 rfl (lv_at hl 1 rfl) ?_
  refine gfX7_11 hk1 G hP dX7_copyFrom_1 ?_
  refine lv_iconst (v := 0) hx hb dX7_copyFrom_4 (by decide) ?_
  refine lv_aload_n hx hb dX7_copyFrom_5 rfl (lv_at hl 0 rfl) ?_
  refine gfX7_11 hk G hP dX7_copyFrom_6 ?_
  refine lv_iconst (v := 0) hx hb dX7_copyFrom_9 (by decide) ?_
  refine lv_bipush (v := 15) hx hb dX7_copyFrom_10 (by decide) ?_
  refine g_cpy (t := 0) (ty := .int) G hP hD hS (k1 + 1) (k + 1) (ltN_1 hk1) (sN_1 hk1) (ltN_1 hk) (sN_1 hk) rfl rfl 15 rfl (by decide) (by decide) (by decide) (fun i hi => rfl) hl.1 q3_18 q3_20 q3_19 q1_27 (by decide) (Nat.le_of_ble_eq_true rfl) dX7_copyFrom_12 (fun s8 es8 H locs hP hD hS => ?_)
  replace h := let_e es8 h
  refine lv_aload_n hx hb dX7_copyFrom_15 rfl (lv_at hl 1 rfl) ?_
  refine gfX7_15 hk1 G hP dX7_copyFrom_16 ?_
  refine lv_iconst (v := 0) hx hb dX7_copyFrom_19 (by decide) ?_
  refine lv_aload_n hx hb dX7_copyFrom_20 rfl (lv_at hl 0 rfl) ?_
  refine gfX7_15 hk G hP dX7_copyFrom_21 ?_
  refine lv_iconst (v := 0) hx hb dX7_copyFrom_24 (by decide) ?_
  refine lv_bipush (v := 15) hx hb dX7_copyFrom_25 (by decide) ?_
  refine g_cpy (t := 0) (ty := .int) G hP hD hS (k1 + 2) (k + 2) (ltN_2 hk1) (sN_2 hk1) (ltN_2 hk) (sN_2 hk) rfl rfl 15 rfl (by decide) (by decide) (by decide) (fun i hi => rfl) hl.1 q3_18 q3_20 q3_19 q1_27 (by decide) (Nat.le_of_ble_eq_true rfl) dX7_copyFrom_27 (fun s9 es9 H locs hP hD hS => ?_)
  replace h := let_e es9 h
  refine lv_aload_n hx hb dX7_copyFrom_30 rfl (lv_at hl 1 rfl) ?_
  refine gfX7_18 hk1 G hP dX7_copyFrom_31 ?_
  refine lv_iconst (v := 0) hx hb dX7_copyFrom_34 (by decide) ?_
  refine lv_aload_n hx hb dX7_copyFrom_35 rfl (lv_at hl 0 rfl) ?_
  refine gfX7_18 hk G hP dX7_copyFrom_36 ?_
  refine lv_iconst (v := 0) hx hb dX7_copyFrom_39 (by decide) ?_
  refine lv_bipush (v := 15) hx hb dX7_copyFrom_40 (by decide) ?_
  refine g_cpy (t := 0) (ty := .int) G hP hD hS (k1 + 3) (k + 3) (ltN_3 hk1) (sN_3 hk1) (ltN_3 hk) (sN_3 hk) rfl rfl 15 rfl (by decide) (by decide) (by decide) (fun i hi => rfl) hl.1 q3_18 q3_20 q3_19 q1_27 (by decide) (Nat.le_of_ble_eq_true rfl) dX7_copyFrom_42 (fun s10 es10 H locs hP hD hS => ?_)
  replace h := let_e es10 h
  refine lv_aload_n hx hb dX7_copyFrom_45 rfl (lv_at hl 1 rfl) ?_
  refine gfX7_21 hk1 G hP dX7_copyFrom_46 ?_
  refine lv_iconst (v := 0) hx hb dX7_copyFrom_49 (by decide) ?_
  refine lv_aload_n hx hb dX7_copyFrom_50 rfl (lv_at hl 0 rfl) ?_
  refine gfX7_21 hk G hP dX7_copyFrom_51 ?_
  refine lv_iconst (v := 0) hx hb dX7_copyFrom_54 (by decide) ?_
  refine lv_bipush (v := 15) hx hb dX7_copyFrom_55 (by decide) ?_
  refine g_cpy (t := 0) (ty := .int) G hP hD hS (k1 + 4) (k + 4) (ltN_4 hk1) (sN_4 hk1) (ltN_4 hk) (sN_4 hk) rfl rfl 15 rfl (by decide) (by decide) (by decide) (fun i hi => rfl) hl.1 q3_18 q3_20 q3_19 q1_27 (by decide) (Nat.le_of_ble_eq_true rfl) dX7_copyFrom_57 (fun s11 es11 H locs hP hD hS => ?_)
  replace h := let_e es11 h
  refine lv_iconst (v := 0) hx hb dX7_copyFrom_60 (by decide) ?_
  refine lv_istore_n (lv' := [(2, .int 0), (0, .ref (a k)), (1, .ref (a k1))]) hx hb dX7_copyFrom_61 rfl hl (by decide) rfl (fun ls hl => ?_)
  exact hL62 nF 0 s11 h _ _ ls hP hD hS (lv_sub hl [1, 2, 0] rfl)
noncomputable def fX7_isHeld (k : Nat) (p1 : Int32) (s0 : St) : Option (Int32 × St) :=
  BND p1 3 <|
  BL (s0 (k + 5) p1.toNatClampNeg) <|
  some (s0 (k + 5) p1.toNatClampNeg, s0)
set_option maxHeartbeats 4000000 in
set_option maxRecDepth 100000 in
theorem mX7_isHeld (l : Launch) (D : va_G) (cA : Nat → ClassId) (ad adF adW tt a : Nat → Nat) (fr : va_W) (ST : gST) (hT : STE ad adF adW tt ST) (k : Nat) (hk : isN k) (p1 : Int32) (s0 : St) (r : Int32) (s' : St) (h : fX7_isHeld k p1 s0 = some (r, s')) : gMet l yX7_isHeld cX7_isHeld 2 (some .boolean) 0 D (TYS cA) ST (wc cA ad a fr s0) [.ref (a k), .int p1] (fun A => gQi D (TYS cA) A (wc cA ad a fr) r s') := by
  refine g_ofW hT.1 (by decide +kernel) (Nat.le_of_ble_eq_true rfl) ?_
  intro p e s m args below meth c ls A G hP hD hl
  have G : GC p s m args meth c cX7_isHeld 2 RX7 (some .boolean) A D (TYS cA) ST := G
  have hx := G.1
  have hb := G.2.1
  have hS : va_S A s.heap s.heap [] := va_S.rf
  have hl : lv_has ls 2 [(0, .ref (a k)), (1, .int p1)] := hl
  unfold fX7_isHeld at h
  refine lv_aload_n hx hb dX7_isHeld_0 rfl (lv_at hl 0 rfl) ?_
  refine gfX7_24 hk G hP dX7_isHeld_1 ?_
  refine lv_iload_n hx hb dX7_isHeld_4 rfl (lv_at hl 1 rfl) ?_
  obtain ⟨b1, h⟩ := bnd_e h
  refine g_ald (t := 2) (ty := .boolean) (Or.inr (Or.inr rfl)) G hP (k + 5) (ltN_5 hk) (sN_5 hk) rfl b1 dX7_isHeld_5 ?_
  obtain ⟨b2, h⟩ := bl_e h
  exact g_ret G hP hD hS h (bl_n b2) dX7_isHeld_6
noncomputable def fX7_isFull (k : Nat) (s0 : St) : Option (Int32 × St) :=
  if (s0 k 5) < 12 then
    some (0, s0)
  else
    some (1, s0)
set_option maxHeartbeats 4000000 in
set_option maxRecDepth 100000 in
theorem mX7_isFull (l : Launch) (D : va_G) (cA : Nat → ClassId) (ad adF adW tt a : Nat → Nat) (fr : va_W) (ST : gST) (hT : STE ad adF adW tt ST) (k : Nat) (hk : isN k) (s0 : St) (r : Int32) (s' : St) (h : fX7_isFull k s0 = some (r, s')) : gMet l yX7_isFull cX7_isFull 1 (some .boolean) 0 D (TYS cA) ST (wc cA ad a fr s0) [.ref (a k)] (fun A => gQi D (TYS cA) A (wc cA ad a fr) r s') := by
  refine g_ofW hT.1 (by decide +kernel) (Nat.le_of_ble_eq_true rfl) ?_
  intro p e s m args below meth c ls A G hP hD hl
  have G : GC p s m args meth c cX7_isFull 1 RX7 (some .boolean) A D (TYS cA) ST := G
  have hx := G.1
  have hb := G.2.1
  have hS : va_S A s.heap s.heap [] := va_S.rf
  have hl : lv_has ls 1 [(0, .ref (a k))] := hl
  unfold fX7_isFull at h
  refine lv_aload_n hx hb dX7_isFull_0 rfl (lv_at hl 0 rfl) ?_
  refine gfX7_28 hk G hP dX7_isFull_1 ?_
  refine lv_bipush (v := 12) hx hb dX7_isFull_4 (by decide) ?_
  refine lv_icmp_lt (tgt := 13) hx hb dX7_isFull_6 (by decide) (fun c1 => ?_) (fun c1 => ?_)
  · replace h := it_t c1 h
    refine lv_iconst (v := 0) hx hb dX7_isFull_13 (by decide) ?_
    exact g_ret G hP hD hS h rfl dX7_isFull_14
  · replace h := it_f c1 h
    refine lv_iconst (v := 1) hx hb dX7_isFull_9 (by decide) ?_
    refine lv_goto (tgt := 14) hx hb dX7_isFull_10 (by decide) ?_
    exact g_ret G hP hD hS h rfl dX7_isFull_14
noncomputable def fX7_slotOn (p1 : Int32) (s0 : St) : Option (Int32 × St) :=
  some (12 + p1, s0)
set_option maxHeartbeats 4000000 in
set_option maxRecDepth 100000 in
theorem mX7_slotOn (l : Launch) (D : va_G) (cA : Nat → ClassId) (ad adF adW tt a : Nat → Nat) (fr : va_W) (ST : gST) (hT : STE ad adF adW tt ST) (p1 : Int32) (s0 : St) (r : Int32) (s' : St) (h : fX7_slotOn p1 s0 = some (r, s')) : gMet l yX7_slotOn cX7_slotOn 1 (some .int) 0 D (TYS cA) ST (wc cA ad a fr s0) [.int p1] (fun A => gQi D (TYS cA) A (wc cA ad a fr) r s') := by
  refine g_ofW hT.1 (by decide +kernel) (Nat.le_of_ble_eq_true rfl) ?_
  intro p e s m args below meth c ls A G hP hD hl
  have G : GC p s m args meth c cX7_slotOn 1 RX7 (some .int) A D (TYS cA) ST := G
  have hx := G.1
  have hb := G.2.1
  have hS : va_S A s.heap s.heap [] := va_S.rf
  have hl : lv_has ls 1 [(0, .int p1)] := hl
  unfold fX7_slotOn at h
  refine lv_bipush (v := 12) hx hb dX7_slotOn_0 (by decide) ?_
  refine lv_iload_n hx hb dX7_slotOn_2 rfl (lv_at hl 0 rfl) ?_
  refine lv_iadd hx hb dX7_slotOn_3 ?_
  exact g_ret G hP hD hS h rfl dX7_slotOn_4
noncomputable def fX7_move (k : Nat) (p1 : Int32) (p2 : Int32) (s0 : St) : Option (Int32 × St) :=
  BND p1 15 <|
  BND p2 15 <|
  LET (u2 s0 (k + 1) p2.toNatClampNeg (s0 (k + 1) p1.toNatClampNeg)) fun s3 =>
  BND p1 15 <|
  BND p2 15 <|
  LET (u2 s3 (k + 2) p2.toNatClampNeg (s3 (k + 2) p1.toNatClampNeg)) fun s6 =>
  BND p1 15 <|
  BND p2 15 <|
  LET (u2 s6 (k + 3) p2.toNatClampNeg (s6 (k + 3) p1.toNatClampNeg)) fun s9 =>
  BND p1 15 <|
  BND p2 15 <|
  LET (u2 s9 (k + 4) p2.toNatClampNeg (s9 (k + 4) p1.toNatClampNeg)) fun s12 =>
  some (0, s12)
set_option maxHeartbeats 4000000 in
set_option maxRecDepth 100000 in
theorem mX7_move (l : Launch) (D : va_G) (cA : Nat → ClassId) (ad adF adW tt a : Nat → Nat) (fr : va_W) (ST : gST) (hT : STE ad adF adW tt ST) (k : Nat) (hk : isN k) (p1 : Int32) (p2 : Int32) (s0 : St) (r : Int32) (s' : St) (h : fX7_move k p1 p2 s0 = some (r, s')) : gMet l yX7_move cX7_move 3 none 0 D (TYS cA) ST (wc cA ad a fr s0) [.ref (a k), .int p1, .int p2] (fun A => gQv D (TYS cA) A (wc cA ad a fr) s') := by
  refine g_ofW hT.1 (by decide +kernel) (Nat.le_of_ble_eq_true rfl) ?_
  intro p e s m args below meth c ls A G hP hD hl
  have G : GC p s m args meth c cX7_move 3 RX7 none A D (TYS cA) ST := G
  have hx := G.1
  have hb := G.2.1
  have hS : va_S A s.heap s.heap [] := va_S.rf
  have hl : lv_has ls 3 [(0, .ref (a k)), (1, .int p1), (2, .int p2)] := hl
  unfold fX7_move at h
  refine lv_aload_n hx hb dX7_move_0 rfl (lv_at hl 0 rfl) ?_
  refine gfX7_11 hk G hP dX7_move_1 ?_
  refine lv_iload_n hx hb dX7_move_4 rfl (lv_at hl 2 rfl) ?_
  refine lv_aload_n hx hb dX7_move_5 rfl (lv_at hl 0 rfl) ?_
  refine gfX7_11 hk G hP dX7_move_6 ?_
  refine lv_iload_n hx hb dX7_move_9 rfl (lv_at hl 1 rfl) ?_
  obtain ⟨b1, h⟩ := bnd_e h
  refine g_ald (t := 0) (ty := .int) (Or.inl rfl) G hP (k + 1) (ltN_1 hk) (sN_1 hk) rfl b1 dX7_move_10 ?_
  obtain ⟨b2, h⟩ := bnd_e h
  refine g_ast (t := 0) (ty := .int) (Or.inl rfl) G hP hD hS (k + 1) (ltN_1 hk) (sN_1 hk) rfl b2 dX7_move_11 (fun s3 es3 H locs hP hD hS => ?_)
  replace h := let_e es3 h
  refine lv_aload_n hx hb dX7_move_12 rfl (lv_at hl 0 rfl) ?_
  refine gfX7_15 hk G hP dX7_move_13 ?_
  refine lv_iload_n hx hb dX7_move_16 rfl (lv_at hl 2 rfl) ?_
  refine lv_aload_n hx hb dX7_move_17 rfl (lv_at hl 0 rfl) ?_
  refine gfX7_15 hk G hP dX7_move_18 ?_
  refine lv_iload_n hx hb dX7_move_21 rfl (lv_at hl 1 rfl) ?_
  obtain ⟨b4, h⟩ := bnd_e h
  refine g_ald (t := 0) (ty := .int) (Or.inl rfl) G hP (k + 2) (ltN_2 hk) (sN_2 hk) rfl b4 dX7_move_22 ?_
  obtain ⟨b5, h⟩ := bnd_e h
  refine g_ast (t := 0) (ty := .int) (Or.inl rfl) G hP hD hS (k + 2) (ltN_2 hk) (sN_2 hk) rfl b5 dX7_move_23 (fun s6 es6 H locs hP hD hS => ?_)
  replace h := let_e es6 h
  refine lv_aload_n hx hb dX7_move_24 rfl (lv_at hl 0 rfl) ?_
  refine gfX7_18 hk G hP dX7_move_25 ?_
  refine lv_iload_n hx hb dX7_move_28 rfl (lv_at hl 2 rfl) ?_
  refine lv_aload_n hx hb dX7_move_29 rfl (lv_at hl 0 rfl) ?_
  refine gfX7_18 hk G hP dX7_move_30 ?_
  refine lv_iload_n hx hb dX7_move_33 rfl (lv_at hl 1 rfl) ?_
  obtain ⟨b7, h⟩ := bnd_e h
  refine g_ald (t := 0) (ty := .int) (Or.inl rfl) G hP (k + 3) (ltN_3 hk) (sN_3 hk) rfl b7 dX7_move_34 ?_
  obtain ⟨b8, h⟩ := bnd_e h
  refine g_ast (t := 0) (ty := .int) (Or.inl rfl) G hP hD hS (k + 3) (ltN_3 hk) (sN_3 hk) rfl b8 dX7_move_35 (fun s9 es9 H locs hP hD hS => ?_)
  replace h := let_e es9 h
  refine lv_aload_n hx hb dX7_move_36 rfl (lv_at hl 0 rfl) ?_
  refine gfX7_21 hk G hP dX7_move_37 ?_
  refine lv_iload_n hx hb dX7_move_40 rfl (lv_at hl 2 rfl) ?_
  refine lv_aload_n hx hb dX7_move_41 rfl (lv_at hl 0 rfl) ?_
  refine gfX7_21 hk G hP dX7_move_42 ?_
  refine lv_iload_n hx hb dX7_move_45 rfl (lv_at hl 1 rfl) ?_
  obtain ⟨b10, h⟩ := bnd_e h
  refine g_ald (t := 0) (ty := .int) (Or.inl rfl) G hP (k + 4) (ltN_4 hk) (sN_4 hk) rfl b10 dX7_move_46 ?_
  obtain ⟨b11, h⟩ := bnd_e h
  refine g_ast (t := 0) (ty := .int) (Or.inl rfl) G hP hD hS (k + 4) (ltN_4 hk) (sN_4 hk) rfl b11 dX7_move_47 (fun s12 es12 H locs hP hD hS => ?_)
  replace h := let_e es12 h
  exact g_vret G hP hD hS h dX7_move_48
noncomputable def fX7_putBack (k : Nat) (p1 : Int32) (s0 : St) : Option (Int32 × St) :=
  OB (fX7_isFull k s0) fun r1 s2 =>
  if r1 = 0 then
    OB (fX7_slotOn p1 s2) fun r5 s6 =>
    OB (fX7_move k r5 (s6 k 5) s6) fun r8 s9 =>
    BND p1 3 <|
    LET (u2 s9 (k + 5) p1.toNatClampNeg (vp_nar .boolean 0)) fun s12 =>
    LET (u2 s12 k 5 ((s12 k 5) + 1)) fun s13 =>
    OB (fX7_slotOn p1 s13) fun r14 s15 =>
    BND r14 15 <|
    some (s15 (k + 1) r14.toNatClampNeg, s15)
  else
    some ((-1), s2)
set_option maxHeartbeats 4000000 in
set_option maxRecDepth 100000 in
theorem mX7_putBack (l : Launch) (D : va_G) (cA : Nat → ClassId) (ad adF adW tt a : Nat → Nat) (fr : va_W) (ST : gST) (hT : STE ad adF adW tt ST) (k : Nat) (hk : isN k) (p1 : Int32) (s0 : St) (r : Int32) (s' : St) (h : fX7_putBack k p1 s0 = some (r, s')) : gMet l yX7_putBack cX7_putBack 2 (some .int) 1 D (TYS cA) ST (wc cA ad a fr s0) [.ref (a k), .int p1] (fun A => gQi D (TYS cA) A (wc cA ad a fr) r s') := by
  refine g_ofW hT.1 (by decide +kernel) (Nat.le_of_ble_eq_true rfl) ?_
  intro p e s m args below meth c ls A G hP hD hl
  have G : GC p s m args meth c cX7_putBack 2 RX7 (some .int) A D (TYS cA) ST := G
  have hx := G.1
  have hb := G.2.1
  have hS : va_S A s.heap s.heap [] := va_S.rf
  have hl : lv_has ls 2 [(0, .ref (a k)), (1, .int p1)] := hl
  unfold fX7_putBack at h
  refine lv_aload_n hx hb dX7_putBack_0 rfl (lv_at hl 0 rfl) ?_
  obtain ⟨r1, s2, g3, h⟩ := ob_e h
  refine g_callVi (nA := 0) (mX7_isFull l D cA ad adF adW tt a fr ST hT k hk s0 r1 s2 g3) G hP hD hS (g_good q3_95 q3_82 q3_83 q1_3 q3_84) (by decide +kernel) (by decide) (ltN_0 hk) (sN_0 hk) rfl rfl hl.1 [] rfl (Nat.le_of_ble_eq_true rfl) dX7_putBack_1 (fun H locs hP hD hS => ?_)
  refine lv_if_eq (tgt := 9) hx hb dX7_putBack_4 (by decide) (fun c4 => ?_) (fun c4 => ?_)
  · replace h := it_t c4 h
    refine lv_aload_n hx hb dX7_putBack_9 rfl (lv_at hl 0 rfl) ?_
    refine lv_iload_n hx hb dX7_putBack_10 rfl (lv_at hl 1 rfl) ?_
    obtain ⟨r5, s6, g7, h⟩ := ob_e h
    refine g_callSXi (nA := 1) (mX7_slotOn l D cA ad adF adW tt a fr ST hT p1 s2 r5 s6 g7) G hP hD hS (g_goodSX q3_96 q3_97 q1_3 q3_98) (by decide +kernel) (by decide) rfl hl.1 [.ref (a k)] rfl (Nat.le_of_ble_eq_true rfl) dX7_putBack_11 (fun H locs hP hD hS => ?_)
    refine lv_aload_n hx hb dX7_putBack_14 rfl (lv_at hl 0 rfl) ?_
    refine gfX7_28 hk G hP dX7_putBack_15 ?_
    obtain ⟨r8, s9, g10, h⟩ := ob_e h
    refine g_callVv (nA := 2) (mX7_move l D cA ad adF adW tt a fr ST hT k hk r5 (s6 k 5) s6 r8 s9 g10) G hP hD hS (g_good q3_99 q3_101 qs_1 q1_3 q3_102) (by decide +kernel) (by decide) (ltN_0 hk) (sN_0 hk) rfl rfl hl.1 [] rfl (Nat.le_of_ble_eq_true rfl) dX7_putBack_18 (fun H locs hP hD hS => ?_)
    refine lv_aload_n hx hb dX7_putBack_21 rfl (lv_at hl 0 rfl) ?_
    refine gfX7_24 hk G hP dX7_putBack_22 ?_
    refine lv_iload_n hx hb dX7_putBack_25 rfl (lv_at hl 1 rfl) ?_
    refine lv_iconst (v := 0) hx hb dX7_putBack_26 (by decide) ?_
    obtain ⟨b11, h⟩ := bnd_e h
    refine g_ast (t := 2) (ty := .boolean) (Or.inr (Or.inr rfl)) G hP hD hS (k + 5) (ltN_5 hk) (sN_5 hk) rfl b11 dX7_putBack_27 (fun s12 es12 H locs hP hD hS => ?_)
    replace h := let_e es12 h
    refine lv_aload_n hx hb dX7_putBack_28 rfl (lv_at hl 0 rfl) ?_
    refine lv_dup hx hb dX7_putBack_29 rfl ?_
    refine gfX7_28 hk G hP dX7_putBack_30 ?_
    refine lv_iconst (v := 1) hx hb dX7_putBack_33 (by decide) ?_
    refine lv_iadd hx hb dX7_putBack_34 ?_
    refine pfX7_28 hk G hP hD hS dX7_putBack_35 (fun s13 es13 H locs hP hD hS => ?_)
    replace h := let_e es13 h
    refine lv_aload_n hx hb dX7_putBack_38 rfl (lv_at hl 0 rfl) ?_
    refine gfX7_11 hk G hP dX7_putBack_39 ?_
    refine lv_iload_n hx hb dX7_putBack_42 rfl (lv_at hl 1 rfl) ?_
    obtain ⟨r14, s15, g16, h⟩ := ob_e h
    refine g_callSXi (nA := 1) (mX7_slotOn l D cA ad adF adW tt a fr ST hT p1 s13 r14 s15 g16) G hP hD hS (g_goodSX q3_96 q3_97 q1_3 q3_98) (by decide +kernel) (by decide) rfl hl.1 [.ref (a (k + 1))] rfl (Nat.le_of_ble_eq_true rfl) dX7_putBack_43 (fun H locs hP hD hS => ?_)
    obtain ⟨b17, h⟩ := bnd_e h
    refine g_ald (t := 0) (ty := .int) (Or.inl rfl) G hP (k + 1) (ltN_1 hk) (sN_1 hk) rfl b17 dX7_putBack_46 ?_
    exact g_ret G hP hD hS h rfl dX7_putBack_47
  · replace h := it_f c4 h
    refine lv_iconst (v := (-1)) hx hb dX7_putBack_7 (by decide) ?_
    exact g_ret G hP hD hS h rfl dX7_putBack_8
noncomputable def fX7_isBefore (k : Nat) (p1 : Int32) (p2 : Int32) (s0 : St) : Option (Int32 × St) :=
  BND p1 15 <|
  BND p2 15 <|
  if (s0 (k + 3) p1.toNatClampNeg) = (s0 (k + 3) p2.toNatClampNeg) then
    BND p1 15 <|
    BND p2 15 <|
    if (s0 (k + 1) p2.toNatClampNeg) ≤ (s0 (k + 1) p1.toNatClampNeg) then
      some (0, s0)
    else
      some (1, s0)
  else
    BND p1 15 <|
    BND p2 15 <|
    if (s0 (k + 3) p1.toNatClampNeg) ≤ (s0 (k + 3) p2.toNatClampNeg) then
      some (0, s0)
    else
      some (1, s0)
set_option maxHeartbeats 4000000 in
set_option maxRecDepth 100000 in
theorem mX7_isBefore (l : Launch) (D : va_G) (cA : Nat → ClassId) (ad adF adW tt a : Nat → Nat) (fr : va_W) (ST : gST) (hT : STE ad adF adW tt ST) (k : Nat) (hk : isN k) (p1 : Int32) (p2 : Int32) (s0 : St) (r : Int32) (s' : St) (h : fX7_isBefore k p1 p2 s0 = some (r, s')) : gMet l yX7_isBefore cX7_isBefore 3 (some .boolean) 0 D (TYS cA) ST (wc cA ad a fr s0) [.ref (a k), .int p1, .int p2] (fun A => gQi D (TYS cA) A (wc cA ad a fr) r s') := by
  refine g_ofW hT.1 (by decide +kernel) (Nat.le_of_ble_eq_true rfl) ?_
  intro p e s m args below meth c ls A G hP hD hl
  have G : GC p s m args meth c cX7_isBefore 3 RX7 (some .boolean) A D (TYS cA) ST := G
  have hx := G.1
  have hb := G.2.1
  have hS : va_S A s.heap s.heap [] := va_S.rf
  have hl : lv_has ls 3 [(0, .ref (a k)), (1, .int p1), (2, .int p2)] := hl
  unfold fX7_isBefore at h
  refine lv_aload_n hx hb dX7_isBefore_0 rfl (lv_at hl 0 rfl) ?_
  refine gfX7_18 hk G hP dX7_isBefore_1 ?_
  refine lv_iload_n hx hb dX7_isBefore_4 rfl (lv_at hl 1 rfl) ?_
  obtain ⟨b1, h⟩ := bnd_e h
  refine g_ald (t := 0) (ty := .int) (Or.inl rfl) G hP (k + 3) (ltN_3 hk) (sN_3 hk) rfl b1 dX7_isBefore_5 ?_
  refine lv_aload_n hx hb dX7_isBefore_6 rfl (lv_at hl 0 rfl) ?_
  refine gfX7_18 hk G hP dX7_isBefore_7 ?_
  refine lv_iload_n hx hb dX7_isBefore_10 rfl (lv_at hl 2 rfl) ?_
  obtain ⟨b2, h⟩ := bnd_e h
  refine g_ald (t := 0) (ty := .int) (Or.inl rfl) G hP (k + 3) (ltN_3 hk) (sN_3 hk) rfl b2 dX7_isBefore_11 ?_
  refine lv_icmp_eq (tgt := 36) hx hb dX7_isBefore_12 (by decide) (fun c3 => ?_) (fun c3 => ?_)
  · replace h := it_t c3 h
    refine lv_aload_n hx hb dX7_isBefore_36 rfl (lv_at hl 0 rfl) ?_
    refine gfX7_11 hk G hP dX7_isBefore_37 ?_
    refine lv_iload_n hx hb dX7_isBefore_40 rfl (lv_at hl 1 rfl) ?_
    obtain ⟨b4, h⟩ := bnd_e h
    refine g_ald (t := 0) (ty := .int) (Or.inl rfl) G hP (k + 1) (ltN_1 hk) (sN_1 hk) rfl b4 dX7_isBefore_41 ?_
    refine lv_aload_n hx hb dX7_isBefore_42 rfl (lv_at hl 0 rfl) ?_
    refine gfX7_11 hk G hP dX7_isBefore_43 ?_
    refine lv_iload_n hx hb dX7_isBefore_46 rfl (lv_at hl 2 rfl) ?_
    obtain ⟨b5, h⟩ := bnd_e h
    refine g_ald (t := 0) (ty := .int) (Or.inl rfl) G hP (k + 1) (ltN_1 hk) (sN_1 hk) rfl b5 dX7_isBefore_47 ?_
    refine lv_icmp_ge (tgt := 55) hx hb dX7_isBefore_48 (by decide) (fun c6 => ?_) (fun c6 => ?_)
    · replace h := it_t c6 h
      refine lv_iconst (v := 0) hx hb dX7_isBefore_55 (by decide) ?_
      exact g_ret G hP hD hS h rfl dX7_isBefore_56
    · replace h := it_f c6 h
      refine lv_iconst (v := 1) hx hb dX7_isBefore_51 (by decide) ?_
      refine lv_goto (tgt := 56) hx hb dX7_isBefore_52 (by decide) ?_
      exact g_ret G hP hD hS h rfl dX7_isBefore_56
  · replace h := it_f c3 h
    refine lv_aload_n hx hb dX7_isBefore_15 rfl (lv_at hl 0 rfl) ?_
    refine gfX7_18 hk G hP dX7_isBefore_16 ?_
    refine lv_iload_n hx hb dX7_isBefore_19 rfl (lv_at hl 1 rfl) ?_
    obtain ⟨b7, h⟩ := bnd_e h
    refine g_ald (t := 0) (ty := .int) (Or.inl rfl) G hP (k + 3) (ltN_3 hk) (sN_3 hk) rfl b7 dX7_isBefore_20 ?_
    refine lv_aload_n hx hb dX7_isBefore_21 rfl (lv_at hl 0 rfl) ?_
    refine gfX7_18 hk G hP dX7_isBefore_22 ?_
    refine lv_iload_n hx hb dX7_isBefore_25 rfl (lv_at hl 2 rfl) ?_
    obtain ⟨b8, h⟩ := bnd_e h
    refine g_ald (t := 0) (ty := .int) (Or.inl rfl) G hP (k + 3) (ltN_3 hk) (sN_3 hk) rfl b8 dX7_isBefore_26 ?_
    refine lv_icmp_le (tgt := 34) hx hb dX7_isBefore_27 (by decide) (fun c9 => ?_) (fun c9 => ?_)
    · replace h := it_t c9 h
      refine lv_iconst (v := 0) hx hb dX7_isBefore_34 (by decide) ?_
      exact g_ret G hP hD hS h rfl dX7_isBefore_35
    · replace h := it_f c9 h
      refine lv_iconst (v := 1) hx hb dX7_isBefore_30 (by decide) ?_
      refine lv_goto (tgt := 35) hx hb dX7_isBefore_31 (by decide) ?_
      exact g_ret G hP hD hS h rfl dX7_isBefore_35
noncomputable def fX7_firstWaiting_B28 (nF : Nat) (k : Nat) (K4 : Int32 → Int32 → St → Option (Int32 × St)) (x1 : Int32) (x2 : Int32) (s1 : St) : Option (Int32 × St) :=
  LET (x2 + 1) fun y1 =>
  K4 x1 y1 s1
noncomputable def fX7_firstWaiting_B26 (nF : Nat) (k : Nat) (K4 : Int32 → Int32 → St → Option (Int32 × St)) (x2 : Int32) (s1 : St) : Option (Int32 × St) :=
  fX7_firstWaiting_B28 nF k K4 x2 x2 s1
noncomputable def fX7_firstWaiting_L4b (nF : Nat) (k : Nat) (K4 : Int32 → Int32 → St → Option (Int32 × St)) (x1 : Int32) (x2 : Int32) (s1 : St) : Option (Int32 × St) :=
  if (s1 k 5) ≤ x2 then
    some (x1, s1)
  else
    if x1 = (-1) then
      fX7_firstWaiting_B26 nF k K4 x2 s1
    else
      OB (fX7_isBefore k x2 x1 s1) fun r4 s5 =>
      if r4 = 0 then
        fX7_firstWaiting_B28 nF k K4 x1 x2 s5
      else
        fX7_firstWaiting_B26 nF k K4 x2 s5
noncomputable def fX7_firstWaiting_L4 (nF : Nat) (k : Nat) : Nat → Int32 → Int32 → St → Option (Int32 × St) := fun k_ => Nat.rec (fun _ _ _ => none) (fun _ K => fX7_firstWaiting_L4b nF k K) k_
theorem fX7_firstWaiting_L4_s (nF : Nat) (k : Nat) (k_ : Nat) : fX7_firstWaiting_L4 nF k (k_ + 1) = fX7_firstWaiting_L4b nF k (fX7_firstWaiting_L4 nF k k_) := rfl
noncomputable def fX7_firstWaiting (nF : Nat) (k : Nat) (s0 : St) : Option (Int32 × St) :=
  fX7_firstWaiting_L4 nF k nF (-1) 0 s0
set_option maxHeartbeats 4000000 in
set_option maxRecDepth 100000 in
theorem mX7_firstWaiting (l : Launch) (D : va_G) (cA : Nat → ClassId) (ad adF adW tt a : Nat → Nat) (fr : va_W) (ST : gST) (hT : STE ad adF adW tt ST) (nF : Nat) (k : Nat) (hk : isN k) (s0 : St) (r : Int32) (s' : St) (h : fX7_firstWaiting nF k s0 = some (r, s')) : gMet l yX7_firstWaiting cX7_firstWaiting 3 (some .int) 1 D (TYS cA) ST (wc cA ad a fr s0) [.ref (a k)] (fun A => gQi D (TYS cA) A (wc cA ad a fr) r s') := by
  refine g_ofW hT.1 (by decide +kernel) (Nat.le_of_ble_eq_true rfl) ?_
  intro p e s m args below meth c ls A G hP hD hl
  have G : GC p s m args meth c cX7_firstWaiting 3 RX7 (some .int) A D (TYS cA) ST := G
  have hx := G.1
  have hb := G.2.1
  have hS : va_S A s.heap s.heap [] := va_S.rf
  have hl : lv_has ls 3 [(0, .ref (a k))] := hl
  have hB28 : ∀ (K4 : Int32 → Int32 → St → Option (Int32 × St)), (∀ (x1 : Int32) (x2 : Int32) (s1 : St), K4 x1 x2 s1 = some (r, s') → ∀ (H : Heap) (locs : List Loc) (ls : Array Slot), va_P D vwCl (wc cA ad a fr s1) H → va_D A (wc cA ad a fr s1) → va_S A s.heap H locs → lv_has ls 3 [(0, .ref (a k)), (1, .int x1), (2, .int x2)] → W p l e (RM 1) s m args below meth c H locs 0 0 (MQ below (gQi D (TYS cA) A (wc cA ad a fr) r s') args s 0 0 A) (F0 m 4 ls [])) → ∀ (x1 : Int32) (x2 : Int32) (s1 : St), fX7_firstWaiting_B28 nF k K4 x1 x2 s1 = some (r, s') → ∀ (H : Heap) (locs : List Loc) (ls : Array Slot), va_P D vwCl (wc cA ad a fr s1) H → va_D A (wc cA ad a fr s1) → va_S A s.heap H locs → lv_has ls 3 [(0, .ref (a k)), (1, .int x1), (2, .int x2)] → W p l e (RM 1) s m args below meth c H locs 0 0 (MQ below (gQi D (TYS cA) A (wc cA ad a fr) r s') args s 0 0 A) (F0 m 28 ls []) := by
    intro K4 hK4 x1 x2 s1 h H locs ls hP hD hS hl
    unfold fX7_firstWaiting_B28 at h
    obtain ⟨y1, ey1⟩ : ∃ y : Int32, y = x2 + 1 := ⟨_, rfl⟩
    replace h := let_e ey1 h
    refine lv_iinc (v := y1) (lv' := [(2, .int y1), (0, .ref (a k)), (1, .int x1)]) hx hb dX7_firstWaiting_28 hl (k := 2) rfl (by rw [ey1]; rfl) (by decide) rfl (fun ls hl => ?_)
    refine lv_goto (tgt := 4) hx hb dX7_firstWaiting_31 (by decide) ?_
    exact hK4 x1 y1 s1 h _ _ ls hP hD hS (lv_sub hl [1, 2, 0] rfl)
  have hB26 : ∀ (K4 : Int32 → Int32 → St → Option (Int32 × St)), (∀ (x1 : Int32) (x2 : Int32) (s1 : St), K4 x1 x2 s1 = some (r, s') → ∀ (H : Heap) (locs : List Loc) (ls : Array Slot), va_P D vwCl (wc cA ad a fr s1) H → va_D A (wc cA ad a fr s1) → va_S A s.heap H locs → lv_has ls 3 [(0, .ref (a k)), (1, .int x1), (2, .int x2)] → W p l e (RM 1) s m args below meth c H locs 0 0 (MQ below (gQi D (TYS cA) A (wc cA ad a fr) r s') args s 0 0 A) (F0 m 4 ls [])) → ∀ (x2 : Int32) (s1 : St), fX7_firstWaiting_B26 nF k K4 x2 s1 = some (r, s') → ∀ (H : Heap) (locs : List Loc) (ls : Array Slot), va_P D vwCl (wc cA ad a fr s1) H → va_D A (wc cA ad a fr s1) → va_S A s.heap H locs → lv_has ls 3 [(0, .ref (a k)), (2, .int x2)] → W p l e (RM 1) s m args below meth c H locs 0 0 (MQ below (gQi D (TYS cA) A (wc cA ad a fr) r s') args s 0 0 A) (F0 m 26 ls []) := by
    intro K4 hK4 x2 s1 h H locs ls hP hD hS hl
    unfold fX7_firstWaiting_B26 at h
    refine lv_iload_n hx hb dX7_firstWaiting_26 rfl (lv_at hl 1 rfl) ?_
    refine lv_istore_n (lv' := [(1, .int x2), (0, .ref (a k)), (2, .int x2)]) hx hb dX7_firstWaiting_27 rfl hl (by decide) rfl (fun ls hl => ?_)
    exact hB28 K4 hK4 x2 x2 s1 h _ _ ls hP hD hS (lv_sub hl [1, 0, 2] rfl)
  have hB4 : ∀ (K4 : Int32 → Int32 → St → Option (Int32 × St)), (∀ (x1 : Int32) (x2 : Int32) (s1 : St), K4 x1 x2 s1 = some (r, s') → ∀ (H : Heap) (locs : List Loc) (ls : Array Slot), va_P D vwCl (wc cA ad a fr s1) H → va_D A (wc cA ad a fr s1) → va_S A s.heap H locs → lv_has ls 3 [(0, .ref (a k)), (1, .int x1), (2, .int x2)] → W p l e (RM 1) s m args below meth c H locs 0 0 (MQ below (gQi D (TYS cA) A (wc cA ad a fr) r s') args s 0 0 A) (F0 m 4 ls [])) → ∀ (x1 : Int32) (x2 : Int32) (s1 : St), fX7_firstWaiting_L4b nF k K4 x1 x2 s1 = some (r, s') → ∀ (H : Heap) (locs : List Loc) (ls : Array Slot), va_P D vwCl (wc cA ad a fr s1) H → va_D A (wc cA ad a fr s1) → va_S A s.heap H locs → lv_has ls 3 [(0, .ref (a k)), (1, .int x1), (2, .int x2)] → W p l e (RM 1) s m args below meth c H locs 0 0 (MQ below (gQi D (TYS cA) A (wc cA ad a fr) r s') args s 0 0 A) (F0 m 4 ls []) := by
    intro K4 hK4 x1 x2 s1 h H locs ls hP hD hS hl
    unfold fX7_firstWaiting_L4b at h
    refine lv_iload_n hx hb dX7_firstWaiting_4 rfl (lv_at hl 2 rfl) ?_
    refine lv_aload_n hx hb dX7_firstWaiting_5 rfl (lv_at hl 0 rfl) ?_
    refine gfX7_28 hk G hP dX7_firstWaiting_6 ?_
    refine lv_icmp_ge (tgt := 34) hx hb dX7_firstWaiting_9 (by decide) (fun c2 => ?_) (fun c2 => ?_)
    · replace h := it_t c2 h
      refine lv_iload_n hx hb dX7_firstWaiting_34 rfl (lv_at hl 1 rfl) ?_
      exact g_ret G hP hD hS h rfl dX7_firstWaiting_35
    · replace h := it_f c2 h
      refine lv_iload_n hx hb dX7_firstWaiting_12 rfl (lv_at hl 1 rfl) ?_
      refine lv_iconst (v := (-1)) hx hb dX7_firstWaiting_13 (by decide) ?_
      refine lv_icmp_eq (tgt := 26) hx hb dX7_firstWaiting_14 (by decide) (fun c3 => ?_) (fun c3 => ?_)
      · replace h := it_t c3 h
        exact hB26 K4 hK4 x2 s1 h _ _ ls hP hD hS (lv_sub hl [0, 2] rfl)
      · replace h := it_f c3 h
        refine lv_aload_n hx hb dX7_firstWaiting_17 rfl (lv_at hl 0 rfl) ?_
        refine lv_iload_n hx hb dX7_firstWaiting_18 rfl (lv_at hl 2 rfl) ?_
        refine lv_iload_n hx hb dX7_firstWaiting_19 rfl (lv_at hl 1 rfl) ?_
        obtain ⟨r4, s5, g6, h⟩ := ob_e h
        refine g_callVi (nA := 2) (mX7_isBefore l D cA ad adF adW tt a fr ST hT k hk x2 x1 s1 r4 s5 g6) G hP hD hS (g_good q3_126 q3_127 q3_128 q1_3 q3_129) (by decide +kernel) (by decide) (ltN_0 hk) (sN_0 hk) rfl rfl hl.1 [] rfl (Nat.le_of_ble_eq_true rfl) dX7_firstWaiting_20 (fun H locs hP hD hS => ?_)
        refine lv_if_eq (tgt := 28) hx hb dX7_firstWaiting_23 (by decide) (fun c7 => ?_) (fun c7 => ?_)
        · replace h := it_t c7 h
          exact hB28 K4 hK4 x1 x2 s5 h _ _ ls hP hD hS (lv_sub hl [0, 1, 2] rfl)
        · replace h := it_f c7 h
          exact hB26 K4 hK4 x2 s5 h _ _ ls hP hD hS (lv_sub hl [0, 2] rfl)
  have hL4 : ∀ k_ : Nat, ∀ (x1 : Int32) (x2 : Int32) (s1 : St), fX7_firstWaiting_L4 nF k k_ x1 x2 s1 = some (r, s') → ∀ (H : Heap) (locs : List Loc) (ls : Array Slot), va_P D vwCl (wc cA ad a fr s1) H → va_D A (wc cA ad a fr s1) → va_S A s.heap H locs → lv_has ls 3 [(0, .ref (a k)), (1, .int x1), (2, .int x2)] → W p l e (RM 1) s m args below meth c H locs 0 0 (MQ below (gQi D (TYS cA) A (wc cA ad a fr) r s') args s 0 0 A) (F0 m 4 ls []) := by
    intro k_
    induction k_ with
    | zero => intro x1 x2 s1 h; cases h
    | succ k_ ih => exact hB4 (fX7_firstWaiting_L4 nF k k_) ih
  unfold fX7_firstWaiting at h
  refine lv_iconst (v := (-1)) hx hb dX7_firstWaiting_0 (by decide) ?_
  refine lv_istore_n (lv' := [(1, .int (-1)), (0, .ref (a k))]) hx hb dX7_firstWaiting_1 rfl hl (by decide) rfl (fun ls hl => ?_)
  refine lv_iconst (v := 0) hx hb dX7_firstWaiting_2 (by decide) ?_
  refine lv_istore_n (lv' := [(2, .int 0), (1, .int (-1)), (0, .ref (a k))]) hx hb dX7_firstWaiting_3 rfl hl (by decide) rfl (fun ls hl => ?_)
  exact hL4 nF (-1) 0 s0 h _ _ ls hP hD hS (lv_sub hl [2, 1, 0] rfl)
noncomputable def fX7_removeWaiting (k : Nat) (p1 : Int32) (s0 : St) : Option (Int32 × St) :=
  if p1 < (s0 k 5) then
    OB (fX7_move k ((s0 k 5) - 1) p1 s0) fun r2 s3 =>
    LET (u2 s3 k 5 ((s3 k 5) - 1)) fun s5 =>
    some (0, s5)
  else
    some (0, s0)
set_option maxHeartbeats 4000000 in
set_option maxRecDepth 100000 in
theorem mX7_removeWaiting (l : Launch) (D : va_G) (cA : Nat → ClassId) (ad adF adW tt a : Nat → Nat) (fr : va_W) (ST : gST) (hT : STE ad adF adW tt ST) (k : Nat) (hk : isN k) (p1 : Int32) (s0 : St) (r : Int32) (s' : St) (h : fX7_removeWaiting k p1 s0 = some (r, s')) : gMet l yX7_removeWaiting cX7_removeWaiting 2 none 1 D (TYS cA) ST (wc cA ad a fr s0) [.ref (a k), .int p1] (fun A => gQv D (TYS cA) A (wc cA ad a fr) s') := by
  refine g_ofW hT.1 (by decide +kernel) (Nat.le_of_ble_eq_true rfl) ?_
  intro p e s m args below meth c ls A G hP hD hl
  have G : GC p s m args meth c cX7_removeWaiting 2 RX7 none A D (TYS cA) ST := G
  have hx := G.1
  have hb := G.2.1
  have hS : va_S A s.heap s.heap [] := va_S.rf
  have hl : lv_has ls 2 [(0, .ref (a k)), (1, .int p1)] := hl
  unfold fX7_removeWaiting at h
  refine lv_iload_n hx hb dX7_removeWaiting_0 rfl (lv_at hl 1 rfl) ?_
  refine lv_aload_n hx hb dX7_removeWaiting_1 rfl (lv_at hl 0 rfl) ?_
  refine gfX7_28 hk G hP dX7_removeWaiting_2 ?_
  refine lv_icmp_lt (tgt := 9) hx hb dX7_removeWaiting_5 (by decide) (fun c1 => ?_) (fun c1 => ?_)
  · replace h := it_t c1 h
    refine lv_aload_n hx hb dX7_removeWaiting_9 rfl (lv_at hl 0 rfl) ?_
    refine lv_aload_n hx hb dX7_removeWaiting_10 rfl (lv_at hl 0 rfl) ?_
    refine gfX7_28 hk G hP dX7_removeWaiting_11 ?_
    refine lv_iconst (v := 1) hx hb dX7_removeWaiting_14 (by decide) ?_
    refine lv_isub hx hb dX7_removeWaiting_15 ?_
    refine lv_iload_n hx hb dX7_removeWaiting_16 rfl (lv_at hl 1 rfl) ?_
    obtain ⟨r2, s3, g4, h⟩ := ob_e h
    refine g_callVv (nA := 2) (mX7_move l D cA ad adF adW tt a fr ST hT k hk ((s0 k 5) - 1) p1 s0 r2 s3 g4) G hP hD hS (g_good q3_99 q3_101 qs_1 q1_3 q3_102) (by decide +kernel) (by decide) (ltN_0 hk) (sN_0 hk) rfl rfl hl.1 [] rfl (Nat.le_of_ble_eq_true rfl) dX7_removeWaiting_17 (fun H locs hP hD hS => ?_)
    refine lv_aload_n hx hb dX7_removeWaiting_20 rfl (lv_at hl 0 rfl) ?_
    refine lv_dup hx hb dX7_removeWaiting_21 rfl ?_
    refine gfX7_28 hk G hP dX7_removeWaiting_22 ?_
    refine lv_iconst (v := 1) hx hb dX7_removeWaiting_25 (by decide) ?_
    refine lv_isub hx hb dX7_removeWaiting_26 ?_
    refine pfX7_28 hk G hP hD hS dX7_removeWaiting_27 (fun s5 es5 H locs hP hD hS => ?_)
    replace h := let_e es5 h
    exact g_vret G hP hD hS h dX7_removeWaiting_30
  · replace h := it_f c1 h
    exact g_vret G hP hD hS h dX7_removeWaiting_8
noncomputable def fX7_takeFirst (nF : Nat) (k : Nat) (p1 : Int32) (s0 : St) : Option (Int32 × St) :=
  OB (fX7_firstWaiting nF k s0) fun r1 s2 =>
  if r1 = (-1) then
    some (0, s2)
  else
    OB (fX7_slotOn p1 s2) fun r5 s6 =>
    OB (fX7_move k r1 r5 s6) fun r8 s9 =>
    BND p1 3 <|
    LET (u2 s9 (k + 5) p1.toNatClampNeg (vp_nar .boolean 1)) fun s12 =>
    OB (fX7_removeWaiting k r1 s12) fun r13 s14 =>
    some (0, s14)
set_option maxHeartbeats 4000000 in
set_option maxRecDepth 100000 in
theorem mX7_takeFirst (l : Launch) (D : va_G) (cA : Nat → ClassId) (ad adF adW tt a : Nat → Nat) (fr : va_W) (ST : gST) (hT : STE ad adF adW tt ST) (nF : Nat) (k : Nat) (hk : isN k) (p1 : Int32) (s0 : St) (r : Int32) (s' : St) (h : fX7_takeFirst nF k p1 s0 = some (r, s')) : gMet l yX7_takeFirst cX7_takeFirst 3 none 2 D (TYS cA) ST (wc cA ad a fr s0) [.ref (a k), .int p1] (fun A => gQv D (TYS cA) A (wc cA ad a fr) s') := by
  refine g_ofW hT.1 (by decide +kernel) (Nat.le_of_ble_eq_true rfl) ?_
  intro p e s m args below meth c ls A G hP hD hl
  have G : GC p s m args meth c cX7_takeFirst 3 RX7 none A D (TYS cA) ST := G
  have hx := G.1
  have hb := G.2.1
  have hS : va_S A s.heap s.heap [] := va_S.rf
  have hl : lv_has ls 3 [(0, .ref (a k)), (1, .int p1)] := hl
  unfold fX7_takeFirst at h
  refine lv_aload_n hx hb dX7_takeFirst_0 rfl (lv_at hl 0 rfl) ?_
  obtain ⟨r1, s2, g3, h⟩ := ob_e h
  refine g_callVi (nA := 0) (mX7_firstWaiting l D cA ad adF adW tt a fr ST hT nF k hk s0 r1 s2 g3) G hP hD hS (g_good q3_122 q3_124 qs_2 q1_3 q3_125) (by decide +kernel) (by decide) (ltN_0 hk) (sN_0 hk) rfl rfl hl.1 [] rfl (Nat.le_of_ble_eq_true rfl) dX7_takeFirst_1 (fun H locs hP hD hS => ?_)
  refine lv_istore_n (lv' := [(2, .int r1), (0, .ref (a k)), (1, .int p1)]) hx hb dX7_takeFirst_4 rfl hl (by decide) rfl (fun ls hl => ?_)
  refine lv_iload_n hx hb dX7_takeFirst_5 rfl (lv_at hl 0 rfl) ?_
  refine lv_iconst (v := (-1)) hx hb dX7_takeFirst_6 (by decide) ?_
  refine lv_icmp_ne (tgt := 11) hx hb dX7_takeFirst_7 (by decide) (fun c4 => ?_) (fun c4 => ?_)
  · replace h := it_f c4 h
    refine lv_aload_n hx hb dX7_takeFirst_11 rfl (lv_at hl 1 rfl) ?_
    refine lv_iload_n hx hb dX7_takeFirst_12 rfl (lv_at hl 0 rfl) ?_
    refine lv_iload_n hx hb dX7_takeFirst_13 rfl (lv_at hl 2 rfl) ?_
    obtain ⟨r5, s6, g7, h⟩ := ob_e h
    refine g_callSXi (nA := 1) (mX7_slotOn l D cA ad adF adW tt a fr ST hT p1 s2 r5 s6 g7) G hP hD hS (g_goodSX q3_96 q3_97 q1_3 q3_98) (by decide +kernel) (by decide) rfl hl.1 [.int r1, .ref (a k)] rfl (Nat.le_of_ble_eq_true rfl) dX7_takeFirst_14 (fun H locs hP hD hS => ?_)
    obtain ⟨r8, s9, g10, h⟩ := ob_e h
    refine g_callVv (nA := 2) (mX7_move l D cA ad adF adW tt a fr ST hT k hk r1 r5 s6 r8 s9 g10) G hP hD hS (g_good q3_99 q3_101 qs_1 q1_3 q3_102) (by decide +kernel) (by decide) (ltN_0 hk) (sN_0 hk) rfl rfl hl.1 [] rfl (Nat.le_of_ble_eq_true rfl) dX7_takeFirst_17 (fun H locs hP hD hS => ?_)
    refine lv_aload_n hx hb dX7_takeFirst_20 rfl (lv_at hl 1 rfl) ?_
    refine gfX7_24 hk G hP dX7_takeFirst_21 ?_
    refine lv_iload_n hx hb dX7_takeFirst_24 rfl (lv_at hl 2 rfl) ?_
    refine lv_iconst (v := 1) hx hb dX7_takeFirst_25 (by decide) ?_
    obtain ⟨b11, h⟩ := bnd_e h
    refine g_ast (t := 2) (ty := .boolean) (Or.inr (Or.inr rfl)) G hP hD hS (k + 5) (ltN_5 hk) (sN_5 hk) rfl b11 dX7_takeFirst_26 (fun s12 es12 H locs hP hD hS => ?_)
    replace h := let_e es12 h
    refine lv_aload_n hx hb dX7_takeFirst_27 rfl (lv_at hl 1 rfl) ?_
    refine lv_iload_n hx hb dX7_takeFirst_28 rfl (lv_at hl 0 rfl) ?_
    obtain ⟨r13, s14, g15, h⟩ := ob_e h
    refine g_callVv (nA := 1) (mX7_removeWaiting l D cA ad adF adW tt a fr ST hT k hk r1 s12 r13 s14 g15) G hP hD hS (g_good q3_130 q3_131 q3_132 q1_3 q3_133) (by decide +kernel) (by decide) (ltN_0 hk) (sN_0 hk) rfl rfl hl.1 [] rfl (Nat.le_of_ble_eq_true rfl) dX7_takeFirst_29 (fun H locs hP hD hS => ?_)
    exact g_vret G hP hD hS h dX7_takeFirst_32
  · replace h := it_t c4 h
    exact g_vret G hP hD hS h dX7_takeFirst_10
noncomputable def fX7_leave (k : Nat) (p1 : Int32) (s0 : St) : Option (Int32 × St) :=
  BND p1 3 <|
  LET (u2 s0 (k + 5) p1.toNatClampNeg (vp_nar .boolean 0)) fun s2 =>
  some (0, s2)
set_option maxHeartbeats 4000000 in
set_option maxRecDepth 100000 in
theorem mX7_leave (l : Launch) (D : va_G) (cA : Nat → ClassId) (ad adF adW tt a : Nat → Nat) (fr : va_W) (ST : gST) (hT : STE ad adF adW tt ST) (k : Nat) (hk : isN k) (p1 : Int32) (s0 : St) (r : Int32) (s' : St) (h : fX7_leave k p1 s0 = some (r, s')) : gMet l yX7_leave cX7_leave 2 none 0 D (TYS cA) ST (wc cA ad a fr s0) [.ref (a k), .int p1] (fun A => gQv D (TYS cA) A (wc cA ad a fr) s') := by
  refine g_ofW hT.1 (by decide +kernel) (Nat.le_of_ble_eq_true rfl) ?_
  intro p e s m args below meth c ls A G hP hD hl
  have G : GC p s m args meth c cX7_leave 2 RX7 none A D (TYS cA) ST := G
  have hx := G.1
  have hb := G.2.1
  have hS : va_S A s.heap s.heap [] := va_S.rf
  have hl : lv_has ls 2 [(0, .ref (a k)), (1, .int p1)] := hl
  unfold fX7_leave at h
  refine lv_aload_n hx hb dX7_leave_0 rfl (lv_at hl 0 rfl) ?_
  refine gfX7_24 hk G hP dX7_leave_1 ?_
  refine lv_iload_n hx hb dX7_leave_4 rfl (lv_at hl 1 rfl) ?_
  refine lv_iconst (v := 0) hx hb dX7_leave_5 (by decide) ?_
  obtain ⟨b1, h⟩ := bnd_e h
  refine g_ast (t := 2) (ty := .boolean) (Or.inr (Or.inr rfl)) G hP hD hS (k + 5) (ltN_5 hk) (sN_5 hk) rfl b1 dX7_leave_6 (fun s2 es2 H locs hP hD hS => ?_)
  replace h := let_e es2 h
  exact g_vret G hP hD hS h dX7_leave_7
noncomputable def fX7_slotOf_B62 (nF : Nat) (k : Nat) (K30 : Int32 → Int32 → St → Option (Int32 × St)) (x1 : Int32) (x2 : Int32) (s1 : St) : Option (Int32 × St) :=
  LET (x2 + 1) fun y1 =>
  K30 x1 y1 s1
noncomputable def fX7_slotOf_L30b (nF : Nat) (k : Nat) (K30 : Int32 → Int32 → St → Option (Int32 × St)) (x1 : Int32) (x2 : Int32) (s1 : St) : Option (Int32 × St) :=
  if 3 ≤ x2 then
    some ((-1), s1)
  else
    BND x2 3 <|
    if (s1 (k + 5) x2.toNatClampNeg) = 0 then
      fX7_slotOf_B62 nF k K30 x1 x2 s1
    else
      OB (fX7_slotOn x2 s1) fun r5 s6 =>
      BND r5 15 <|
      if (s6 (k + 1) r5.toNatClampNeg) = x1 then
        OB (fX7_slotOn x2 s6) fun r10 s11 =>
        some (r10, s11)
      else
        fX7_slotOf_B62 nF k K30 x1 x2 s6
noncomputable def fX7_slotOf_L30 (nF : Nat) (k : Nat) : Nat → Int32 → Int32 → St → Option (Int32 × St) := fun k_ => Nat.rec (fun _ _ _ => none) (fun _ K => fX7_slotOf_L30b nF k K) k_
theorem fX7_slotOf_L30_s (nF : Nat) (k : Nat) (k_ : Nat) : fX7_slotOf_L30 nF k (k_ + 1) = fX7_slotOf_L30b nF k (fX7_slotOf_L30 nF k k_) := rfl
noncomputable def fX7_slotOf_L2b (nF : Nat) (k : Nat) (K2 : Int32 → Int32 → St → Option (Int32 × St)) (x1 : Int32) (x2 : Int32) (s1 : St) : Option (Int32 × St) :=
  if (s1 k 5) ≤ x2 then
    fX7_slotOf_L30 nF k nF x1 0 s1
  else
    BND x2 15 <|
    if (s1 (k + 1) x2.toNatClampNeg) = x1 then
      some (x2, s1)
    else
      LET (x2 + 1) fun y16 =>
      K2 x1 y16 s1
noncomputable def fX7_slotOf_L2 (nF : Nat) (k : Nat) : Nat → Int32 → Int32 → St → Option (Int32 × St) := fun k_ => Nat.rec (fun _ _ _ => none) (fun _ K => fX7_slotOf_L2b nF k K) k_
theorem fX7_slotOf_L2_s (nF : Nat) (k : Nat) (k_ : Nat) : fX7_slotOf_L2 nF k (k_ + 1) = fX7_slotOf_L2b nF k (fX7_slotOf_L2 nF k k_) := rfl
noncomputable def fX7_slotOf (nF : Nat) (k : Nat) (p1 : Int32) (s0 : St) : Option (Int32 × St) :=
  fX7_slotOf_L2 nF k nF p1 0 s0
set_option maxHeartbeats 4000000 in
set_option maxRecDepth 100000 in
theorem mX7_slotOf (l : Launch) (D : va_G) (cA : Nat → ClassId) (ad adF adW tt a : Nat → Nat) (fr : va_W) (ST : gST) (hT : STE ad adF adW tt ST) (nF : Nat) (k : Nat) (hk : isN k) (p1 : Int32) (s0 : St) (r : Int32) (s' : St) (h : fX7_slotOf nF k p1 s0 = some (r, s')) : gMet l yX7_slotOf cX7_slotOf 3 (some .int) 1 D (TYS cA) ST (wc cA ad a fr s0) [.ref (a k), .int p1] (fun A => gQi D (TYS cA) A (wc cA ad a fr) r s') := by
  refine g_ofW hT.1 (by decide +kernel) (Nat.le_of_ble_eq_true rfl) ?_
  intro p e s m args below meth c ls A G hP hD hl
  have G : GC p s m args meth c cX7_slotOf 3 RX7 (some .int) A D (TYS cA) ST := G
  have hx := G.1
  have hb := G.2.1
  have hS : va_S A s.heap s.heap [] := va_S.rf
  have hl : lv_has ls 3 [(0, .ref (a k)), (1, .int p1)] := hl
  have hB62 : ∀ (K30 : Int32 → Int32 → St → Option (Int32 × St)), (∀ (x1 : Int32) (x2 : Int32) (s1 : St), K30 x1 x2 s1 = some (r, s') → ∀ (H : Heap) (locs : List Loc) (ls : Array Slot), va_P D vwCl (wc cA ad a fr s1) H → va_D A (wc cA ad a fr s1) → va_S A s.heap H locs → lv_has ls 3 [(0, .ref (a k)), (1, .int x1), (2, .int x2)] → W p l e (RM 1) s m args below meth c H locs 0 0 (MQ below (gQi D (TYS cA) A (wc cA ad a fr) r s') args s 0 0 A) (F0 m 30 ls [])) → ∀ (x1 : Int32) (x2 : Int32) (s1 : St), fX7_slotOf_B62 nF k K30 x1 x2 s1 = some (r, s') → ∀ (H : Heap) (locs : List Loc) (ls : Array Slot), va_P D vwCl (wc cA ad a fr s1) H → va_D A (wc cA ad a fr s1) → va_S A s.heap H locs → lv_has ls 3 [(0, .ref (a k)), (1, .int x1), (2, .int x2)] → W p l e (RM 1) s m args below meth c H locs 0 0 (MQ below (gQi D (TYS cA) A (wc cA ad a fr) r s') args s 0 0 A) (F0 m 62 ls []) := by
    intro K30 hK30 x1 x2 s1 h H locs ls hP hD hS hl
    unfold fX7_slotOf_B62 at h
    obtain ⟨y1, ey1⟩ : ∃ y : Int32, y = x2 + 1 := ⟨_, rfl⟩
    replace h := let_e ey1 h
    refine lv_iinc (v := y1) (lv' := [(2, .int y1), (0, .ref (a k)), (1, .int x1)]) hx hb dX7_slotOf_62 hl (k := 2) rfl (by rw [ey1]; rfl) (by decide) rfl (fun ls hl => ?_)
    refine lv_goto (tgt := 30) hx hb dX7_slotOf_65 (by decide) ?_
    exact hK30 x1 y1 s1 h _ _ ls hP hD hS (lv_sub hl [1, 2, 0] rfl)
  have hB30 : ∀ (K30 : Int32 → Int32 → St → Option (Int32 × St)), (∀ (x1 : Int32) (x2 : Int32) (s1 : St), K30 x1 x2 s1 = some (r, s') → ∀ (H : Heap) (locs : List Loc) (ls : Array Slot), va_P D vwCl (wc cA ad a fr s1) H → va_D A (wc cA ad a fr s1) → va_S A s.heap H locs → lv_has ls 3 [(0, .ref (a k)), (1, .int x1), (2, .int x2)] → W p l e (RM 1) s m args below meth c H locs 0 0 (MQ below (gQi D (TYS cA) A (wc cA ad a fr) r s') args s 0 0 A) (F0 m 30 ls [])) → ∀ (x1 : Int32) (x2 : Int32) (s1 : St), fX7_slotOf_L30b nF k K30 x1 x2 s1 = some (r, s') → ∀ (H : Heap) (locs : List Loc) (ls : Array Slot), va_P D vwCl (wc cA ad a fr s1) H → va_D A (wc cA ad a fr s1) → va_S A s.heap H locs → lv_has ls 3 [(0, .ref (a k)), (1, .int x1), (2, .int x2)] → W p l e (RM 1) s m args below meth c H locs 0 0 (MQ below (gQi D (TYS cA) A (wc cA ad a fr) r s') args s 0 0 A) (F0 m 30 ls []) := by
    intro K30 hK30 x1 x2 s1 h H locs ls hP hD hS hl
    unfold fX7_slotOf_L30b at h
    refine lv_iload_n hx hb dX7_slotOf_30 rfl (lv_at hl 2 rfl) ?_
    refine lv_iconst (v := 3) hx hb dX7_slotOf_31 (by decide) ?_
    refine lv_icmp_ge (tgt := 68) hx hb dX7_slotOf_32 (by decide) (fun c2 => ?_) (fun c2 => ?_)
    · replace h := it_t c2 h
      refine lv_iconst (v := (-1)) hx hb dX7_slotOf_68 (by decide) ?_
      exact g_ret G hP hD hS h rfl dX7_slotOf_69
    · replace h := it_f c2 h
      refine lv_aload_n hx hb dX7_slotOf_35 rfl (lv_at hl 0 rfl) ?_
      refine gfX7_24 hk G hP dX7_slotOf_36 ?_
      refine lv_iload_n hx hb dX7_slotOf_39 rfl (lv_at hl 2 rfl) ?_
      obtain ⟨b3, h⟩ := bnd_e h
      refine g_ald (t := 2) (ty := .boolean) (Or.inr (Or.inr rfl)) G hP (k + 5) (ltN_5 hk) (sN_5 hk) rfl b3 dX7_slotOf_40 ?_
      refine lv_if_eq (tgt := 62) hx hb dX7_slotOf_41 (by decide) (fun c4 => ?_) (fun c4 => ?_)
      · replace h := it_t c4 h
        exact hB62 K30 hK30 x1 x2 s1 h _ _ ls hP hD hS (lv_sub hl [0, 1, 2] rfl)
      · replace h := it_f c4 h
        refine lv_aload_n hx hb dX7_slotOf_44 rfl (lv_at hl 0 rfl) ?_
        refine gfX7_11 hk G hP dX7_slotOf_45 ?_
        refine lv_iload_n hx hb dX7_slotOf_48 rfl (lv_at hl 2 rfl) ?_
        obtain ⟨r5, s6, g7, h⟩ := ob_e h
        refine g_callSXi (nA := 1) (mX7_slotOn l D cA ad adF adW tt a fr ST hT x2 s1 r5 s6 g7) G hP hD hS (g_goodSX q3_96 q3_97 q1_3 q3_98) (by decide +kernel) (by decide) rfl hl.1 [.ref (a (k + 1))] rfl (Nat.le_of_ble_eq_true rfl) dX7_slotOf_49 (fun H locs hP hD hS => ?_)
        obtain ⟨b8, h⟩ := bnd_e h
        refine g_ald (t := 0) (ty := .int) (Or.inl rfl) G hP (k + 1) (ltN_1 hk) (sN_1 hk) rfl b8 dX7_slotOf_52 ?_
        refine lv_iload_n hx hb dX7_slotOf_53 rfl (lv_at hl 1 rfl) ?_
        refine lv_icmp_ne (tgt := 62) hx hb dX7_slotOf_54 (by decide) (fun c9 => ?_) (fun c9 => ?_)
        · replace h := it_f c9 h
          exact hB62 K30 hK30 x1 x2 s6 h _ _ ls hP hD hS (lv_sub hl [0, 1, 2] rfl)
        · replace h := it_t c9 h
          refine lv_iload_n hx hb dX7_slotOf_57 rfl (lv_at hl 2 rfl) ?_
          obtain ⟨r10, s11, g12, h⟩ := ob_e h
          refine g_callSXi (nA := 1) (mX7_slotOn l D cA ad adF adW tt a fr ST hT x2 s6 r10 s11 g12) G hP hD hS (g_goodSX q3_96 q3_97 q1_3 q3_98) (by decide +kernel) (by decide) rfl hl.1 [] rfl (Nat.le_of_ble_eq_true rfl) dX7_slotOf_58 (fun H locs hP hD hS => ?_)
          exact g_ret G hP hD hS h rfl dX7_slotOf_61
  have hL30 : ∀ k_ : Nat, ∀ (x1 : Int32) (x2 : Int32) (s1 : St), fX7_slotOf_L30 nF k k_ x1 x2 s1 = some (r, s') → ∀ (H : Heap) (locs : List Loc) (ls : Array Slot), va_P D vwCl (wc cA ad a fr s1) H → va_D A (wc cA ad a fr s1) → va_S A s.heap H locs → lv_has ls 3 [(0, .ref (a k)), (1, .int x1), (2, .int x2)] → W p l e (RM 1) s m args below meth c H locs 0 0 (MQ below (gQi D (TYS cA) A (wc cA ad a fr) r s') args s 0 0 A) (F0 m 30 ls []) := by
    intro k_
    induction k_ with
    | zero => intro x1 x2 s1 h; cases h
    | succ k_ ih => exact hB30 (fX7_slotOf_L30 nF k k_) ih
  have hB2 : ∀ (K2 : Int32 → Int32 → St → Option (Int32 × St)), (∀ (x1 : Int32) (x2 : Int32) (s1 : St), K2 x1 x2 s1 = some (r, s') → ∀ (H : Heap) (locs : List Loc) (ls : Array Slot), va_P D vwCl (wc cA ad a fr s1) H → va_D A (wc cA ad a fr s1) → va_S A s.heap H locs → lv_has ls 3 [(0, .ref (a k)), (1, .int x1), (2, .int x2)] → W p l e (RM 1) s m args below meth c H locs 0 0 (MQ below (gQi D (TYS cA) A (wc cA ad a fr) r s') args s 0 0 A) (F0 m 2 ls [])) → ∀ (x1 : Int32) (x2 : Int32) (s1 : St), fX7_slotOf_L2b nF k K2 x1 x2 s1 = some (r, s') → ∀ (H : Heap) (locs : List Loc) (ls : Array Slot), va_P D vwCl (wc cA ad a fr s1) H → va_D A (wc cA ad a fr s1) → va_S A s.heap H locs → lv_has ls 3 [(0, .ref (a k)), (1, .int x1), (2, .int x2)] → W p l e (RM 1) s m args below meth c H locs 0 0 (MQ below (gQi D (TYS cA) A (wc cA ad a fr) r s') args s 0 0 A) (F0 m 2 ls []) := by
    intro K2 hK2 x1 x2 s1 h H locs ls hP hD hS hl
    unfold fX7_slotOf_L2b at h
    refine lv_iload_n hx hb dX7_slotOf_2 rfl (lv_at hl 2 rfl) ?_
    refine lv_aload_n hx hb dX7_slotOf_3 rfl (lv_at hl 0 rfl) ?_
    refine gfX7_28 hk G hP dX7_slotOf_4 ?_
    refine lv_icmp_ge (tgt := 28) hx hb dX7_slotOf_7 (by decide) (fun c13 => ?_) (fun c13 => ?_)
    · replace h := it_t c13 h
      refine lv_iconst (v := 0) hx hb dX7_slotOf_28 (by decide) ?_
      refine lv_istore_n (lv' := [(2, .int 0), (0, .ref (a k)), (1, .int x1)]) hx hb dX7_slotOf_29 rfl hl (by decide) rfl (fun ls hl => ?_)
      exact hL30 nF x1 0 s1 h _ _ ls hP hD hS (lv_sub hl [1, 2, 0] rfl)
    · replace h := it_f c13 h
      refine lv_aload_n hx hb dX7_slotOf_10 rfl (lv_at hl 0 rfl) ?_
      refine gfX7_11 hk G hP dX7_slotOf_11 ?_
      refine lv_iload_n hx hb dX7_slotOf_14 rfl (lv_at hl 2 rfl) ?_
      obtain ⟨b14, h⟩ := bnd_e h
      refine g_ald (t := 0) (ty := .int) (Or.inl rfl) G hP (k + 1) (ltN_1 hk) (sN_1 hk) rfl b14 dX7_slotOf_15 ?_
      refine lv_iload_n hx hb dX7_slotOf_16 rfl (lv_at hl 1 rfl) ?_
      refine lv_icmp_ne (tgt := 22) hx hb dX7_slotOf_17 (by decide) (fun c15 => ?_) (fun c15 => ?_)
      · replace h := it_f c15 h
        obtain ⟨y16, ey16⟩ : ∃ y : Int32, y = x2 + 1 := ⟨_, rfl⟩
        replace h := let_e ey16 h
        refine lv_iinc (v := y16) (lv' := [(2, .int y16), (0, .ref (a k)), (1, .int x1)]) hx hb dX7_slotOf_22 hl (k := 2) rfl (by rw [ey16]; rfl) (by decide) rfl (fun ls hl => ?_)
        refine lv_goto (tgt := 2) hx hb dX7_slotOf_25 (by decide) ?_
        exact hK2 x1 y16 s1 h _ _ ls hP hD hS (lv_sub hl [1, 2, 0] rfl)
      · replace h := it_t c15 h
        refine lv_iload_n hx hb dX7_slotOf_20 rfl (lv_at hl 2 rfl) ?_
        exact g_ret G hP hD hS h rfl dX7_slotOf_21
  have hL2 : ∀ k_ : Nat, ∀ (x1 : Int32) (x2 : Int32) (s1 : St), fX7_slotOf_L2 nF k k_ x1 x2 s1 = some (r, s') → ∀ (H : Heap) (locs : List Loc) (ls : Array Slot), va_P D vwCl (wc cA ad a fr s1) H → va_D A (wc cA ad a fr s1) → va_S A s.heap H locs → lv_has ls 3 [(0, .ref (a k)), (1, .int x1), (2, .int x2)] → W p l e (RM 1) s m args below meth c H locs 0 0 (MQ below (gQi D (TYS cA) A (wc cA ad a fr) r s') args s 0 0 A) (F0 m 2 ls []) := by
    intro k_
    induction k_ with
    | zero => intro x1 x2 s1 h; cases h
    | succ k_ ih => exact hB2 (fX7_slotOf_L2 nF k k_) ih
  unfold fX7_slotOf at h
  refine lv_iconst (v := 0) hx hb dX7_slotOf_0 (by decide) ?_
  refine lv_istore_n (lv' := [(2, .int 0), (0, .ref (a k)), (1, .int p1)]) hx hb dX7_slotOf_1 rfl hl (by decide) rfl (fun ls hl => ?_)
  exact hL2 nF p1 0 s0 h _ _ ls hP hD hS (lv_sub hl [1, 2, 0] rfl)
noncomputable def fX7_isWaitingSlot (p1 : Int32) (s0 : St) : Option (Int32 × St) :=
  if 12 ≤ p1 then
    some (0, s0)
  else
    some (1, s0)
set_option maxHeartbeats 4000000 in
set_option maxRecDepth 100000 in
theorem mX7_isWaitingSlot (l : Launch) (D : va_G) (cA : Nat → ClassId) (ad adF adW tt a : Nat → Nat) (fr : va_W) (ST : gST) (hT : STE ad adF adW tt ST) (p1 : Int32) (s0 : St) (r : Int32) (s' : St) (h : fX7_isWaitingSlot p1 s0 = some (r, s')) : gMet l yX7_isWaitingSlot cX7_isWaitingSlot 1 (some .boolean) 0 D (TYS cA) ST (wc cA ad a fr s0) [.int p1] (fun A => gQi D (TYS cA) A (wc cA ad a fr) r s') := by
  refine g_ofW hT.1 (by decide +kernel) (Nat.le_of_ble_eq_true rfl) ?_
  intro p e s m args below meth c ls A G hP hD hl
  have G : GC p s m args meth c cX7_isWaitingSlot 1 RX7 (some .boolean) A D (TYS cA) ST := G
  have hx := G.1
  have hb := G.2.1
  have hS : va_S A s.heap s.heap [] := va_S.rf
  have hl : lv_has ls 1 [(0, .int p1)] := hl
  unfold fX7_isWaitingSlot at h
  refine lv_iload_n hx hb dX7_isWaitingSlot_0 rfl (lv_at hl 0 rfl) ?_
  refine lv_bipush (v := 12) hx hb dX7_isWaitingSlot_1 (by decide) ?_
  refine lv_icmp_ge (tgt := 10) hx hb dX7_isWaitingSlot_3 (by decide) (fun c1 => ?_) (fun c1 => ?_)
  · replace h := it_t c1 h
    refine lv_iconst (v := 0) hx hb dX7_isWaitingSlot_10 (by decide) ?_
    exact g_ret G hP hD hS h rfl dX7_isWaitingSlot_11
  · replace h := it_f c1 h
    refine lv_iconst (v := 1) hx hb dX7_isWaitingSlot_6 (by decide) ?_
    refine lv_goto (tgt := 11) hx hb dX7_isWaitingSlot_7 (by decide) ?_
    exact g_ret G hP hD hS h rfl dX7_isWaitingSlot_11
noncomputable def fX7_countBefore_B31 (nF : Nat) (k : Nat) (K11 : Int32 → Int32 → Int32 → St → Option (Int32 × St)) (x1 : Int32) (x2 : Int32) (x3 : Int32) (s1 : St) : Option (Int32 × St) :=
  LET (x3 + 1) fun y1 =>
  K11 x1 x2 y1 s1
noncomputable def fX7_countBefore_L11b (nF : Nat) (k : Nat) (K11 : Int32 → Int32 → Int32 → St → Option (Int32 × St)) (x1 : Int32) (x2 : Int32) (x3 : Int32) (s1 : St) : Option (Int32 × St) :=
  if (s1 k 5) ≤ x3 then
    some (x2, s1)
  else
    OB (fX7_isBefore k x3 x1 s1) fun r3 s4 =>
    if r3 = 0 then
      fX7_countBefore_B31 nF k K11 x1 x2 x3 s4
    else
      LET (x2 + 1) fun y7 =>
      fX7_countBefore_B31 nF k K11 x1 y7 x3 s4
noncomputable def fX7_countBefore_L11 (nF : Nat) (k : Nat) : Nat → Int32 → Int32 → Int32 → St → Option (Int32 × St) := fun k_ => Nat.rec (fun _ _ _ _ => none) (fun _ K => fX7_countBefore_L11b nF k K) k_
theorem fX7_countBefore_L11_s (nF : Nat) (k : Nat) (k_ : Nat) : fX7_countBefore_L11 nF k (k_ + 1) = fX7_countBefore_L11b nF k (fX7_countBefore_L11 nF k k_) := rfl
noncomputable def fX7_countBefore (nF : Nat) (k : Nat) (p1 : Int32) (s0 : St) : Option (Int32 × St) :=
  if p1 = (-1) then
    some ((-1), s0)
  else
    fX7_countBefore_L11 nF k nF p1 0 0 s0
set_option maxHeartbeats 4000000 in
set_option maxRecDepth 100000 in
theorem mX7_countBefore (l : Launch) (D : va_G) (cA : Nat → ClassId) (ad adF adW tt a : Nat → Nat) (fr : va_W) (ST : gST) (hT : STE ad adF adW tt ST) (nF : Nat) (k : Nat) (hk : isN k) (p1 : Int32) (s0 : St) (r : Int32) (s' : St) (h : fX7_countBefore nF k p1 s0 = some (r, s')) : gMet l yX7_countBefore cX7_countBefore 4 (some .int) 1 D (TYS cA) ST (wc cA ad a fr s0) [.ref (a k), .int p1] (fun A => gQi D (TYS cA) A (wc cA ad a fr) r s') := by
  refine g_ofW hT.1 (by decide +kernel) (Nat.le_of_ble_eq_true rfl) ?_
  intro p e s m args below meth c ls A G hP hD hl
  have G : GC p s m args meth c cX7_countBefore 4 RX7 (some .int) A D (TYS cA) ST := G
  have hx := G.1
  have hb := G.2.1
  have hS : va_S A s.heap s.heap [] := va_S.rf
  have hl : lv_has ls 4 [(0, .ref (a k)), (1, .int p1)] := hl
  have hB31 : ∀ (K11 : Int32 → Int32 → Int32 → St → Option (Int32 × St)), (∀ (x1 : Int32) (x2 : Int32) (x3 : Int32) (s1 : St), K11 x1 x2 x3 s1 = some (r, s') → ∀ (H : Heap) (locs : List Loc) (ls : Array Slot), va_P D vwCl (wc cA ad a fr s1) H → va_D A (wc cA ad a fr s1) → va_S A s.heap H locs → lv_has ls 4 [(0, .ref (a k)), (1, .int x1), (2, .int x2), (3, .int x3)] → W p l e (RM 1) s m args below meth c H locs 0 0 (MQ below (gQi D (TYS cA) A (wc cA ad a fr) r s') args s 0 0 A) (F0 m 11 ls [])) → ∀ (x1 : Int32) (x2 : Int32) (x3 : Int32) (s1 : St), fX7_countBefore_B31 nF k K11 x1 x2 x3 s1 = some (r, s') → ∀ (H : Heap) (locs : List Loc) (ls : Array Slot), va_P D vwCl (wc cA ad a fr s1) H → va_D A (wc cA ad a fr s1) → va_S A s.heap H locs → lv_has ls 4 [(0, .ref (a k)), (1, .int x1), (2, .int x2), (3, .int x3)] → W p l e (RM 1) s m args below meth c H locs 0 0 (MQ below (gQi D (TYS cA) A (wc cA ad a fr) r s') args s 0 0 A) (F0 m 31 ls []) := by
    intro K11 hK11 x1 x2 x3 s1 h H locs ls hP hD hS hl
    unfold fX7_countBefore_B31 at h
    obtain ⟨y1, ey1⟩ : ∃ y : Int32, y = x3 + 1 := ⟨_, rfl⟩
    replace h := let_e ey1 h
    refine lv_iinc (v := y1) (lv' := [(3, .int y1), (0, .ref (a k)), (1, .int x1), (2, .int x2)]) hx hb dX7_countBefore_31 hl (k := 3) rfl (by rw [ey1]; rfl) (by decide) rfl (fun ls hl => ?_)
    refine lv_goto (tgt := 11) hx hb dX7_countBefore_34 (by decide) ?_
    exact hK11 x1 x2 y1 s1 h _ _ ls hP hD hS (lv_sub hl [1, 2, 3, 0] rfl)
  have hB11 : ∀ (K11 : Int32 → Int32 → Int32 → St → Option (Int32 × St)), (∀ (x1 : Int32) (x2 : Int32) (x3 : Int32) (s1 : St), K11 x1 x2 x3 s1 = some (r, s') → ∀ (H : Heap) (locs : List Loc) (ls : Array Slot), va_P D vwCl (wc cA ad a fr s1) H → va_D A (wc cA ad a fr s1) → va_S A s.heap H locs → lv_has ls 4 [(0, .ref (a k)), (1, .int x1), (2, .int x2), (3, .int x3)] → W p l e (RM 1) s m args below meth c H locs 0 0 (MQ below (gQi D (TYS cA) A (wc cA ad a fr) r s') args s 0 0 A) (F0 m 11 ls [])) → ∀ (x1 : Int32) (x2 : Int32) (x3 : Int32) (s1 : St), fX7_countBefore_L11b nF k K11 x1 x2 x3 s1 = some (r, s') → ∀ (H : Heap) (locs : List Loc) (ls : Array Slot), va_P D vwCl (wc cA ad a fr s1) H → va_D A (wc cA ad a fr s1) → va_S A s.heap H locs → lv_has ls 4 [(0, .ref (a k)), (1, .int x1), (2, .int x2), (3, .int x3)] → W p l e (RM 1) s m args below meth c H locs 0 0 (MQ below (gQi D (TYS cA) A (wc cA ad a fr) r s') args s 0 0 A) (F0 m 11 ls []) := by
    intro K11 hK11 x1 x2 x3 s1 h H locs ls hP hD hS hl
    unfold fX7_countBefore_L11b at h
    refine lv_iload_n hx hb dX7_countBefore_11 rfl (lv_at hl 3 rfl) ?_
    refine lv_aload_n hx hb dX7_countBefore_12 rfl (lv_at hl 0 rfl) ?_
    refine gfX7_28 hk G hP dX7_countBefore_13 ?_
    refine lv_icmp_ge (tgt := 37) hx hb dX7_countBefore_16 (by decide) (fun c2 => ?_) (fun c2 => ?_)
    · replace h := it_t c2 h
      refine lv_iload_n hx hb dX7_countBefore_37 rfl (lv_at hl 2 rfl) ?_
      exact g_ret G hP hD hS h rfl dX7_countBefore_38
    · replace h := it_f c2 h
      refine lv_aload_n hx hb dX7_countBefore_19 rfl (lv_at hl 0 rfl) ?_
      refine lv_iload_n hx hb dX7_countBefore_20 rfl (lv_at hl 3 rfl) ?_
      refine lv_iload_n hx hb dX7_countBefore_21 rfl (lv_at hl 1 rfl) ?_
      obtain ⟨r3, s4, g5, h⟩ := ob_e h
      refine g_callVi (nA := 2) (mX7_isBefore l D cA ad adF adW tt a fr ST hT k hk x3 x1 s1 r3 s4 g5) G hP hD hS (g_good q3_126 q3_127 q3_128 q1_3 q3_129) (by decide +kernel) (by decide) (ltN_0 hk) (sN_0 hk) rfl rfl hl.1 [] rfl (Nat.le_of_ble_eq_true rfl) dX7_countBefore_22 (fun H locs hP hD hS => ?_)
      refine lv_if_eq (tgt := 31) hx hb dX7_countBefore_25 (by decide) (fun c6 => ?_) (fun c6 => ?_)
      · replace h := it_t c6 h
        exact hB31 K11 hK11 x1 x2 x3 s4 h _ _ ls hP hD hS (lv_sub hl [0, 1, 2, 3] rfl)
      · replace h := it_f c6 h
        obtain ⟨y7, ey7⟩ : ∃ y : Int32, y = x2 + 1 := ⟨_, rfl⟩
        replace h := let_e ey7 h
        refine lv_iinc (v := y7) (lv' := [(2, .int y7), (0, .ref (a k)), (1, .int x1), (3, .int x3)]) hx hb dX7_countBefore_28 hl (k := 2) rfl (by rw [ey7]; rfl) (by decide) rfl (fun ls hl => ?_)
        exact hB31 K11 hK11 x1 y7 x3 s4 h _ _ ls hP hD hS (lv_sub hl [1, 2, 0, 3] rfl)
  have hL11 : ∀ k_ : Nat, ∀ (x1 : Int32) (x2 : Int32) (x3 : Int32) (s1 : St), fX7_countBefore_L11 nF k k_ x1 x2 x3 s1 = some (r, s') → ∀ (H : Heap) (locs : List Loc) (ls : Array Slot), va_P D vwCl (wc cA ad a fr s1) H → va_D A (wc cA ad a fr s1) → va_S A s.heap H locs → lv_has ls 4 [(0, .ref (a k)), (1, .int x1), (2, .int x2), (3, .int x3)] → W p l e (RM 1) s m args below meth c H locs 0 0 (MQ below (gQi D (TYS cA) A (wc cA ad a fr) r s') args s 0 0 A) (F0 m 11 ls []) := by
    intro k_
    induction k_ with
    | zero => intro x1 x2 x3 s1 h; cases h
    | succ k_ ih => exact hB11 (fX7_countBefore_L11 nF k k_) ih
  unfold fX7_countBefore at h
  refine lv_iload_n hx hb dX7_countBefore_0 rfl (lv_at hl 1 rfl) ?_
  refine lv_iconst (v := (-1)) hx hb dX7_countBefore_1 (by decide) ?_
  refine lv_icmp_ne (tgt := 7) hx hb dX7_countBefore_2 (by decide) (fun c8 => ?_) (fun c8 => ?_)
  · replace h := it_f c8 h
    refine lv_iconst (v := 0) hx hb dX7_countBefore_7 (by decide) ?_
    refine lv_istore_n (lv' := [(2, .int 0), (0, .ref (a k)), (1, .int p1)]) hx hb dX7_countBefore_8 rfl hl (by decide) rfl (fun ls hl => ?_)
    refine lv_iconst (v := 0) hx hb dX7_countBefore_9 (by decide) ?_
    refine lv_istore_n (lv' := [(3, .int 0), (2, .int 0), (0, .ref (a k)), (1, .int p1)]) hx hb dX7_countBefore_10 rfl hl (by decide) rfl (fun ls hl => ?_)
    exact hL11 nF p1 0 0 s0 h _ _ ls hP hD hS (lv_sub hl [2, 3, 1, 0] rfl)
  · replace h := it_t c8 h
    refine lv_iconst (v := (-1)) hx hb dX7_countBefore_5 (by decide) ?_
    exact g_ret G hP hD hS h rfl dX7_countBefore_6
noncomputable def fX7_wheelOfSlot (p1 : Int32) (s0 : St) : Option (Int32 × St) :=
  some (p1 - 12, s0)
set_option maxHeartbeats 4000000 in
set_option maxRecDepth 100000 in
theorem mX7_wheelOfSlot (l : Launch) (D : va_G) (cA : Nat → ClassId) (ad adF adW tt a : Nat → Nat) (fr : va_W) (ST : gST) (hT : STE ad adF adW tt ST) (p1 : Int32) (s0 : St) (r : Int32) (s' : St) (h : fX7_wheelOfSlot p1 s0 = some (r, s')) : gMet l yX7_wheelOfSlot cX7_wheelOfSlot 1 (some .int) 0 D (TYS cA) ST (wc cA ad a fr s0) [.int p1] (fun A => gQi D (TYS cA) A (wc cA ad a fr) r s') := by
  refine g_ofW hT.1 (by decide +kernel) (Nat.le_of_ble_eq_true rfl) ?_
  intro p e s m args below meth c ls A G hP hD hl
  have G : GC p s m args meth c cX7_wheelOfSlot 1 RX7 (some .int) A D (TYS cA) ST := G
  have hx := G.1
  have hb := G.2.1
  have hS : va_S A s.heap s.heap [] := va_S.rf
  have hl : lv_has ls 1 [(0, .int p1)] := hl
  unfold fX7_wheelOfSlot at h
  refine lv_iload_n hx hb dX7_wheelOfSlot_0 rfl (lv_at hl 0 rfl) ?_
  refine lv_bipush (v := 12) hx hb dX7_wheelOfSlot_1 (by decide) ?_
  refine lv_isub hx hb dX7_wheelOfSlot_3 ?_
  exact g_ret G hP hD hS h rfl dX7_wheelOfSlot_4
noncomputable def fX7_waitingLoudness_L4b (nF : Nat) (k : Nat) (K4 : Int32 → Int32 → St → Option (Int32 × St)) (x1 : Int32) (x2 : Int32) (s1 : St) : Option (Int32 × St) :=
  if (s1 k 5) ≤ x2 then
    some (x1, s1)
  else
    BND x2 15 <|
    LET (x1 + (s1 (k + 3) x2.toNatClampNeg)) fun y3 =>
    LET (x2 + 1) fun y4 =>
    K4 y3 y4 s1
noncomputable def fX7_waitingLoudness_L4 (nF : Nat) (k : Nat) : Nat → Int32 → Int32 → St → Option (Int32 × St) := fun k_ => Nat.rec (fun _ _ _ => none) (fun _ K => fX7_waitingLoudness_L4b nF k K) k_
theorem fX7_waitingLoudness_L4_s (nF : Nat) (k : Nat) (k_ : Nat) : fX7_waitingLoudness_L4 nF k (k_ + 1) = fX7_waitingLoudness_L4b nF k (fX7_waitingLoudness_L4 nF k k_) := rfl
noncomputable def fX7_waitingLoudness (nF : Nat) (k : Nat) (s0 : St) : Option (Int32 × St) :=
  fX7_waitingLoudness_L4 nF k nF 0 0 s0
set_option maxHeartbeats 4000000 in
set_option maxRecDepth 100000 in
theorem mX7_waitingLoudness (l : Launch) (D : va_G) (cA : Nat → ClassId) (ad adF adW tt a : Nat → Nat) (fr : va_W) (ST : gST) (hT : STE ad adF adW tt ST) (nF : Nat) (k : Nat) (hk : isN k) (s0 : St) (r : Int32) (s' : St) (h : fX7_waitingLoudness nF k s0 = some (r, s')) : gMet l yX7_waitingLoudness cX7_waitingLoudness 3 (some .int) 0 D (TYS cA) ST (wc cA ad a fr s0) [.ref (a k)] (fun A => gQi D (TYS cA) A (wc cA ad a fr) r s') := by
  refine g_ofW hT.1 (by decide +kernel) (Nat.le_of_ble_eq_true rfl) ?_
  intro p e s m args below meth c ls A G hP hD hl
  have G : GC p s m args meth c cX7_waitingLoudness 3 RX7 (some .int) A D (TYS cA) ST := G
  have hx := G.1
  have hb := G.2.1
  have hS : va_S A s.heap s.heap [] := va_S.rf
  have hl : lv_has ls 3 [(0, .ref (a k))] := hl
  have hB4 : ∀ (K4 : Int32 → Int32 → St → Option (Int32 × St)), (∀ (x1 : Int32) (x2 : Int32) (s1 : St), K4 x1 x2 s1 = some (r, s') → ∀ (H : Heap) (locs : List Loc) (ls : Array Slot), va_P D vwCl (wc cA ad a fr s1) H → va_D A (wc cA ad a fr s1) → va_S A s.heap H locs → lv_has ls 3 [(0, .ref (a k)), (1, .int x1), (2, .int x2)] → W p l e (RM 0) s m args below meth c H locs 0 0 (MQ below (gQi D (TYS cA) A (wc cA ad a fr) r s') args s 0 0 A) (F0 m 4 ls [])) → ∀ (x1 : Int32) (x2 : Int32) (s1 : St), fX7_waitingLoudness_L4b nF k K4 x1 x2 s1 = some (r, s') → ∀ (H : Heap) (locs : List Loc) (ls : Array Slot), va_P D vwCl (wc cA ad a fr s1) H → va_D A (wc cA ad a fr s1) → va_S A s.heap H locs → lv_has ls 3 [(0, .ref (a k)), (1, .int x1), (2, .int x2)] → W p l e (RM 0) s m args below meth c H locs 0 0 (MQ below (gQi D (TYS cA) A (wc cA ad a fr) r s') args s 0 0 A) (F0 m 4 ls []) := by
    intro K4 hK4 x1 x2 s1 h H locs ls hP hD hS hl
    unfold fX7_waitingLoudness_L4b at h
    refine lv_iload_n hx hb dX7_waitingLoudness_4 rfl (lv_at hl 2 rfl) ?_
    refine lv_aload_n hx hb dX7_waitingLoudness_5 rfl (lv_at hl 0 rfl) ?_
    refine gfX7_28 hk G hP dX7_waitingLoudness_6 ?_
    refine lv_icmp_ge (tgt := 27) hx hb dX7_waitingLoudness_9 (by decide) (fun c1 => ?_) (fun c1 => ?_)
    · replace h := it_t c1 h
      refine lv_iload_n hx hb dX7_waitingLoudness_27 rfl (lv_at hl 1 rfl) ?_
      exact g_ret G hP hD hS h rfl dX7_waitingLoudness_28
    · replace h := it_f c1 h
      refine lv_iload_n hx hb dX7_waitingLoudness_12 rfl (lv_at hl 1 rfl) ?_
      refine lv_aload_n hx hb dX7_waitingLoudness_13 rfl (lv_at hl 0 rfl) ?_
      refine gfX7_18 hk G hP dX7_waitingLoudness_14 ?_
      refine lv_iload_n hx hb dX7_waitingLoudness_17 rfl (lv_at hl 2 rfl) ?_
      obtain ⟨b2, h⟩ := bnd_e h
      refine g_ald (t := 0) (ty := .int) (Or.inl rfl) G hP (k + 3) (ltN_3 hk) (sN_3 hk) rfl b2 dX7_waitingLoudness_18 ?_
      refine lv_iadd hx hb dX7_waitingLoudness_19 ?_
      refine lv_topi (fun y3 ey3 => ?_)
      replace h := let_e ey3 h
      refine lv_istore_n (lv' := [(1, .int y3), (0, .ref (a k)), (2, .int x2)]) hx hb dX7_waitingLoudness_20 rfl hl (by decide) rfl (fun ls hl => ?_)
      obtain ⟨y4, ey4⟩ : ∃ y : Int32, y = x2 + 1 := ⟨_, rfl⟩
      replace h := let_e ey4 h
      refine lv_iinc (v := y4) (lv' := [(2, .int y4), (1, .int y3), (0, .ref (a k))]) hx hb dX7_waitingLoudness_21 hl (k := 2) rfl (by rw [ey4]; rfl) (by decide) rfl (fun ls hl => ?_)
      refine lv_goto (tgt := 4) hx hb dX7_waitingLoudness_24 (by decide) ?_
      exact hK4 y3 y4 s1 h _ _ ls hP hD hS (lv_sub hl [2, 1, 0] rfl)
  have hL4 : ∀ k_ : Nat, ∀ (x1 : Int32) (x2 : Int32) (s1 : St), fX7_waitingLoudness_L4 nF k k_ x1 x2 s1 = some (r, s') → ∀ (H : Heap) (locs : List Loc) (ls : Array Slot), va_P D vwCl (wc cA ad a fr s1) H → va_D A (wc cA ad a fr s1) → va_S A s.heap H locs → lv_has ls 3 [(0, .ref (a k)), (1, .int x1), (2, .int x2)] → W p l e (RM 0) s m args below meth c H locs 0 0 (MQ below (gQi D (TYS cA) A (wc cA ad a fr) r s') args s 0 0 A) (F0 m 4 ls []) := by
    intro k_
    induction k_ with
    | zero => intro x1 x2 s1 h; cases h
    | succ k_ ih => exact hB4 (fX7_waitingLoudness_L4 nF k k_) ih
  unfold fX7_waitingLoudness at h
  refine lv_iconst (v := 0) hx hb dX7_waitingLoudness_0 (by decide) ?_
  refine lv_istore_n (lv' := [(1, .int 0), (0, .ref (a k))]) hx hb dX7_waitingLoudness_1 rfl hl (by decide) rfl (fun ls hl => ?_)
  refine lv_iconst (v := 0) hx hb dX7_waitingLoudness_2 (by decide) ?_
  refine lv_istore_n (lv' := [(2, .int 0), (1, .int 0), (0, .ref (a k))]) hx hb dX7_waitingLoudness_3 rfl hl (by decide) rfl (fun ls hl => ?_)
  exact hL4 nF 0 0 s0 h _ _ ls hP hD hS (lv_sub hl [2, 1, 0] rfl)
noncomputable def fX7_append (k : Nat) (p1 : Int32) (p2 : Int32) (p3 : Int32) (s0 : St) : Option (Int32 × St) :=
  OB (fX7_isFull k s0) fun r1 s2 =>
  if r1 = 0 then
    LET (s2 k 6) fun y5 =>
    BND (s2 k 5) 15 <|
    LET (u2 s2 (k + 1) (s2 k 5).toNatClampNeg y5) fun s7 =>
    BND (s7 k 5) 15 <|
    LET (u2 s7 (k + 2) (s7 k 5).toNatClampNeg p1) fun s9 =>
    BND (s9 k 5) 15 <|
    LET (u2 s9 (k + 3) (s9 k 5).toNatClampNeg p2) fun s11 =>
    BND (s11 k 5) 15 <|
    LET (u2 s11 (k + 4) (s11 k 5).toNatClampNeg p3) fun s13 =>
    LET (u2 s13 k 5 ((s13 k 5) + 1)) fun s14 =>
    LET (u2 s14 k 6 ((s14 k 6) + 1)) fun s15 =>
    some (y5, s15)
  else
    some ((-1), s2)
set_option maxHeartbeats 4000000 in
set_option maxRecDepth 100000 in
theorem mX7_append (l : Launch) (D : va_G) (cA : Nat → ClassId) (ad adF adW tt a : Nat → Nat) (fr : va_W) (ST : gST) (hT : STE ad adF adW tt ST) (k : Nat) (hk : isN k) (p1 : Int32) (p2 : Int32) (p3 : Int32) (s0 : St) (r : Int32) (s' : St) (h : fX7_append k p1 p2 p3 s0 = some (r, s')) : gMet l yX7_append cX7_append 5 (some .int) 1 D (TYS cA) ST (wc cA ad a fr s0) [.ref (a k), .int p1, .int p2, .int p3] (fun A => gQi D (TYS cA) A (wc cA ad a fr) r s') := by
  refine g_ofW hT.1 (by decide +kernel) (Nat.le_of_ble_eq_true rfl) ?_
  intro p e s m args below meth c ls A G hP hD hl
  have G : GC p s m args meth c cX7_append 5 RX7 (some .int) A D (TYS cA) ST := G
  have hx := G.1
  have hb := G.2.1
  have hS : va_S A s.heap s.heap [] := va_S.rf
  have hl : lv_has ls 5 [(0, .ref (a k)), (1, .int p1), (2, .int p2), (3, .int p3)] := hl
  unfold fX7_append at h
  refine lv_aload_n hx hb dX7_append_0 rfl (lv_at hl 0 rfl) ?_
  obtain ⟨r1, s2, g3, h⟩ := ob_e h
  refine g_callVi (nA := 0) (mX7_isFull l D cA ad adF adW tt a fr ST hT k hk s0 r1 s2 g3) G hP hD hS (g_good q3_95 q3_82 q3_83 q1_3 q3_84) (by decide +kernel) (by decide) (ltN_0 hk) (sN_0 hk) rfl rfl hl.1 [] rfl (Nat.le_of_ble_eq_true rfl) dX7_append_1 (fun H locs hP hD hS => ?_)
  refine lv_if_eq (tgt := 9) hx hb dX7_append_4 (by decide) (fun c4 => ?_) (fun c4 => ?_)
  · replace h := it_t c4 h
    refine lv_aload_n hx hb dX7_append_9 rfl (lv_at hl 0 rfl) ?_
    refine gfX7_32 hk G hP dX7_append_10 ?_
    refine lv_topi (fun y5 ey5 => ?_)
    replace h := let_e ey5 h
    refine lv_istore (lv' := [(4, .int y5), (0, .ref (a k)), (1, .int p1), (2, .int p2), (3, .int p3)]) hx hb dX7_append_13 hl (by decide) rfl (fun ls hl => ?_)
    refine lv_aload_n hx hb dX7_append_15 rfl (lv_at hl 1 rfl) ?_
    refine gfX7_11 hk G hP dX7_append_16 ?_
    refine lv_aload_n hx hb dX7_append_19 rfl (lv_at hl 1 rfl) ?_
    refine gfX7_28 hk G hP dX7_append_20 ?_
    refine lv_iload hx hb dX7_append_23 (lv_at hl 0 rfl) ?_
    obtain ⟨b6, h⟩ := bnd_e h
    refine g_ast (t := 0) (ty := .int) (Or.inl rfl) G hP hD hS (k + 1) (ltN_1 hk) (sN_1 hk) rfl b6 dX7_append_25 (fun s7 es7 H locs hP hD hS => ?_)
    replace h := let_e es7 h
    refine lv_aload_n hx hb dX7_append_26 rfl (lv_at hl 1 rfl) ?_
    refine gfX7_15 hk G hP dX7_append_27 ?_
    refine lv_aload_n hx hb dX7_append_30 rfl (lv_at hl 1 rfl) ?_
    refine gfX7_28 hk G hP dX7_append_31 ?_
    refine lv_iload_n hx hb dX7_append_34 rfl (lv_at hl 2 rfl) ?_
    obtain ⟨b8, h⟩ := bnd_e h
    refine g_ast (t := 0) (ty := .int) (Or.inl rfl) G hP hD hS (k + 2) (ltN_2 hk) (sN_2 hk) rfl b8 dX7_append_35 (fun s9 es9 H locs hP hD hS => ?_)
    replace h := let_e es9 h
    refine lv_aload_n hx hb dX7_append_36 rfl (lv_at hl 1 rfl) ?_
    refine gfX7_18 hk G hP dX7_append_37 ?_
    refine lv_aload_n hx hb dX7_append_40 rfl (lv_at hl 1 rfl) ?_
    refine gfX7_28 hk G hP dX7_append_41 ?_
    refine lv_iload_n hx hb dX7_append_44 rfl (lv_at hl 3 rfl) ?_
    obtain ⟨b10, h⟩ := bnd_e h
    refine g_ast (t := 0) (ty := .int) (Or.inl rfl) G hP hD hS (k + 3) (ltN_3 hk) (sN_3 hk) rfl b10 dX7_append_45 (fun s11 es11 H locs hP hD hS => ?_)
    replace h := let_e es11 h
    refine lv_aload_n hx hb dX7_append_46 rfl (lv_at hl 1 rfl) ?_
    refine gfX7_21 hk G hP dX7_append_47 ?_
    refine lv_aload_n hx hb dX7_append_50 rfl (lv_at hl 1 rfl) ?_
    refine gfX7_28 hk G hP dX7_append_51 ?_
    refine lv_iload_n hx hb dX7_append_54 rfl (lv_at hl 4 rfl) ?_
    obtain ⟨b12, h⟩ := bnd_e h
    refine g_ast (t := 0) (ty := .int) (Or.inl rfl) G hP hD hS (k + 4) (ltN_4 hk) (sN_4 hk) rfl b12 dX7_append_55 (fun s13 es13 H locs hP hD hS => ?_)
    replace h := let_e es13 h
    refine lv_aload_n hx hb dX7_append_56 rfl (lv_at hl 1 rfl) ?_
    refine lv_dup hx hb dX7_append_57 rfl ?_
    refine gfX7_28 hk G hP dX7_append_58 ?_
    refine lv_iconst (v := 1) hx hb dX7_append_61 (by decide) ?_
    refine lv_iadd hx hb dX7_append_62 ?_
    refine pfX7_28 hk G hP hD hS dX7_append_63 (fun s14 es14 H locs hP hD hS => ?_)
    replace h := let_e es14 h
    refine lv_aload_n hx hb dX7_append_66 rfl (lv_at hl 1 rfl) ?_
    refine lv_dup hx hb dX7_append_67 rfl ?_
    refine gfX7_32 hk G hP dX7_append_68 ?_
    refine lv_iconst (v := 1) hx hb dX7_append_71 (by decide) ?_
    refine lv_iadd hx hb dX7_append_72 ?_
    refine pfX7_32 hk G hP hD hS dX7_append_73 (fun s15 es15 H locs hP hD hS => ?_)
    replace h := let_e es15 h
    refine lv_iload hx hb dX7_append_76 (lv_at hl 0 rfl) ?_
    exact g_ret G hP hD hS h rfl dX7_append_78
  · replace h := it_f c4 h
    refine lv_iconst (v := (-1)) hx hb dX7_append_7 (by decide) ?_
    exact g_ret G hP hD hS h rfl dX7_append_8
noncomputable def fX9_copyFrom_L45b (nF : Nat) (k : Nat) (k1 : Nat) (K45 : Int32 → St → Option (Int32 × St)) (x2 : Int32) (s1 : St) : Option (Int32 × St) :=
  if 8 ≤ x2 then
    LET (u2 s1 k 4 (s1 k1 4)) fun s2 =>
    LET (u2 s2 k 5 (s2 k1 5)) fun s3 =>
    LET (u2 s3 k 6 (s3 k1 6)) fun s4 =>
    some (0, s4)
  else
    BND x2 8 <|
    BND x2 8 <|
    LET (u2 s1 (k + 4) x2.toNatClampNeg (vp_nar .boolean (s1 (k1 + 4) x2.toNatClampNeg))) fun s7 =>
    LET (x2 + 1) fun y8 =>
    K45 y8 s7
noncomputable def fX9_copyFrom_L45 (nF : Nat) (k : Nat) (k1 : Nat) : Nat → Int32 → St → Option (Int32 × St) := fun k_ => Nat.rec (fun _ _ => none) (fun _ K => fX9_copyFrom_L45b nF k k1 K) k_
theorem fX9_copyFrom_L45_s (nF : Nat) (k : Nat) (k1 : Nat) (k_ : Nat) : fX9_copyFrom_L45 nF k k1 (k_ + 1) = fX9_copyFrom_L45b nF k k1 (fX9_copyFrom_L45 nF k k1 k_) := rfl
noncomputable def fX9_copyFrom (nF : Nat) (k : Nat) (k1 : Nat) (s0 : St) : Option (Int32 × St) :=
  LET (va_up s0 (k + 1) (cpy0 (s0 (k1 + 1)) (s0 (k + 1)) 4)) fun s9 =>
  LET (va_up s9 (k + 2) (cpy0 (s9 (k1 + 2)) (s9 (k + 2)) 4)) fun s10 =>
  LET (va_up s10 (k + 3) (cpy0 (s10 (k1 + 3)) (s10 (k + 3)) 32)) fun s11 =>
  fX9_copyFrom_L45 nF k k1 nF 0 s11
set_option maxHeartbeats 4000000 in
set_option maxRecDepth 100000 in
theorem mX9_copyFrom (l : Launch) (D : va_G) (cA : Nat → ClassId) (ad adF adW tt a : Nat → Nat) (fr : va_W) (ST : gST) (hT : STE ad adF adW tt ST) (nF : Nat) (k : Nat) (k1 : Nat) (hk : isS k) (hk1 : isS k1) (s0 : St) (r : Int32) (s' : St) (h : fX9_copyFrom nF k k1 s0 = some (r, s')) : gMet l yX9_copyFrom cX9_copyFrom 3 none 2 D (TYS cA) ST (wc cA ad a fr s0) [.ref (a k), .ref (a k1)] (fun A => gQv D (TYS cA) A (wc cA ad a fr) s') := by
  refine g_ofW hT.1 (by decide +kernel) (Nat.le_of_ble_eq_true rfl) ?_
  intro p e s m args below meth c ls A G hP hD hl
  have G : GC p s m args meth c cX9_copyFrom 3 RX9 none A D (TYS cA) ST := G
  have hx := G.1
  have hb := G.2.1
  have hS : va_S A s.heap s.heap [] := va_S.rf
  have hl : lv_has ls 3 [(0, .ref (a k)), (1, .ref (a k1))] := hl
  have hB45 : ∀ (K45 : Int32 → St → Option (Int32 × St)), (∀ (x2 : Int32) (s1 : St), K45 x2 s1 = some (r, s') → ∀ (H : Heap) (locs : List Loc) (ls : Array Slot), va_P D vwCl (wc cA ad a fr s1) H → va_D A (wc cA ad a fr s1) → va_S A s.heap H locs → lv_has ls 3 [(0, .ref (a k)), (1, .ref (a k1)), (2, .int x2)] → W p l e (RM 2) s m args below meth c H locs 0 0 (MQ below (gQv D (TYS cA) A (wc cA ad a fr) s') args s 0 0 A) (F0 m 45 ls [])) → ∀ (x2 : Int32) (s1 : St), fX9_copyFrom_L45b nF k k1 K45 x2 s1 = some (r, s') → ∀ (H : Heap) (locs : List Loc) (ls : Array Slot), va_P D vwCl (wc cA ad a fr s1) H → va_D A (wc cA ad a fr s1) → va_S A s.heap H locs → lv_has ls 3 [(0, .ref (a k)), (1, .ref (a k1)), (2, .int x2)] → W p l e (RM 2) s m args below meth c H locs 0 0 (MQ below (gQv D (TYS cA) A (wc cA ad a fr) s') args s 0 0 A) (F0 m 45 ls []) := by
    intro K45 hK45 x2 s1 h H locs ls hP hD hS hl
    unfold fX9_copyFrom_L45b at h
    refine lv_iload_n hx hb dX9_copyFrom_45 rfl (lv_at hl 2 rfl) ?_
    refine lv_bipush (v := 8) hx hb dX9_copyFrom_46 (by decide) ?_
    refine lv_icmp_ge (tgt := 69) hx hb dX9_copyFrom_48 (by decide) (fun c1 => ?_) (fun c1 => ?_)
    · replace h := it_t c1 h
      refine lv_aload_n hx hb dX9_copyFrom_69 rfl (lv_at hl 0 rfl) ?_
      refine lv_aload_n hx hb dX9_copyFrom_70 rfl (lv_at hl 1 rfl) ?_
      refine gfX9_25 hk1 G hP dX9_copyFrom_71 ?_
      refine pfX9_25 hk G hP hD hS dX9_copyFrom_74 (fun s2 es2 H locs hP hD hS => ?_)
      replace h := let_e es2 h
      refine lv_aload_n hx hb dX9_copyFrom_77 rfl (lv_at hl 0 rfl) ?_
      refine lv_aload_n hx hb dX9_copyFrom_78 rfl (lv_at hl 1 rfl) ?_
      refine gfX9_29 hk1 G hP dX9_copyFrom_79 ?_
      refine pfX9_29 hk G hP hD hS dX9_copyFrom_82 (fun s3 es3 H locs hP hD hS => ?_)
      replace h := let_e es3 h
      refine lv_aload_n hx hb dX9_copyFrom_85 rfl (lv_at hl 0 rfl) ?_
      refine lv_aload_n hx hb dX9_copyFrom_86 rfl (lv_at hl 1 rfl) ?_
      refine gfX9_32 hk1 G hP dX9_copyFrom_87 ?_
      refine pfX9_32 hk G hP hD hS dX9_copyFrom_90 (fun s4 es4 H locs hP hD hS => ?_)
      replace h := let_e es4 h
      exact g_vret G hP hD hS h dX9_copyFrom_93
    · replace h := it_f c1 h
      refine lv_aload_n hx hb dX9_copyFrom_51 rfl (lv_at hl 0 rfl) ?_
      refine gfX9_21 hk G hP dX9_copyFrom_52 ?_
      refine lv_iload_n hx hb dX9_copyFrom_55 rfl (lv_at hl 2 rfl) ?_
      refine lv_aload_n hx hb dX9_copyFrom_56 rfl (lv_at hl 1 rfl) ?_
      refine gfX9_21 hk1 G hP dX9_copyFrom_57 ?_
      refine lv_iload_n hx hb dX9_copyFrom_60 rfl (lv_at hl 2 rfl) ?_
      obtain ⟨b5, h⟩ := bnd_e h
      refine g_ald (t := 2) (ty := .boolean) (Or.inr (Or.inr rfl)) G hP (k1 + 4) (ltS_4 hk1) (sS_4 hk1) rfl b5 dX9_copyFrom_61 ?_
      obtain ⟨b6, h⟩ := bnd_e h
      refine g_ast (t := 2) (ty := .boolean) (Or.inr (Or.inr rfl)) G hP hD hS (k + 4) (ltS_4 hk) (sS_4 hk) rfl b6 dX9_copyFrom_62 (fun s7 es7 H locs hP hD hS => ?_)
      replace h := let_e es7 h
      obtain ⟨y8, ey8⟩ : ∃ y : Int32, y = x2 + 1 := ⟨_, rfl⟩
      replace h := let_e ey8 h
      refine lv_iinc (v := y8) (lv' := [(2, .int y8), (0, .ref (a k)), (1, .ref (a k1))]) hx hb dX9_copyFrom_63 hl (k := 2) rfl (by rw [ey8]; rfl) (by decide) rfl (fun ls hl => ?_)
      refine lv_goto (tgt := 45) hx hb dX9_copyFrom_66 (by decide) ?_
      exact hK45 y8 s7 h _ _ ls hP hD hS (lv_sub hl [1, 2, 0] rfl)
  have hL45 : ∀ k_ : Nat, ∀ (x2 : Int32) (s1 : St), fX9_copyFrom_L45 nF k k1 k_ x2 s1 = some (r, s') → ∀ (H : Heap) (locs : List Loc) (ls : Array Slot), va_P D vwCl (wc cA ad a fr s1) H → va_D A (wc cA ad a fr s1) → va_S A s.heap H locs → lv_has ls 3 [(0, .ref (a k)), (1, .ref (a k1)), (2, .int x2)] → W p l e (RM 2) s m args below meth c H locs 0 0 (MQ below (gQv D (TYS cA) A (wc cA ad a fr) s') args s 0 0 A) (F0 m 45 ls []) := by
    intro k_
    induction k_ with
    | zero => intro x2 s1 h; cases h
    | succ k_ ih => exact hB45 (fX9_copyFrom_L45 nF k k1 k_) ih
  unfold fX9_copyFrom at h
  refine lv_aload_n hx hb dX9_copyFrom_0 rfl (lv_at hl 1 rfl) ?_
  refine gfX9_9 hk1 G hP dX9_copyFrom_1 ?_
  refine lv_iconst (v := 0) hx hb dX9_copyFrom_4 (by decide) ?_
  refine lv_aload_n hx hb dX9_copyFrom_5 rfl (lv_at hl 0 rfl) ?_
  refine gfX9_9 hk G hP dX9_copyFrom_6 ?_
  refine lv_iconst (v := 0) hx hb dX9_copyFrom_9 (by decide) ?_
  refine lv_iconst (v := 4) hx hb dX9_copyFrom_10 (by decide) ?_
  refine g_cpy (t := 0) (ty := .int) G hP hD hS (k1 + 1) (k + 1) (ltS_1 hk1) (sS_1 hk1) (ltS_1 hk) (sS_1 hk) rfl rfl 4 rfl (by decide) (by decide) (by decide) (fun i hi => rfl) hl.1 q3_25 q3_20 q3_19 q1_27 (by decide) (Nat.le_of_ble_eq_true rfl) dX9_copyFrom_11 (fun s9 es9 H locs hP hD hS => ?_)
  replace h := let_e es9 h
  refine lv_aload_n hx hb dX9_copyFrom_14 rfl (lv_at hl 1 rfl) ?_
  refine gfX9_15 hk1 G hP dX9_copyFrom_15 ?_
  refine lv_iconst (v := 0) hx hb dX9_copyFrom_18 (by decide) ?_
  refine lv_aload_n hx hb dX9_copyFrom_19 rfl (lv_at hl 0 rfl) ?_
  refine gfX9_15 hk G hP dX9_copyFrom_20 ?_
  refine lv_iconst (v := 0) hx hb dX9_copyFrom_23 (by decide) ?_
  refine lv_iconst (v := 4) hx hb dX9_copyFrom_24 (by decide) ?_
  refine g_cpy (t := 0) (ty := .int) G hP hD hS (k1 + 2) (k + 2) (ltS_2 hk1) (sS_2 hk1) (ltS_2 hk) (sS_2 hk) rfl rfl 4 rfl (by decide) (by decide) (by decide) (fun i hi => rfl) hl.1 q3_25 q3_20 q3_19 q1_27 (by decide) (Nat.le_of_ble_eq_true rfl) dX9_copyFrom_25 (fun s10 es10 H locs hP hD hS => ?_)
  replace h := let_e es10 h
  refine lv_aload_n hx hb dX9_copyFrom_28 rfl (lv_at hl 1 rfl) ?_
  refine gfX9_18 hk1 G hP dX9_copyFrom_29 ?_
  refine lv_iconst (v := 0) hx hb dX9_copyFrom_32 (by decide) ?_
  refine lv_aload_n hx hb dX9_copyFrom_33 rfl (lv_at hl 0 rfl) ?_
  refine gfX9_18 hk G hP dX9_copyFrom_34 ?_
  refine lv_iconst (v := 0) hx hb dX9_copyFrom_37 (by decide) ?_
  refine lv_bipush (v := 32) hx hb dX9_copyFrom_38 (by decide) ?_
  refine g_cpy (t := 0) (ty := .int) G hP hD hS (k1 + 3) (k + 3) (ltS_3 hk1) (sS_3 hk1) (ltS_3 hk) (sS_3 hk) rfl rfl 32 rfl (by decide) (by decide) (by decide) (fun i hi => rfl) hl.1 q3_25 q3_20 q3_19 q1_27 (by decide) (Nat.le_of_ble_eq_true rfl) dX9_copyFrom_40 (fun s11 es11 H locs hP hD hS => ?_)
  replace h := let_e es11 h
  refine lv_iconst (v := 0) hx hb dX9_copyFrom_43 (by decide) ?_
  refine lv_istore_n (lv' := [(2, .int 0), (0, .ref (a k)), (1, .ref (a k1))]) hx hb dX9_copyFrom_44 rfl hl (by decide) rfl (fun ls hl => ?_)
  exact hL45 nF 0 s11 h _ _ ls hP hD hS (lv_sub hl [1, 2, 0] rfl)
noncomputable def fX9_row (p1 : Int32) (p2 : Int32) (s0 : St) : Option (Int32 × St) :=
  some ((p1 * 4) + p2, s0)
set_option maxHeartbeats 4000000 in
set_option maxRecDepth 100000 in
theorem mX9_row (l : Launch) (D : va_G) (cA : Nat → ClassId) (ad adF adW tt a : Nat → Nat) (fr : va_W) (ST : gST) (hT : STE ad adF adW tt ST) (p1 : Int32) (p2 : Int32) (s0 : St) (r : Int32) (s' : St) (h : fX9_row p1 p2 s0 = some (r, s')) : gMet l yX9_row cX9_row 2 (some .int) 0 D (TYS cA) ST (wc cA ad a fr s0) [.int p1, .int p2] (fun A => gQi D (TYS cA) A (wc cA ad a fr) r s') := by
  refine g_ofW hT.1 (by decide +kernel) (Nat.le_of_ble_eq_true rfl) ?_
  intro p e s m args below meth c ls A G hP hD hl
  have G : GC p s m args meth c cX9_row 2 RX9 (some .int) A D (TYS cA) ST := G
  have hx := G.1
  have hb := G.2.1
  have hS : va_S A s.heap s.heap [] := va_S.rf
  have hl : lv_has ls 2 [(0, .int p1), (1, .int p2)] := hl
  unfold fX9_row at h
  refine lv_iload_n hx hb dX9_row_0 rfl (lv_at hl 0 rfl) ?_
  refine lv_iconst (v := 4) hx hb dX9_row_1 (by decide) ?_
  refine lv_imul hx hb dX9_row_2 ?_
  refine lv_iload_n hx hb dX9_row_3 rfl (lv_at hl 1 rfl) ?_
  refine lv_iadd hx hb dX9_row_4 ?_
  exact g_ret G hP hD hS h rfl dX9_row_5
noncomputable def fX9_receive (k : Nat) (p1 : Int32) (p2 : Int32) (p3 : Int32) (s0 : St) : Option (Int32 × St) :=
  LET ((p3 * p2) / 10) fun y1 =>
  LET (p2 / 3) fun y2 =>
  BND y2 4 <|
  OB (fJ9_min_7cf53 (p3 - y1) (139 - (s0 (k + 1) y2.toNatClampNeg)) s0) fun r4 s5 =>
  LET (u2 s5 k 4 ((s5 k 4) + p3)) fun s7 =>
  BND p1 8 <|
  LET (u2 s7 (k + 4) p1.toNatClampNeg (vp_nar .boolean 1)) fun s9 =>
  LET (u2 s9 k 5 ((s9 k 5) + y1)) fun s10 =>
  LET (u2 s10 k 6 ((s10 k 6) + ((p3 - y1) - r4))) fun s11 =>
  BND y2 4 <|
  BND y2 4 <|
  LET (u2 s11 (k + 1) y2.toNatClampNeg ((s11 (k + 1) y2.toNatClampNeg) + r4)) fun s14 =>
  OB (fX9_row p1 y2 s14) fun r15 s16 =>
  BND r15 32 <|
  BND r15 32 <|
  LET (u2 s16 (k + 3) r15.toNatClampNeg ((s16 (k + 3) r15.toNatClampNeg) + r4)) fun s20 =>
  some (0, s20)
set_option maxHeartbeats 4000000 in
set_option maxRecDepth 100000 in
theorem mX9_receive (l : Launch) (D : va_G) (cA : Nat → ClassId) (ad adF adW tt a : Nat → Nat) (fr : va_W) (ST : gST) (hT : STE ad adF adW tt ST) (k : Nat) (hk : isS k) (p1 : Int32) (p2 : Int32) (p3 : Int32) (s0 : St) (r : Int32) (s' : St) (h : fX9_receive k p1 p2 p3 s0 = some (r, s')) : gMet l yX9_receive cX9_receive 7 none 1 D (TYS cA) ST (wc cA ad a fr s0) [.ref (a k), .int p1, .int p2, .int p3] (fun A => gQv D (TYS cA) A (wc cA ad a fr) s') := by
  refine g_ofW hT.1 (by decide +kernel) (Nat.le_of_ble_eq_true rfl) ?_
  intro p e s m args below meth c ls A G hP hD hl
  have G : GC p s m args meth c cX9_receive 7 RX9 none A D (TYS cA) ST := G
  have hx := G.1
  have hb := G.2.1
  have hS : va_S A s.heap s.heap [] := va_S.rf
  have hl : lv_has ls 7 [(0, .ref (a k)), (1, .int p1), (2, .int p2), (3, .int p3)] := hl
  unfold fX9_receive at h
  refine lv_iload_n hx hb dX9_receive_0 rfl (lv_at hl 3 rfl) ?_
  refine lv_iload_n hx hb dX9_receive_1 rfl (lv_at hl 2 rfl) ?_
  refine lv_imul hx hb dX9_receive_2 ?_
  refine lv_bipush (v := 10) hx hb dX9_receive_3 (by decide) ?_
  refine lv_idiv hx hb dX9_receive_5 (by decide) ?_
  refine lv_topi (fun y1 ey1 => ?_)
  replace h := let_e ey1 h
  refine lv_istore (lv' := [(4, .int y1), (0, .ref (a k)), (1, .int p1), (2, .int p2), (3, .int p3)]) hx hb dX9_receive_6 hl (by decide) rfl (fun ls hl => ?_)
  refine lv_iload_n hx hb dX9_receive_8 rfl (lv_at hl 3 rfl) ?_
  refine lv_iconst (v := 3) hx hb dX9_receive_9 (by decide) ?_
  refine lv_idiv hx hb dX9_receive_10 (by decide) ?_
  refine lv_topi (fun y2 ey2 => ?_)
  replace h := let_e ey2 h
  refine lv_istore (lv' := [(5, .int y2), (4, .int y1), (0, .ref (a k)), (1, .int p1), (2, .int p2), (3, .int p3)]) hx hb dX9_receive_11 hl (by decide) rfl (fun ls hl => ?_)
  refine lv_iload_n hx hb dX9_receive_13 rfl (lv_at hl 5 rfl) ?_
  refine lv_iload hx hb dX9_receive_14 (lv_at hl 1 rfl) ?_
  refine lv_isub hx hb dX9_receive_16 ?_
  refine lv_sipush (v := 139) hx hb dX9_receive_17 (by decide) ?_
  refine lv_aload_n hx hb dX9_receive_20 rfl (lv_at hl 2 rfl) ?_
  refine gfX9_9 hk G hP dX9_receive_21 ?_
  refine lv_iload hx hb dX9_receive_24 (lv_at hl 0 rfl) ?_
  obtain ⟨b3, h⟩ := bnd_e h
  refine g_ald (t := 0) (ty := .int) (Or.inl rfl) G hP (k + 1) (ltS_1 hk) (sS_1 hk) rfl b3 dX9_receive_26 ?_
  refine lv_isub hx hb dX9_receive_27 ?_
  obtain ⟨r4, s5, g6, h⟩ := ob_e h
  refine g_callSXi (nA := 2) (mJ9_min_7cf53 l D cA ad adF adW tt a fr ST hT (p3 - y1) (139 - (s0 (k + 1) y2.toNatClampNeg)) s0 r4 s5 g6) G hP hD hS (g_goodSX q3_144 q3_36 q1_28 q3_37) (by decide +kernel) (by decide) rfl hl.1 [] rfl (Nat.le_of_ble_eq_true rfl) dX9_receive_28 (fun H locs hP hD hS => ?_)
  refine lv_istore (lv' := [(6, .int r4), (5, .int y2), (4, .int y1), (0, .ref (a k)), (1, .int p1), (2, .int p2), (3, .int p3)]) hx hb dX9_receive_31 hl (by decide) rfl (fun ls hl => ?_)
  refine lv_aload_n hx hb dX9_receive_33 rfl (lv_at hl 3 rfl) ?_
  refine lv_dup hx hb dX9_receive_34 rfl ?_
  refine gfX9_25 hk G hP dX9_receive_35 ?_
  refine lv_iload_n hx hb dX9_receive_38 rfl (lv_at hl 6 rfl) ?_
  refine lv_iadd hx hb dX9_receive_39 ?_
  refine pfX9_25 hk G hP hD hS dX9_receive_40 (fun s7 es7 H locs hP hD hS => ?_)
  replace h := let_e es7 h
  refine lv_aload_n hx hb dX9_receive_43 rfl (lv_at hl 3 rfl) ?_
  refine gfX9_21 hk G hP dX9_receive_44 ?_
  refine lv_iload_n hx hb dX9_receive_47 rfl (lv_at hl 4 rfl) ?_
  refine lv_iconst (v := 1) hx hb dX9_receive_48 (by decide) ?_
  obtain ⟨b8, h⟩ := bnd_e h
  refine g_ast (t := 2) (ty := .boolean) (Or.inr (Or.inr rfl)) G hP hD hS (k + 4) (ltS_4 hk) (sS_4 hk) rfl b8 dX9_receive_49 (fun s9 es9 H locs hP hD hS => ?_)
  replace h := let_e es9 h
  refine lv_aload_n hx hb dX9_receive_50 rfl (lv_at hl 3 rfl) ?_
  refine lv_dup hx hb dX9_receive_51 rfl ?_
  refine gfX9_29 hk G hP dX9_receive_52 ?_
  refine lv_iload hx hb dX9_receive_55 (lv_at hl 2 rfl) ?_
  refine lv_iadd hx hb dX9_receive_57 ?_
  refine pfX9_29 hk G hP hD hS dX9_receive_58 (fun s10 es10 H locs hP hD hS => ?_)
  replace h := let_e es10 h
  refine lv_aload_n hx hb dX9_receive_61 rfl (lv_at hl 3 rfl) ?_
  refine lv_dup hx hb dX9_receive_62 rfl ?_
  refine gfX9_32 hk G hP dX9_receive_63 ?_
  refine lv_iload_n hx hb dX9_receive_66 rfl (lv_at hl 6 rfl) ?_
  refine lv_iload hx hb dX9_receive_67 (lv_at hl 2 rfl) ?_
  refine lv_isub hx hb dX9_receive_69 ?_
  refine lv_iload hx hb dX9_receive_70 (lv_at hl 0 rfl) ?_
  refine lv_isub hx hb dX9_receive_72 ?_
  refine lv_iadd hx hb dX9_receive_73 ?_
  refine pfX9_32 hk G hP hD hS dX9_receive_74 (fun s11 es11 H locs hP hD hS => ?_)
  replace h := let_e es11 h
  refine lv_aload_n hx hb dX9_receive_77 rfl (lv_at hl 3 rfl) ?_
  refine gfX9_9 hk G hP dX9_receive_78 ?_
  refine lv_iload hx hb dX9_receive_81 (lv_at hl 1 rfl) ?_
  refine lv_dup2_11 hx hb dX9_receive_83 rfl rfl ?_
  obtain ⟨b12, h⟩ := bnd_e h
  refine g_ald (t := 0) (ty := .int) (Or.inl rfl) G hP (k + 1) (ltS_1 hk) (sS_1 hk) rfl b12 dX9_receive_84 ?_
  refine lv_iload hx hb dX9_receive_85 (lv_at hl 0 rfl) ?_
  refine lv_iadd hx hb dX9_receive_87 ?_
  obtain ⟨b13, h⟩ := bnd_e h
  refine g_ast (t := 0) (ty := .int) (Or.inl rfl) G hP hD hS (k + 1) (ltS_1 hk) (sS_1 hk) rfl b13 dX9_receive_88 (fun s14 es14 H locs hP hD hS => ?_)
  replace h := let_e es14 h
  refine lv_aload_n hx hb dX9_receive_89 rfl (lv_at hl 3 rfl) ?_
  refine gfX9_18 hk G hP dX9_receive_90 ?_
  refine lv_iload_n hx hb dX9_receive_93 rfl (lv_at hl 4 rfl) ?_
  refine lv_iload hx hb dX9_receive_94 (lv_at hl 1 rfl) ?_
  obtain ⟨r15, s16, g17, h⟩ := ob_e h
  refine g_callSXi (nA := 2) (mX9_row l D cA ad adF adW tt a fr ST hT p1 y2 s14 r15 s16 g17) G hP hD hS (g_goodSX q3_145 q3_146 q1_4 q3_147) (by decide +kernel) (by decide) rfl hl.1 [.ref (a (k + 3))] rfl (Nat.le_of_ble_eq_true rfl) dX9_receive_96 (fun H locs hP hD hS => ?_)
  refine lv_dup2_11 hx hb dX9_receive_99 rfl rfl ?_
  obtain ⟨b18, h⟩ := bnd_e h
  refine g_ald (t := 0) (ty := .int) (Or.inl rfl) G hP (k + 3) (ltS_3 hk) (sS_3 hk) rfl b18 dX9_receive_100 ?_
  refine lv_iload hx hb dX9_receive_101 (lv_at hl 0 rfl) ?_
  refine lv_iadd hx hb dX9_receive_103 ?_
  obtain ⟨b19, h⟩ := bnd_e h
  refine g_ast (t := 0) (ty := .int) (Or.inl rfl) G hP hD hS (k + 3) (ltS_3 hk) (sS_3 hk) rfl b19 dX9_receive_104 (fun s20 es20 H locs hP hD hS => ?_)
  replace h := let_e es20 h
  exact g_vret G hP hD hS h dX9_receive_105
noncomputable def fX9_recordedLessShipped_L4b (nF : Nat) (k : Nat) (K4 : Int32 → Int32 → Int32 → St → Option (Int32 × St)) (x1 : Int32) (x2 : Int32) (x3 : Int32) (s1 : St) : Option (Int32 × St) :=
  if 8 ≤ x3 then
    BND x1 4 <|
    some (x2 - ((s1 (k + 2) x1.toNatClampNeg) * 20), s1)
  else
    OB (fX9_row x3 x1 s1) fun r3 s4 =>
    BND r3 32 <|
    LET (x2 + (s4 (k + 3) r3.toNatClampNeg)) fun y7 =>
    LET (x3 + 1) fun y8 =>
    K4 x1 y7 y8 s4
noncomputable def fX9_recordedLessShipped_L4 (nF : Nat) (k : Nat) : Nat → Int32 → Int32 → Int32 → St → Option (Int32 × St) := fun k_ => Nat.rec (fun _ _ _ _ => none) (fun _ K => fX9_recordedLessShipped_L4b nF k K) k_
theorem fX9_recordedLessShipped_L4_s (nF : Nat) (k : Nat) (k_ : Nat) : fX9_recordedLessShipped_L4 nF k (k_ + 1) = fX9_recordedLessShipped_L4b nF k (fX9_recordedLessShipped_L4 nF k k_) := rfl
noncomputable def fX9_recordedLessShipped (nF : Nat) (k : Nat) (p1 : Int32) (s0 : St) : Option (Int32 × St) :=
  fX9_recordedLessShipped_L4 nF k nF p1 0 0 s0
set_option maxHeartbeats 4000000 in
set_option maxRecDepth 100000 in
theorem mX9_recordedLessShipped (l : Launch) (D : va_G) (cA : Nat → ClassId) (ad adF adW tt a : Nat → Nat) (fr : va_W) (ST : gST) (hT : STE ad adF adW tt ST) (nF : Nat) (k : Nat) (hk : isS k) (p1 : Int32) (s0 : St) (r : Int32) (s' : St) (h : fX9_recordedLessShipped nF k p1 s0 = some (r, s')) : gMet l yX9_recordedLessShipped cX9_recordedLessShipped 4 (some .int) 1 D (TYS cA) ST (wc cA ad a fr s0) [.ref (a k), .int p1] (fun A => gQi D (TYS cA) A (wc cA ad a fr) r s') := by
  refine g_ofW hT.1 (by decide +kernel) (Nat.le_of_ble_eq_true rfl) ?_
  intro p e s m args below meth c ls A G hP hD hl
  have G : GC p s m args meth c cX9_recordedLessShipped 4 RX9 (some .int) A D (TYS cA) ST := G
  have hx := G.1
  have hb := G.2.1
  have hS : va_S A s.heap s.heap [] := va_S.rf
  have hl : lv_has ls 4 [(0, .ref (a k)), (1, .int p1)] := hl
  have hB4 : ∀ (K4 : Int32 → Int32 → Int32 → St → Option (Int32 × St)), (∀ (x1 : Int32) (x2 : Int32) (x3 : Int32) (s1 : St), K4 x1 x2 x3 s1 = some (r, s') → ∀ (H : Heap) (locs : List Loc) (ls : Array Slot), va_P D vwCl (wc cA ad a fr s1) H → va_D A (wc cA ad a fr s1) → va_S A s.heap H locs → lv_has ls 4 [(0, .ref (a k)), (1, .int x1), (2, .int x2), (3, .int x3)] → W p l e (RM 1) s m args below meth c H locs 0 0 (MQ below (gQi D (TYS cA) A (wc cA ad a fr) r s') args s 0 0 A) (F0 m 4 ls [])) → ∀ (x1 : Int32) (x2 : Int32) (x3 : Int32) (s1 : St), fX9_recordedLessShipped_L4b nF k K4 x1 x2 x3 s1 = some (r, s') → ∀ (H : Heap) (locs : List Loc) (ls : Array Slot), va_P D vwCl (wc cA ad a fr s1) H → va_D A (wc cA ad a fr s1) → va_S A s.heap H locs → lv_has ls 4 [(0, .ref (a k)), (1, .int x1), (2, .int x2), (3, .int x3)] → W p l e (RM 1) s m args below meth c H locs 0 0 (MQ below (gQi D (TYS cA) A (wc cA ad a fr) r s') args s 0 0 A) (F0 m 4 ls []) := by
    intro K4 hK4 x1 x2 x3 s1 h H locs ls hP hD hS hl
    unfold fX9_recordedLessShipped_L4b at h
    refine lv_iload_n hx hb dX9_recordedLessShipped_4 rfl (lv_at hl 3 rfl) ?_
    refine lv_bipush (v := 8) hx hb dX9_recordedLessShipped_5 (by decide) ?_
    refine lv_icmp_ge (tgt := 29) hx hb dX9_recordedLessShipped_7 (by decide) (fun c1 => ?_) (fun c1 => ?_)
    · replace h := it_t c1 h
      refine lv_iload_n hx hb dX9_recordedLessShipped_29 rfl (lv_at hl 2 rfl) ?_
      refine lv_aload_n hx hb dX9_recordedLessShipped_30 rfl (lv_at hl 0 rfl) ?_
      refine gfX9_15 hk G hP dX9_recordedLessShipped_31 ?_
      refine lv_iload_n hx hb dX9_recordedLessShipped_34 rfl (lv_at hl 1 rfl) ?_
      obtain ⟨b2, h⟩ := bnd_e h
      refine g_ald (t := 0) (ty := .int) (Or.inl rfl) G hP (k + 2) (ltS_2 hk) (sS_2 hk) rfl b2 dX9_recordedLessShipped_35 ?_
      refine lv_bipush (v := 20) hx hb dX9_recordedLessShipped_36 (by decide) ?_
      refine lv_imul hx hb dX9_recordedLessShipped_38 ?_
      refine lv_isub hx hb dX9_recordedLessShipped_39 ?_
      exact g_ret G hP hD hS h rfl dX9_recordedLessShipped_40
    · replace h := it_f c1 h
      refine lv_iload_n hx hb dX9_recordedLessShipped_10 rfl (lv_at hl 2 rfl) ?_
      refine lv_aload_n hx hb dX9_recordedLessShipped_11 rfl (lv_at hl 0 rfl) ?_
      refine gfX9_18 hk G hP dX9_recordedLessShipped_12 ?_
      refine lv_iload_n hx hb dX9_recordedLessShipped_15 rfl (lv_at hl 3 rfl) ?_
      refine lv_iload_n hx hb dX9_recordedLessShipped_16 rfl (lv_at hl 1 rfl) ?_
      obtain ⟨r3, s4, g5, h⟩ := ob_e h
      refine g_callSXi (nA := 2) (mX9_row l D cA ad adF adW tt a fr ST hT x3 x1 s1 r3 s4 g5) G hP hD hS (g_goodSX q3_145 q3_146 q1_4 q3_147) (by decide +kernel) (by decide) rfl hl.1 [.ref (a (k + 3)), .int x2] rfl (Nat.le_of_ble_eq_true rfl) dX9_recordedLessShipped_17 (fun H locs hP hD hS => ?_)
      obtain ⟨b6, h⟩ := bnd_e h
      refine g_ald (t := 0) (ty := .int) (Or.inl rfl) G hP (k + 3) (ltS_3 hk) (sS_3 hk) rfl b6 dX9_recordedLessShipped_20 ?_
      refine lv_iadd hx hb dX9_recordedLessShipped_21 ?_
      refine lv_topi (fun y7 ey7 => ?_)
      replace h := let_e ey7 h
      refine lv_istore_n (lv' := [(2, .int y7), (0, .ref (a k)), (1, .int x1), (3, .int x3)]) hx hb dX9_recordedLessShipped_22 rfl hl (by decide) rfl (fun ls hl => ?_)
      obtain ⟨y8, ey8⟩ : ∃ y : Int32, y = x3 + 1 := ⟨_, rfl⟩
      replace h := let_e ey8 h
      refine lv_iinc (v := y8) (lv' := [(3, .int y8), (2, .int y7), (0, .ref (a k)), (1, .int x1)]) hx hb dX9_recordedLessShipped_23 hl (k := 3) rfl (by rw [ey8]; rfl) (by decide) rfl (fun ls hl => ?_)
      refine lv_goto (tgt := 4) hx hb dX9_recordedLessShipped_26 (by decide) ?_
      exact hK4 x1 y7 y8 s4 h _ _ ls hP hD hS (lv_sub hl [2, 3, 1, 0] rfl)
  have hL4 : ∀ k_ : Nat, ∀ (x1 : Int32) (x2 : Int32) (x3 : Int32) (s1 : St), fX9_recordedLessShipped_L4 nF k k_ x1 x2 x3 s1 = some (r, s') → ∀ (H : Heap) (locs : List Loc) (ls : Array Slot), va_P D vwCl (wc cA ad a fr s1) H → va_D A (wc cA ad a fr s1) → va_S A s.heap H locs → lv_has ls 4 [(0, .ref (a k)), (1, .int x1), (2, .int x2), (3, .int x3)] → W p l e (RM 1) s m args below meth c H locs 0 0 (MQ below (gQi D (TYS cA) A (wc cA ad a fr) r s') args s 0 0 A) (F0 m 4 ls []) := by
    intro k_
    induction k_ with
    | zero => intro x1 x2 x3 s1 h; cases h
    | succ k_ ih => exact hB4 (fX9_recordedLessShipped_L4 nF k k_) ih
  unfold fX9_recordedLessShipped at h
  refine lv_iconst (v := 0) hx hb dX9_recordedLessShipped_0 (by decide) ?_
  refine lv_istore_n (lv' := [(2, .int 0), (0, .ref (a k)), (1, .int p1)]) hx hb dX9_recordedLessShipped_1 rfl hl (by decide) rfl (fun ls hl => ?_)
  refine lv_iconst (v := 0) hx hb dX9_recordedLessShipped_2 (by decide) ?_
  refine lv_istore_n (lv' := [(3, .int 0), (2, .int 0), (0, .ref (a k)), (1, .int p1)]) hx hb dX9_recordedLessShipped_3 rfl hl (by decide) rfl (fun ls hl => ?_)
  exact hL4 nF p1 0 0 s0 h _ _ ls hP hD hS (lv_sub hl [2, 3, 1, 0] rfl)
noncomputable def fX9_lost (k : Nat) (s0 : St) : Option (Int32 × St) :=
  some ((s0 k 5) + (s0 k 6), s0)
set_option maxHeartbeats 4000000 in
set_option maxRecDepth 100000 in
theorem mX9_lost (l : Launch) (D : va_G) (cA : Nat → ClassId) (ad adF adW tt a : Nat → Nat) (fr : va_W) (ST : gST) (hT : STE ad adF adW tt ST) (k : Nat) (hk : isS k) (s0 : St) (r : Int32) (s' : St) (h : fX9_lost k s0 = some (r, s')) : gMet l yX9_lost cX9_lost 1 (some .int) 0 D (TYS cA) ST (wc cA ad a fr s0) [.ref (a k)] (fun A => gQi D (TYS cA) A (wc cA ad a fr) r s') := by
  refine g_ofW hT.1 (by decide +kernel) (Nat.le_of_ble_eq_true rfl) ?_
  intro p e s m args below meth c ls A G hP hD hl
  have G : GC p s m args meth c cX9_lost 1 RX9 (some .int) A D (TYS cA) ST := G
  have hx := G.1
  have hb := G.2.1
  have hS : va_S A s.heap s.heap [] := va_S.rf
  have hl : lv_has ls 1 [(0, .ref (a k))] := hl
  unfold fX9_lost at h
  refine lv_aload_n hx hb dX9_lost_0 rfl (lv_at hl 0 rfl) ?_
  refine gfX9_29 hk G hP dX9_lost_1 ?_
  refine lv_aload_n hx hb dX9_lost_4 rfl (lv_at hl 0 rfl) ?_
  refine gfX9_32 hk G hP dX9_lost_5 ?_
  refine lv_iadd hx hb dX9_lost_8 ?_
  exact g_ret G hP hD hS h rfl dX9_lost_9
noncomputable def fX9_recordedAndLost_L7b (nF : Nat) (k : Nat) (K7 : Int32 → Int32 → St → Option (Int32 × St)) (x1 : Int32) (x2 : Int32) (s1 : St) : Option (Int32 × St) :=
  if 32 ≤ x2 then
    some (x1, s1)
  else
    BND x2 32 <|
    LET (x1 + (s1 (k + 3) x2.toNatClampNeg)) fun y3 =>
    LET (x2 + 1) fun y4 =>
    K7 y3 y4 s1
noncomputable def fX9_recordedAndLost_L7 (nF : Nat) (k : Nat) : Nat → Int32 → Int32 → St → Option (Int32 × St) := fun k_ => Nat.rec (fun _ _ _ => none) (fun _ K => fX9_recordedAndLost_L7b nF k K) k_
theorem fX9_recordedAndLost_L7_s (nF : Nat) (k : Nat) (k_ : Nat) : fX9_recordedAndLost_L7 nF k (k_ + 1) = fX9_recordedAndLost_L7b nF k (fX9_recordedAndLost_L7 nF k k_) := rfl
noncomputable def fX9_recordedAndLost (nF : Nat) (k : Nat) (s0 : St) : Option (Int32 × St) :=
  OB (fX9_lost k s0) fun r5 s6 =>
  fX9_recordedAndLost_L7 nF k nF r5 0 s6
set_option maxHeartbeats 4000000 in
set_option maxRecDepth 100000 in
theorem mX9_recordedAndLost (l : Launch) (D : va_G) (cA : Nat → ClassId) (ad adF adW tt a : Nat → Nat) (fr : va_W) (ST : gST) (hT : STE ad adF adW tt ST) (nF : Nat) (k : Nat) (hk : isS k) (s0 : St) (r : Int32) (s' : St) (h : fX9_recordedAndLost nF k s0 = some (r, s')) : gMet l yX9_recordedAndLost cX9_recordedAndLost 3 (some .int) 1 D (TYS cA) ST (wc cA ad a fr s0) [.ref (a k)] (fun A => gQi D (TYS cA) A (wc cA ad a fr) r s') := by
  refine g_ofW hT.1 (by decide +kernel) (Nat.le_of_ble_eq_true rfl) ?_
  intro p e s m args below meth c ls A G hP hD hl
  have G : GC p s m args meth c cX9_recordedAndLost 3 RX9 (some .int) A D (TYS cA) ST := G
  have hx := G.1
  have hb := G.2.1
  have hS : va_S A s.heap s.heap [] := va_S.rf
  have hl : lv_has ls 3 [(0, .ref (a k))] := hl
  have hB7 : ∀ (K7 : Int32 → Int32 → St → Option (Int32 × St)), (∀ (x1 : Int32) (x2 : Int32) (s1 : St), K7 x1 x2 s1 = some (r, s') → ∀ (H : Heap) (locs : List Loc) (ls : Array Slot), va_P D vwCl (wc cA ad a fr s1) H → va_D A (wc cA ad a fr s1) → va_S A s.heap H locs → lv_has ls 3 [(0, .ref (a k)), (1, .int x1), (2, .int x2)] → W p l e (RM 1) s m args below meth c H locs 0 0 (MQ below (gQi D (TYS cA) A (wc cA ad a fr) r s') args s 0 0 A) (F0 m 7 ls [])) → ∀ (x1 : Int32) (x2 : Int32) (s1 : St), fX9_recordedAndLost_L7b nF k K7 x1 x2 s1 = some (r, s') → ∀ (H : Heap) (locs : List Loc) (ls : Array Slot), va_P D vwCl (wc cA ad a fr s1) H → va_D A (wc cA ad a fr s1) → va_S A s.heap H locs → lv_has ls 3 [(0, .ref (a k)), (1, .int x1), (2, .int x2)] → W p l e (RM 1) s m args below meth c H locs 0 0 (MQ below (gQi D (TYS cA) A (wc cA ad a fr) r s') args s 0 0 A) (F0 m 7 ls []) := by
    intro K7 hK7 x1 x2 s1 h H locs ls hP hD hS hl
    unfold fX9_recordedAndLost_L7b at h
    refine lv_iload_n hx hb dX9_recordedAndLost_7 rfl (lv_at hl 2 rfl) ?_
    refine lv_bipush (v := 32) hx hb dX9_recordedAndLost_8 (by decide) ?_
    refine lv_icmp_ge (tgt := 28) hx hb dX9_recordedAndLost_10 (by decide) (fun c1 => ?_) (fun c1 => ?_)
    · replace h := it_t c1 h
      refine lv_iload_n hx hb dX9_recordedAndLost_28 rfl (lv_at hl 1 rfl) ?_
      exact g_ret G hP hD hS h rfl dX9_recordedAndLost_29
    · replace h := it_f c1 h
      refine lv_iload_n hx hb dX9_recordedAndLost_13 rfl (lv_at hl 1 rfl) ?_
      refine lv_aload_n hx hb dX9_recordedAndLost_14 rfl (lv_at hl 0 rfl) ?_
      refine gfX9_18 hk G hP dX9_recordedAndLost_15 ?_
      refine lv_iload_n hx hb dX9_recordedAndLost_18 rfl (lv_at hl 2 rfl) ?_
      obtain ⟨b2, h⟩ := bnd_e h
      refine g_ald (t := 0) (ty := .int) (Or.inl rfl) G hP (k + 3) (ltS_3 hk) (sS_3 hk) rfl b2 dX9_recordedAndLost_19 ?_
      refine lv_iadd hx hb dX9_recordedAndLost_20 ?_
      refine lv_topi (fun y3 ey3 => ?_)
      replace h := let_e ey3 h
      refine lv_istore_n (lv' := [(1, .int y3), (0, .ref (a k)), (2, .int x2)]) hx hb dX9_recordedAndLost_21 rfl hl (by decide) rfl (fun ls hl => ?_)
      obtain ⟨y4, ey4⟩ : ∃ y : Int32, y = x2 + 1 := ⟨_, rfl⟩
      replace h := let_e ey4 h
      refine lv_iinc (v := y4) (lv' := [(2, .int y4), (1, .int y3), (0, .ref (a k))]) hx hb dX9_recordedAndLost_22 hl (k := 2) rfl (by rw [ey4]; rfl) (by decide) rfl (fun ls hl => ?_)
      refine lv_goto (tgt := 7) hx hb dX9_recordedAndLost_25 (by decide) ?_
      exact hK7 y3 y4 s1 h _ _ ls hP hD hS (lv_sub hl [2, 1, 0] rfl)
  have hL7 : ∀ k_ : Nat, ∀ (x1 : Int32) (x2 : Int32) (s1 : St), fX9_recordedAndLost_L7 nF k k_ x1 x2 s1 = some (r, s') → ∀ (H : Heap) (locs : List Loc) (ls : Array Slot), va_P D vwCl (wc cA ad a fr s1) H → va_D A (wc cA ad a fr s1) → va_S A s.heap H locs → lv_has ls 3 [(0, .ref (a k)), (1, .int x1), (2, .int x2)] → W p l e (RM 1) s m args below meth c H locs 0 0 (MQ below (gQi D (TYS cA) A (wc cA ad a fr) r s') args s 0 0 A) (F0 m 7 ls []) := by
    intro k_
    induction k_ with
    | zero => intro x1 x2 s1 h; cases h
    | succ k_ ih => exact hB7 (fX9_recordedAndLost_L7 nF k k_) ih
  unfold fX9_recordedAndLost at h
  refine lv_aload_n hx hb dX9_recordedAndLost_0 rfl (lv_at hl 0 rfl) ?_
  obtain ⟨r5, s6, g7, h⟩ := ob_e h
  refine g_callVi (nA := 0) (mX9_lost l D cA ad adF adW tt a fr ST hT k hk s0 r5 s6 g7) G hP hD hS (g_good q4_49 q4_50 q4_51 q1_4 q4_52) (by decide +kernel) (by decide) (ltS_0 hk) (sS_0 hk) rfl rfl hl.1 [] rfl (Nat.le_of_ble_eq_true rfl) dX9_recordedAndLost_1 (fun H locs hP hD hS => ?_)
  refine lv_istore_n (lv' := [(1, .int r5), (0, .ref (a k))]) hx hb dX9_recordedAndLost_4 rfl hl (by decide) rfl (fun ls hl => ?_)
  refine lv_iconst (v := 0) hx hb dX9_recordedAndLost_5 (by decide) ?_
  refine lv_istore_n (lv' := [(2, .int 0), (1, .int r5), (0, .ref (a k))]) hx hb dX9_recordedAndLost_6 rfl hl (by decide) rfl (fun ls hl => ?_)
  exact hL7 nF r5 0 s6 h _ _ ls hP hD hS (lv_sub hl [2, 1, 0] rfl)
noncomputable def fX9_recordedOfBand_L4b (nF : Nat) (k : Nat) (K4 : Int32 → Int32 → Int32 → St → Option (Int32 × St)) (x1 : Int32) (x2 : Int32) (x3 : Int32) (s1 : St) : Option (Int32 × St) :=
  if 4 ≤ x3 then
    some (x2, s1)
  else
    OB (fX9_row x1 x3 s1) fun r2 s3 =>
    BND r2 32 <|
    LET (x2 + (s3 (k + 3) r2.toNatClampNeg)) fun y6 =>
    LET (x3 + 1) fun y7 =>
    K4 x1 y6 y7 s3
noncomputable def fX9_recordedOfBand_L4 (nF : Nat) (k : Nat) : Nat → Int32 → Int32 → Int32 → St → Option (Int32 × St) := fun k_ => Nat.rec (fun _ _ _ _ => none) (fun _ K => fX9_recordedOfBand_L4b nF k K) k_
theorem fX9_recordedOfBand_L4_s (nF : Nat) (k : Nat) (k_ : Nat) : fX9_recordedOfBand_L4 nF k (k_ + 1) = fX9_recordedOfBand_L4b nF k (fX9_recordedOfBand_L4 nF k k_) := rfl
noncomputable def fX9_recordedOfBand (nF : Nat) (k : Nat) (p1 : Int32) (s0 : St) : Option (Int32 × St) :=
  fX9_recordedOfBand_L4 nF k nF p1 0 0 s0
set_option maxHeartbeats 4000000 in
set_option maxRecDepth 100000 in
theorem mX9_recordedOfBand (l : Launch) (D : va_G) (cA : Nat → ClassId) (ad adF adW tt a : Nat → Nat) (fr : va_W) (ST : gST) (hT : STE ad adF adW tt ST) (nF : Nat) (k : Nat) (hk : isS k) (p1 : Int32) (s0 : St) (r : Int32) (s' : St) (h : fX9_recordedOfBand nF k p1 s0 = some (r, s')) : gMet l yX9_recordedOfBand cX9_recordedOfBand 4 (some .int) 1 D (TYS cA) ST (wc cA ad a fr s0) [.ref (a k), .int p1] (fun A => gQi D (TYS cA) A (wc cA ad a fr) r s') := by
  refine g_ofW hT.1 (by decide +kernel) (Nat.le_of_ble_eq_true rfl) ?_
  intro p e s m args below meth c ls A G hP hD hl
  have G : GC p s m args meth c cX9_recordedOfBand 4 RX9 (some .int) A D (TYS cA) ST := G
  have hx := G.1
  have hb := G.2.1
  have hS : va_S A s.heap s.heap [] := va_S.rf
  have hl : lv_has ls 4 [(0, .ref (a k)), (1, .int p1)] := hl
  have hB4 : ∀ (K4 : Int32 → Int32 → Int32 → St → Option (Int32 × St)), (∀ (x1 : Int32) (x2 : Int32) (x3 : Int32) (s1 : St), K4 x1 x2 x3 s1 = some (r, s') → ∀ (H : Heap) (locs : List Loc) (ls : Array Slot), va_P D vwCl (wc cA ad a fr s1) H → va_D A (wc cA ad a fr s1) → va_S A s.heap H locs → lv_has ls 4 [(0, .ref (a k)), (1, .int x1), (2, .int x2), (3, .int x3)] → W p l e (RM 1) s m args below meth c H locs 0 0 (MQ below (gQi D (TYS cA) A (wc cA ad a fr) r s') args s 0 0 A) (F0 m 4 ls [])) → ∀ (x1 : Int32) (x2 : Int32) (x3 : Int32) (s1 : St), fX9_recordedOfBand_L4b nF k K4 x1 x2 x3 s1 = some (r, s') → ∀ (H : Heap) (locs : List Loc) (ls : Array Slot), va_P D vwCl (wc cA ad a fr s1) H → va_D A (wc cA ad a fr s1) → va_S A s.heap H locs → lv_has ls 4 [(0, .ref (a k)), (1, .int x1), (2, .int x2), (3, .int x3)] → W p l e (RM 1) s m args below meth c H locs 0 0 (MQ below (gQi D (TYS cA) A (wc cA ad a fr) r s') args s 0 0 A) (F0 m 4 ls []) := by
    intro K4 hK4 x1 x2 x3 s1 h H locs ls hP hD hS hl
    unfold fX9_recordedOfBand_L4b at h
    refine lv_iload_n hx hb dX9_recordedOfBand_4 rfl (lv_at hl 3 rfl) ?_
    refine lv_iconst (v := 4) hx hb dX9_recordedOfBand_5 (by decide) ?_
    refine lv_icmp_ge (tgt := 28) hx hb dX9_recordedOfBand_6 (by decide) (fun c1 => ?_) (fun c1 => ?_)
    · replace h := it_t c1 h
      refine lv_iload_n hx hb dX9_recordedOfBand_28 rfl (lv_at hl 2 rfl) ?_
      exact g_ret G hP hD hS h rfl dX9_recordedOfBand_29
    · replace h := it_f c1 h
      refine lv_iload_n hx hb dX9_recordedOfBand_9 rfl (lv_at hl 2 rfl) ?_
      refine lv_aload_n hx hb dX9_recordedOfBand_10 rfl (lv_at hl 0 rfl) ?_
      refine gfX9_18 hk G hP dX9_recordedOfBand_11 ?_
      refine lv_iload_n hx hb dX9_recordedOfBand_14 rfl (lv_at hl 1 rfl) ?_
      refine lv_iload_n hx hb dX9_recordedOfBand_15 rfl (lv_at hl 3 rfl) ?_
      obtain ⟨r2, s3, g4, h⟩ := ob_e h
      refine g_callSXi (nA := 2) (mX9_row l D cA ad adF adW tt a fr ST hT x1 x3 s1 r2 s3 g4) G hP hD hS (g_goodSX q3_145 q3_146 q1_4 q3_147) (by decide +kernel) (by decide) rfl hl.1 [.ref (a (k + 3)), .int x2] rfl (Nat.le_of_ble_eq_true rfl) dX9_recordedOfBand_16 (fun H locs hP hD hS => ?_)
      obtain ⟨b5, h⟩ := bnd_e h
      refine g_ald (t := 0) (ty := .int) (Or.inl rfl) G hP (k + 3) (ltS_3 hk) (sS_3 hk) rfl b5 dX9_recordedOfBand_19 ?_
      refine lv_iadd hx hb dX9_recordedOfBand_20 ?_
      refine lv_topi (fun y6 ey6 => ?_)
      replace h := let_e ey6 h
      refine lv_istore_n (lv' := [(2, .int y6), (0, .ref (a k)), (1, .int x1), (3, .int x3)]) hx hb dX9_recordedOfBand_21 rfl hl (by decide) rfl (fun ls hl => ?_)
      obtain ⟨y7, ey7⟩ : ∃ y : Int32, y = x3 + 1 := ⟨_, rfl⟩
      replace h := let_e ey7 h
      refine lv_iinc (v := y7) (lv' := [(3, .int y7), (2, .int y6), (0, .ref (a k)), (1, .int x1)]) hx hb dX9_recordedOfBand_22 hl (k := 3) rfl (by rw [ey7]; rfl) (by decide) rfl (fun ls hl => ?_)
      refine lv_goto (tgt := 4) hx hb dX9_recordedOfBand_25 (by decide) ?_
      exact hK4 x1 y6 y7 s3 h _ _ ls hP hD hS (lv_sub hl [2, 3, 1, 0] rfl)
  have hL4 : ∀ k_ : Nat, ∀ (x1 : Int32) (x2 : Int32) (x3 : Int32) (s1 : St), fX9_recordedOfBand_L4 nF k k_ x1 x2 x3 s1 = some (r, s') → ∀ (H : Heap) (locs : List Loc) (ls : Array Slot), va_P D vwCl (wc cA ad a fr s1) H → va_D A (wc cA ad a fr s1) → va_S A s.heap H locs → lv_has ls 4 [(0, .ref (a k)), (1, .int x1), (2, .int x2), (3, .int x3)] → W p l e (RM 1) s m args below meth c H locs 0 0 (MQ below (gQi D (TYS cA) A (wc cA ad a fr) r s') args s 0 0 A) (F0 m 4 ls []) := by
    intro k_
    induction k_ with
    | zero => intro x1 x2 x3 s1 h; cases h
    | succ k_ ih => exact hB4 (fX9_recordedOfBand_L4 nF k k_) ih
  unfold fX9_recordedOfBand at h
  refine lv_iconst (v := 0) hx hb dX9_recordedOfBand_0 (by decide) ?_
  refine lv_istore_n (lv' := [(2, .int 0), (0, .ref (a k)), (1, .int p1)]) hx hb dX9_recordedOfBand_1 rfl hl (by decide) rfl (fun ls hl => ?_)
  refine lv_iconst (v := 0) hx hb dX9_recordedOfBand_2 (by decide) ?_
  refine lv_istore_n (lv' := [(3, .int 0), (2, .int 0), (0, .ref (a k)), (1, .int p1)]) hx hb dX9_recordedOfBand_3 rfl hl (by decide) rfl (fun ls hl => ?_)
  exact hL4 nF p1 0 0 s0 h _ _ ls hP hD hS (lv_sub hl [2, 3, 1, 0] rfl)
noncomputable def fX9_full (k : Nat) (p1 : Int32) (s0 : St) : Option (Int32 × St) :=
  BND p1 4 <|
  some ((s0 (k + 1) p1.toNatClampNeg) / 20, s0)
set_option maxHeartbeats 4000000 in
set_option maxRecDepth 100000 in
theorem mX9_full (l : Launch) (D : va_G) (cA : Nat → ClassId) (ad adF adW tt a : Nat → Nat) (fr : va_W) (ST : gST) (hT : STE ad adF adW tt ST) (k : Nat) (hk : isS k) (p1 : Int32) (s0 : St) (r : Int32) (s' : St) (h : fX9_full k p1 s0 = some (r, s')) : gMet l yX9_full cX9_full 2 (some .int) 0 D (TYS cA) ST (wc cA ad a fr s0) [.ref (a k), .int p1] (fun A => gQi D (TYS cA) A (wc cA ad a fr) r s') := by
  refine g_ofW hT.1 (by decide +kernel) (Nat.le_of_ble_eq_true rfl) ?_
  intro p e s m args below meth c ls A G hP hD hl
  have G : GC p s m args meth c cX9_full 2 RX9 (some .int) A D (TYS cA) ST := G
  have hx := G.1
  have hb := G.2.1
  have hS : va_S A s.heap s.heap [] := va_S.rf
  have hl : lv_has ls 2 [(0, .ref (a k)), (1, .int p1)] := hl
  unfold fX9_full at h
  refine lv_aload_n hx hb dX9_full_0 rfl (lv_at hl 0 rfl) ?_
  refine gfX9_9 hk G hP dX9_full_1 ?_
  refine lv_iload_n hx hb dX9_full_4 rfl (lv_at hl 1 rfl) ?_
  obtain ⟨b1, h⟩ := bnd_e h
  refine g_ald (t := 0) (ty := .int) (Or.inl rfl) G hP (k + 1) (ltS_1 hk) (sS_1 hk) rfl b1 dX9_full_5 ?_
  refine lv_bipush (v := 20) hx hb dX9_full_6 (by decide) ?_
  refine lv_idiv hx hb dX9_full_8 (by decide) ?_
  exact g_ret G hP hD hS h rfl dX9_full_9
noncomputable def fX9_sendOff (k : Nat) (p1 : Int32) (p2 : Int32) (s0 : St) : Option (Int32 × St) :=
  BND p1 4 <|
  BND p1 4 <|
  LET (u2 s0 (k + 1) p1.toNatClampNeg ((s0 (k + 1) p1.toNatClampNeg) - (p2 * 20))) fun s3 =>
  BND p1 4 <|
  BND p1 4 <|
  LET (u2 s3 (k + 2) p1.toNatClampNeg ((s3 (k + 2) p1.toNatClampNeg) + p2)) fun s6 =>
  some (0, s6)
set_option maxHeartbeats 4000000 in
set_option maxRecDepth 100000 in
theorem mX9_sendOff (l : Launch) (D : va_G) (cA : Nat → ClassId) (ad adF adW tt a : Nat → Nat) (fr : va_W) (ST : gST) (hT : STE ad adF adW tt ST) (k : Nat) (hk : isS k) (p1 : Int32) (p2 : Int32) (s0 : St) (r : Int32) (s' : St) (h : fX9_sendOff k p1 p2 s0 = some (r, s')) : gMet l yX9_sendOff cX9_sendOff 3 none 0 D (TYS cA) ST (wc cA ad a fr s0) [.ref (a k), .int p1, .int p2] (fun A => gQv D (TYS cA) A (wc cA ad a fr) s') := by
  refine g_ofW hT.1 (by decide +kernel) (Nat.le_of_ble_eq_true rfl) ?_
  intro p e s m args below meth c ls A G hP hD hl
  have G : GC p s m args meth c cX9_sendOff 3 RX9 none A D (TYS cA) ST := G
  have hx := G.1
  have hb := G.2.1
  have hS : va_S A s.heap s.heap [] := va_S.rf
  have hl : lv_has ls 3 [(0, .ref (a k)), (1, .int p1), (2, .int p2)] := hl
  unfold fX9_sendOff at h
  refine lv_aload_n hx hb dX9_sendOff_0 rfl (lv_at hl 0 rfl) ?_
  refine gfX9_9 hk G hP dX9_sendOff_1 ?_
  refine lv_iload_n hx hb dX9_sendOff_4 rfl (lv_at hl 1 rfl) ?_
  refine lv_dup2_11 hx hb dX9_sendOff_5 rfl rfl ?_
  obtain ⟨b1, h⟩ := bnd_e h
  refine g_ald (t := 0) (ty := .int) (Or.inl rfl) G hP (k + 1) (ltS_1 hk) (sS_1 hk) rfl b1 dX9_sendOff_6 ?_
  refine lv_iload_n hx hb dX9_sendOff_7 rfl (lv_at hl 2 rfl) ?_
  refine lv_bipush (v := 20) hx hb dX9_sendOff_8 (by decide) ?_
  refine lv_imul hx hb dX9_sendOff_10 ?_
  refine lv_isub hx hb dX9_sendOff_11 ?_
  obtain ⟨b2, h⟩ := bnd_e h
  refine g_ast (t := 0) (ty := .int) (Or.inl rfl) G hP hD hS (k + 1) (ltS_1 hk) (sS_1 hk) rfl b2 dX9_sendOff_12 (fun s3 es3 H locs hP hD hS => ?_)
  replace h := let_e es3 h
  refine lv_aload_n hx hb dX9_sendOff_13 rfl (lv_at hl 0 rfl) ?_
  refine gfX9_15 hk G hP dX9_sendOff_14 ?_
  refine lv_iload_n hx hb dX9_sendOff_17 rfl (lv_at hl 1 rfl) ?_
  refine lv_dup2_11 hx hb dX9_sendOff_18 rfl rfl ?_
  obtain ⟨b4, h⟩ := bnd_e h
  refine g_ald (t := 0) (ty := .int) (Or.inl rfl) G hP (k + 2) (ltS_2 hk) (sS_2 hk) rfl b4 dX9_sendOff_19 ?_
  refine lv_iload_n hx hb dX9_sendOff_20 rfl (lv_at hl 2 rfl) ?_
  refine lv_iadd hx hb dX9_sendOff_21 ?_
  obtain ⟨b5, h⟩ := bnd_e h
  refine g_ast (t := 0) (ty := .int) (Or.inl rfl) G hP hD hS (k + 2) (ltS_2 hk) (sS_2 hk) rfl b5 dX9_sendOff_22 (fun s6 es6 H locs hP hD hS => ?_)
  replace h := let_e es6 h
  exact g_vret G hP hD hS h dX9_sendOff_23
noncomputable def fX6_isWheel (p1 : Int32) (s0 : St) : Option (Int32 × St) :=
  if p1 < 0 then
    some (0, s0)
  else
    if 3 ≤ p1 then
      some (0, s0)
    else
      some (1, s0)
set_option maxHeartbeats 4000000 in
set_option maxRecDepth 100000 in
theorem mX6_isWheel (l : Launch) (D : va_G) (cA : Nat → ClassId) (ad adF adW tt a : Nat → Nat) (fr : va_W) (ST : gST) (hT : STE ad adF adW tt ST) (p1 : Int32) (s0 : St) (r : Int32) (s' : St) (h : fX6_isWheel p1 s0 = some (r, s')) : gMet l yX6_isWheel cX6_isWheel 1 (some .boolean) 0 D (TYS cA) ST (wc cA ad a fr s0) [.int p1] (fun A => gQi D (TYS cA) A (wc cA ad a fr) r s') := by
  refine g_ofW hT.1 (by decide +kernel) (Nat.le_of_ble_eq_true rfl) ?_
  intro p e s m args below meth c ls A G hP hD hl
  have G : GC p s m args meth c cX6_isWheel 1 RX6 (some .boolean) A D (TYS cA) ST := G
  have hx := G.1
  have hb := G.2.1
  have hS : va_S A s.heap s.heap [] := va_S.rf
  have hl : lv_has ls 1 [(0, .int p1)] := hl
  unfold fX6_isWheel at h
  refine lv_iload_n hx hb dX6_isWheel_0 rfl (lv_at hl 0 rfl) ?_
  refine lv_if_lt (tgt := 13) hx hb dX6_isWheel_1 (by decide) (fun c1 => ?_) (fun c1 => ?_)
  · replace h := it_t c1 h
    refine lv_iconst (v := 0) hx hb dX6_isWheel_13 (by decide) ?_
    exact g_ret G hP hD hS h rfl dX6_isWheel_14
  · replace h := it_f c1 h
    refine lv_iload_n hx hb dX6_isWheel_4 rfl (lv_at hl 0 rfl) ?_
    refine lv_iconst (v := 3) hx hb dX6_isWheel_5 (by decide) ?_
    refine lv_icmp_ge (tgt := 13) hx hb dX6_isWheel_6 (by decide) (fun c2 => ?_) (fun c2 => ?_)
    · replace h := it_t c2 h
      refine lv_iconst (v := 0) hx hb dX6_isWheel_13 (by decide) ?_
      exact g_ret G hP hD hS h rfl dX6_isWheel_14
    · replace h := it_f c2 h
      refine lv_iconst (v := 1) hx hb dX6_isWheel_9 (by decide) ?_
      refine lv_goto (tgt := 14) hx hb dX6_isWheel_10 (by decide) ?_
      exact g_ret G hP hD hS h rfl dX6_isWheel_14
noncomputable def fX6_isWithin (p1 : Int32) (p2 : Int32) (p3 : Int32) (s0 : St) : Option (Int32 × St) :=
  if p1 < p2 then
    some (0, s0)
  else
    if p3 < p1 then
      some (0, s0)
    else
      some (1, s0)
set_option maxHeartbeats 4000000 in
set_option maxRecDepth 100000 in
theorem mX6_isWithin (l : Launch) (D : va_G) (cA : Nat → ClassId) (ad adF adW tt a : Nat → Nat) (fr : va_W) (ST : gST) (hT : STE ad adF adW tt ST) (p1 : Int32) (p2 : Int32) (p3 : Int32) (s0 : St) (r : Int32) (s' : St) (h : fX6_isWithin p1 p2 p3 s0 = some (r, s')) : gMet l yX6_isWithin cX6_isWithin 3 (some .boolean) 0 D (TYS cA) ST (wc cA ad a fr s0) [.int p1, .int p2, .int p3] (fun A => gQi D (TYS cA) A (wc cA ad a fr) r s') := by
  refine g_ofW hT.1 (by decide +kernel) (Nat.le_of_ble_eq_true rfl) ?_
  intro p e s m args below meth c ls A G hP hD hl
  have G : GC p s m args meth c cX6_isWithin 3 RX6 (some .boolean) A D (TYS cA) ST := G
  have hx := G.1
  have hb := G.2.1
  have hS : va_S A s.heap s.heap [] := va_S.rf
  have hl : lv_has ls 3 [(0, .int p1), (1, .int p2), (2, .int p3)] := hl
  unfold fX6_isWithin at h
  refine lv_iload_n hx hb dX6_isWithin_0 rfl (lv_at hl 0 rfl) ?_
  refine lv_iload_n hx hb dX6_isWithin_1 rfl (lv_at hl 1 rfl) ?_
  refine lv_icmp_lt (tgt := 14) hx hb dX6_isWithin_2 (by decide) (fun c1 => ?_) (fun c1 => ?_)
  · replace h := it_t c1 h
    refine lv_iconst (v := 0) hx hb dX6_isWithin_14 (by decide) ?_
    exact g_ret G hP hD hS h rfl dX6_isWithin_15
  · replace h := it_f c1 h
    refine lv_iload_n hx hb dX6_isWithin_5 rfl (lv_at hl 0 rfl) ?_
    refine lv_iload_n hx hb dX6_isWithin_6 rfl (lv_at hl 2 rfl) ?_
    refine lv_icmp_gt (tgt := 14) hx hb dX6_isWithin_7 (by decide) (fun c2 => ?_) (fun c2 => ?_)
    · replace h := it_t c2 h
      refine lv_iconst (v := 0) hx hb dX6_isWithin_14 (by decide) ?_
      exact g_ret G hP hD hS h rfl dX6_isWithin_15
    · replace h := it_f c2 h
      refine lv_iconst (v := 1) hx hb dX6_isWithin_10 (by decide) ?_
      refine lv_goto (tgt := 15) hx hb dX6_isWithin_11 (by decide) ?_
      exact g_ret G hP hD hS h rfl dX6_isWithin_15
noncomputable def fX6_faultOfGear (p1 : Int32) (p2 : Int32) (s0 : St) : Option (Int32 × St) :=
  OB (fX6_isWheel p1 s0) fun r1 s2 =>
  if r1 = 0 then
    some (1, s2)
  else
    OB (fX6_isWithin p2 1 5 s2) fun r5 s6 =>
    if r5 = 0 then
      some (2, s6)
    else
      some (0, s6)
set_option maxHeartbeats 4000000 in
set_option maxRecDepth 100000 in
theorem mX6_faultOfGear (l : Launch) (D : va_G) (cA : Nat → ClassId) (ad adF adW tt a : Nat → Nat) (fr : va_W) (ST : gST) (hT : STE ad adF adW tt ST) (p1 : Int32) (p2 : Int32) (s0 : St) (r : Int32) (s' : St) (h : fX6_faultOfGear p1 p2 s0 = some (r, s')) : gMet l yX6_faultOfGear cX6_faultOfGear 2 (some (.object "NoiseMill$Fault")) 1 D (TYS cA) ST (wc cA ad a fr s0) [.int p1, .int p2] (fun A => gQe adF D (TYS cA) A (wc cA ad a fr) r s') := by
  refine g_ofW hT.1 (by decide +kernel) (Nat.le_of_ble_eq_true rfl) ?_
  intro p e s m args below meth c ls A G hP hD hl
  have G : GC p s m args meth c cX6_faultOfGear 2 RX6 (some (.object "NoiseMill$Fault")) A D (TYS cA) ST := G
  have hx := G.1
  have hb := G.2.1
  have hS : va_S A s.heap s.heap [] := va_S.rf
  have hl : lv_has ls 2 [(0, .int p1), (1, .int p2)] := hl
  unfold fX6_faultOfGear at h
  refine lv_iload_n hx hb dX6_faultOfGear_0 rfl (lv_at hl 0 rfl) ?_
  obtain ⟨r1, s2, g3, h⟩ := ob_e h
  refine g_callSXi (nA := 1) (mX6_isWheel l D cA ad adF adW tt a fr ST hT p1 s0 r1 s2 g3) G hP hD hS (g_goodSX q2_88 q2_89 q1_2 q2_90) (by decide +kernel) (by decide) rfl hl.1 [] rfl (Nat.le_of_ble_eq_true rfl) dX6_faultOfGear_1 (fun H locs hP hD hS => ?_)
  refine lv_if_ne (tgt := 11) hx hb dX6_faultOfGear_4 (by decide) (fun c4 => ?_) (fun c4 => ?_)
  · replace h := it_f c4 h
    refine lv_iload_n hx hb dX6_faultOfGear_11 rfl (lv_at hl 1 rfl) ?_
    refine lv_iconst (v := 1) hx hb dX6_faultOfGear_12 (by decide) ?_
    refine lv_iconst (v := 5) hx hb dX6_faultOfGear_13 (by decide) ?_
    obtain ⟨r5, s6, g7, h⟩ := ob_e h
    refine g_callSXi (nA := 3) (mX6_isWithin l D cA ad adF adW tt a fr ST hT p2 1 5 s2 r5 s6 g7) G hP hD hS (g_goodSX q2_93 q2_94 q1_2 q2_95) (by decide +kernel) (by decide) rfl hl.1 [] rfl (Nat.le_of_ble_eq_true rfl) dX6_faultOfGear_14 (fun H locs hP hD hS => ?_)
    refine lv_if_eq (tgt := 26) hx hb dX6_faultOfGear_17 (by decide) (fun c8 => ?_) (fun c8 => ?_)
    · replace h := it_t c8 h
      refine g_getF (v := 2) 2 (by decide) rfl hT G hS q2_98 dX6_faultOfGear_26 ?_
      exact g_eret (v := 2) (by decide) G hP hD hS h dX6_faultOfGear_29
    · replace h := it_f c8 h
      refine g_getF (v := 0) 0 (by decide) rfl hT G hS q2_96 dX6_faultOfGear_20 ?_
      refine lv_goto (tgt := 29) hx hb dX6_faultOfGear_23 (by decide) ?_
      exact g_eret (v := 0) (by decide) G hP hD hS h dX6_faultOfGear_29
  · replace h := it_t c4 h
    refine g_getF (v := 1) 1 (by decide) rfl hT G hS q2_91 dX6_faultOfGear_7 ?_
    exact g_eret (v := 1) (by decide) G hP hD hS h dX6_faultOfGear_10
noncomputable def fX6_copyFrom (nF : Nat) (k : Nat) (k1 : Nat) (s0 : St) : Option (Int32 × St) :=
  OB (fX7_copyFrom nF (k + 1) (k1 + 1) s0) fun r1 s2 =>
  OB (fX9_copyFrom nF (k + 7) (k1 + 7) s2) fun r4 s5 =>
  OB (fX5_copyFrom (k + 12) (k1 + 12) s5) fun r7 s8 =>
  LET (va_up s8 (k + 16) (cpy0 (s8 (k1 + 16)) (s8 (k + 16)) 3)) fun s10 =>
  LET (va_up s10 (k + 17) (cpy0 (s10 (k1 + 17)) (s10 (k + 17)) 3)) fun s11 =>
  LET (va_up s11 (k + 18) (cpy0 (s11 (k1 + 18)) (s11 (k + 18)) 8)) fun s12 =>
  LET (u2 s12 k 6 (s12 k1 6)) fun s13 =>
  some (0, s13)
set_option maxHeartbeats 4000000 in
set_option maxRecDepth 100000 in
theorem mX6_copyFrom (l : Launch) (D : va_G) (cA : Nat → ClassId) (ad adF adW tt a : Nat → Nat) (fr : va_W) (ST : gST) (hT : STE ad adF adW tt ST) (nF : Nat) (k : Nat) (k1 : Nat) (hk : isM k) (hk1 : isM k1) (s0 : St) (r : Int32) (s' : St) (h : fX6_copyFrom nF k k1 s0 = some (r, s')) : gMet l yX6_copyFrom cX6_copyFrom 2 none 3 D (TYS cA) ST (wc cA ad a fr s0) [.ref (a k), .ref (a k1)] (fun A => gQv D (TYS cA) A (wc cA ad a fr) s') := by
  refine g_ofW hT.1 (by decide +kernel) (Nat.le_of_ble_eq_true rfl) ?_
  intro p e s m args below meth c ls A G hP hD hl
  have G : GC p s m args meth c cX6_copyFrom 2 RX6 none A D (TYS cA) ST := G
  have hx := G.1
  have hb := G.2.1
  have hS : va_S A s.heap s.heap [] := va_S.rf
  have hl : lv_has ls 2 [(0, .ref (a k)), (1, .ref (a k1))] := hl
  unfold fX6_copyFrom at h
  refine lv_aload_n hx hb dX6_copyFrom_0 rfl (lv_at hl 0 rfl) ?_
  refine gfX6_12 hk G hP dX6_copyFrom_1 ?_
  refine lv_aload_n hx hb dX6_copyFrom_4 rfl (lv_at hl 1 rfl) ?_
  refine gfX6_12 hk1 G hP dX6_copyFrom_5 ?_
  obtain ⟨r1, s2, g3, h⟩ := ob_e h
  refine g_callVv (nA := 1) (mX7_copyFrom l D cA ad adF adW tt a fr ST hT nF (k + 1) (k1 + 1) (mN hk) (mN hk1) s0 r1 s2 g3) G hP hD hS (g_good q3_14 q3_15 q3_16 q1_3 q3_17) (by decide +kernel) (by decide) (ltN_0 (mN hk)) (sN_0 (mN hk)) rfl rfl hl.1 [] rfl (Nat.le_of_ble_eq_true rfl) dX6_copyFrom_8 (fun H locs hP hD hS => ?_)
  refine lv_aload_n hx hb dX6_copyFrom_11 rfl (lv_at hl 0 rfl) ?_
  refine gfX6_21 hk G hP dX6_copyFrom_12 ?_
  refine lv_aload_n hx hb dX6_copyFrom_15 rfl (lv_at hl 1 rfl) ?_
  refine gfX6_21 hk1 G hP dX6_copyFrom_16 ?_
  obtain ⟨r4, s5, g6, h⟩ := ob_e h
  refine g_callVv (nA := 1) (mX9_copyFrom l D cA ad adF adW tt a fr ST hT nF (k + 7) (k1 + 7) (mS hk) (mS hk1) s2 r4 s5 g6) G hP hD hS (g_good q3_21 q3_22 q3_23 q1_4 q3_24) (by decide +kernel) (by decide) (ltS_0 (mS hk)) (sS_0 (mS hk)) rfl rfl hl.1 [] rfl (Nat.le_of_ble_eq_true rfl) dX6_copyFrom_19 (fun H locs hP hD hS => ?_)
  refine lv_aload_n hx hb dX6_copyFrom_22 rfl (lv_at hl 0 rfl) ?_
  refine gfX6_28 hk G hP dX6_copyFrom_23 ?_
  refine lv_aload_n hx hb dX6_copyFrom_26 rfl (lv_at hl 1 rfl) ?_
  refine gfX6_28 hk1 G hP dX6_copyFrom_27 ?_
  obtain ⟨r7, s8, g9, h⟩ := ob_e h
  refine g_callVv (nA := 1) (mX5_copyFrom l D cA ad adF adW tt a fr ST hT (k + 12) (k1 + 12) (mL hk) (mL hk1) s5 r7 s8 g9) G hP hD hS (g_good q3_26 q3_27 q3_28 q1_5 q3_29) (by decide +kernel) (by decide) (ltL_0 (mL hk)) (sL_0 (mL hk)) rfl rfl hl.1 [] rfl (Nat.le_of_ble_eq_true rfl) dX6_copyFrom_30 (fun H locs hP hD hS => ?_)
  refine lv_aload_n hx hb dX6_copyFrom_33 rfl (lv_at hl 1 rfl) ?_
  refine gfX6_32 hk1 G hP dX6_copyFrom_34 ?_
  refine lv_iconst (v := 0) hx hb dX6_copyFrom_37 (by decide) ?_
  refine lv_aload_n hx hb dX6_copyFrom_38 rfl (lv_at hl 0 rfl) ?_
  refine gfX6_32 hk G hP dX6_copyFrom_39 ?_
  refine lv_iconst (v := 0) hx hb dX6_copyFrom_42 (by decide) ?_
  refine lv_iconst (v := 3) hx hb dX6_copyFrom_43 (by decide) ?_
  refine g_cpy (t := 0) (ty := .int) G hP hD hS (k1 + 16) (k + 16) (ltM_16 hk1) (sM_16 hk1) (ltM_16 hk) (sM_16 hk) rfl rfl 3 rfl (by decide) (by decide) (by decide) (fun i hi => rfl) hl.1 q3_31 q3_20 q3_19 q1_27 (by decide) (Nat.le_of_ble_eq_true rfl) dX6_copyFrom_44 (fun s10 es10 H locs hP hD hS => ?_)
  replace h := let_e es10 h
  refine lv_aload_n hx hb dX6_copyFrom_47 rfl (lv_at hl 1 rfl) ?_
  refine gfX6_36 hk1 G hP dX6_copyFrom_48 ?_
  refine lv_iconst (v := 0) hx hb dX6_copyFrom_51 (by decide) ?_
  refine lv_aload_n hx hb dX6_copyFrom_52 rfl (lv_at hl 0 rfl) ?_
  refine gfX6_36 hk G hP dX6_copyFrom_53 ?_
  refine lv_iconst (v := 0) hx hb dX6_copyFrom_56 (by decide) ?_
  refine lv_iconst (v := 3) hx hb dX6_copyFrom_57 (by decide) ?_
  refine g_cpy (t := 0) (ty := .int) G hP hD hS (k1 + 17) (k + 17) (ltM_17 hk1) (sM_17 hk1) (ltM_17 hk) (sM_17 hk) rfl rfl 3 rfl (by decide) (by decide) (by decide) (fun i hi => rfl) hl.1 q3_31 q3_20 q3_19 q1_27 (by decide) (Nat.le_of_ble_eq_true rfl) dX6_copyFrom_58 (fun s11 es11 H locs hP hD hS => ?_)
  replace h := let_e es11 h
  refine lv_aload_n hx hb dX6_copyFrom_61 rfl (lv_at hl 1 rfl) ?_
  refine gfX6_39 hk1 G hP dX6_copyFrom_62 ?_
  refine lv_iconst (v := 0) hx hb dX6_copyFrom_65 (by decide) ?_
  refine lv_aload_n hx hb dX6_copyFrom_66 rfl (lv_at hl 0 rfl) ?_
  refine gfX6_39 hk G hP dX6_copyFrom_67 ?_
  refine lv_iconst (v := 0) hx hb dX6_copyFrom_70 (by decide) ?_
  refine lv_bipush (v := 8) hx hb dX6_copyFrom_71 (by decide) ?_
  refine g_cpy (t := 0) (ty := .int) G hP hD hS (k1 + 18) (k + 18) (ltM_18 hk1) (sM_18 hk1) (ltM_18 hk) (sM_18 hk) rfl rfl 8 rfl (by decide) (by decide) (by decide) (fun i hi => rfl) hl.1 q3_31 q3_20 q3_19 q1_27 (by decide) (Nat.le_of_ble_eq_true rfl) dX6_copyFrom_73 (fun s12 es12 H locs hP hD hS => ?_)
  replace h := let_e es12 h
  refine lv_aload_n hx hb dX6_copyFrom_76 rfl (lv_at hl 0 rfl) ?_
  refine lv_aload_n hx hb dX6_copyFrom_77 rfl (lv_at hl 1 rfl) ?_
  refine gfX6_42 hk1 G hP dX6_copyFrom_78 ?_
  refine pfX6_42 hk G hP hD hS dX6_copyFrom_81 (fun s13 es13 H locs hP hD hS => ?_)
  replace h := let_e es13 h
  exact g_vret G hP hD hS h dX6_copyFrom_84
noncomputable def fX6_changeGear (k : Nat) (p1 : Int32) (p2 : Int32) (s0 : St) : Option (Int32 × St) :=
  BND p1 3 <|
  LET (s0 (k + 16) p1.toNatClampNeg) fun y2 =>
  BND p1 3 <|
  LET (u2 s0 (k + 16) p1.toNatClampNeg p2) fun s4 =>
  some (y2, s4)
set_option maxHeartbeats 4000000 in
set_option maxRecDepth 100000 in
theorem mX6_changeGear (l : Launch) (D : va_G) (cA : Nat → ClassId) (ad adF adW tt a : Nat → Nat) (fr : va_W) (ST : gST) (hT : STE ad adF adW tt ST) (k : Nat) (hk : isM k) (p1 : Int32) (p2 : Int32) (s0 : St) (r : Int32) (s' : St) (h : fX6_changeGear k p1 p2 s0 = some (r, s')) : gMet l yX6_changeGear cX6_changeGear 4 (some .int) 0 D (TYS cA) ST (wc cA ad a fr s0) [.ref (a k), .int p1, .int p2] (fun A => gQi D (TYS cA) A (wc cA ad a fr) r s') := by
  refine g_ofW hT.1 (by decide +kernel) (Nat.le_of_ble_eq_true rfl) ?_
  intro p e s m args below meth c ls A G hP hD hl
  have G : GC p s m args meth c cX6_changeGear 4 RX6 (some .int) A D (TYS cA) ST := G
  have hx := G.1
  have hb := G.2.1
  have hS : va_S A s.heap s.heap [] := va_S.rf
  have hl : lv_has ls 4 [(0, .ref (a k)), (1, .int p1), (2, .int p2)] := hl
  unfold fX6_changeGear at h
  refine lv_aload_n hx hb dX6_changeGear_0 rfl (lv_at hl 0 rfl) ?_
  refine gfX6_32 hk G hP dX6_changeGear_1 ?_
  refine lv_iload_n hx hb dX6_changeGear_4 rfl (lv_at hl 1 rfl) ?_
  obtain ⟨b1, h⟩ := bnd_e h
  refine g_ald (t := 0) (ty := .int) (Or.inl rfl) G hP (k + 16) (ltM_16 hk) (sM_16 hk) rfl b1 dX6_changeGear_5 ?_
  refine lv_topi (fun y2 ey2 => ?_)
  replace h := let_e ey2 h
  refine lv_istore_n (lv' := [(3, .int y2), (0, .ref (a k)), (1, .int p1), (2, .int p2)]) hx hb dX6_changeGear_6 rfl hl (by decide) rfl (fun ls hl => ?_)
  refine lv_aload_n hx hb dX6_changeGear_7 rfl (lv_at hl 1 rfl) ?_
  refine gfX6_32 hk G hP dX6_changeGear_8 ?_
  refine lv_iload_n hx hb dX6_changeGear_11 rfl (lv_at hl 2 rfl) ?_
  refine lv_iload_n hx hb dX6_changeGear_12 rfl (lv_at hl 3 rfl) ?_
  obtain ⟨b3, h⟩ := bnd_e h
  refine g_ast (t := 0) (ty := .int) (Or.inl rfl) G hP hD hS (k + 16) (ltM_16 hk) (sM_16 hk) rfl b3 dX6_changeGear_13 (fun s4 es4 H locs hP hD hS => ?_)
  replace h := let_e es4 h
  refine lv_iload_n hx hb dX6_changeGear_14 rfl (lv_at hl 0 rfl) ?_
  exact g_ret G hP hD hS h rfl dX6_changeGear_15
noncomputable def fX6_isBand (p1 : Int32) (s0 : St) : Option (Int32 × St) :=
  if p1 < 0 then
    some (0, s0)
  else
    if 8 ≤ p1 then
      some (0, s0)
    else
      some (1, s0)
set_option maxHeartbeats 4000000 in
set_option maxRecDepth 100000 in
theorem mX6_isBand (l : Launch) (D : va_G) (cA : Nat → ClassId) (ad adF adW tt a : Nat → Nat) (fr : va_W) (ST : gST) (hT : STE ad adF adW tt ST) (p1 : Int32) (s0 : St) (r : Int32) (s' : St) (h : fX6_isBand p1 s0 = some (r, s')) : gMet l yX6_isBand cX6_isBand 1 (some .boolean) 0 D (TYS cA) ST (wc cA ad a fr s0) [.int p1] (fun A => gQi D (TYS cA) A (wc cA ad a fr) r s') := by
  refine g_ofW hT.1 (by decide +kernel) (Nat.le_of_ble_eq_true rfl) ?_
  intro p e s m args below meth c ls A G hP hD hl
  have G : GC p s m args meth c cX6_isBand 1 RX6 (some .boolean) A D (TYS cA) ST := G
  have hx := G.1
  have hb := G.2.1
  have hS : va_S A s.heap s.heap [] := va_S.rf
  have hl : lv_has ls 1 [(0, .int p1)] := hl
  unfold fX6_isBand at h
  refine lv_iload_n hx hb dX6_isBand_0 rfl (lv_at hl 0 rfl) ?_
  refine lv_if_lt (tgt := 14) hx hb dX6_isBand_1 (by decide) (fun c1 => ?_) (fun c1 => ?_)
  · replace h := it_t c1 h
    refine lv_iconst (v := 0) hx hb dX6_isBand_14 (by decide) ?_
    exact g_ret G hP hD hS h rfl dX6_isBand_15
  · replace h := it_f c1 h
    refine lv_iload_n hx hb dX6_isBand_4 rfl (lv_at hl 0 rfl) ?_
    refine lv_bipush (v := 8) hx hb dX6_isBand_5 (by decide) ?_
    refine lv_icmp_ge (tgt := 14) hx hb dX6_isBand_7 (by decide) (fun c2 => ?_) (fun c2 => ?_)
    · replace h := it_t c2 h
      refine lv_iconst (v := 0) hx hb dX6_isBand_14 (by decide) ?_
      exact g_ret G hP hD hS h rfl dX6_isBand_15
    · replace h := it_f c2 h
      refine lv_iconst (v := 1) hx hb dX6_isBand_10 (by decide) ?_
      refine lv_goto (tgt := 15) hx hb dX6_isBand_11 (by decide) ?_
      exact g_ret G hP hD hS h rfl dX6_isBand_15
noncomputable def fX6_faultOfMesh (p1 : Int32) (p2 : Int32) (s0 : St) : Option (Int32 × St) :=
  OB (fX6_isBand p1 s0) fun r1 s2 =>
  if r1 = 0 then
    some (2, s2)
  else
    OB (fX6_isWithin p2 0 9 s2) fun r5 s6 =>
    if r5 = 0 then
      some (2, s6)
    else
      some (0, s6)
set_option maxHeartbeats 4000000 in
set_option maxRecDepth 100000 in
theorem mX6_faultOfMesh (l : Launch) (D : va_G) (cA : Nat → ClassId) (ad adF adW tt a : Nat → Nat) (fr : va_W) (ST : gST) (hT : STE ad adF adW tt ST) (p1 : Int32) (p2 : Int32) (s0 : St) (r : Int32) (s' : St) (h : fX6_faultOfMesh p1 p2 s0 = some (r, s')) : gMet l yX6_faultOfMesh cX6_faultOfMesh 2 (some (.object "NoiseMill$Fault")) 1 D (TYS cA) ST (wc cA ad a fr s0) [.int p1, .int p2] (fun A => gQe adF D (TYS cA) A (wc cA ad a fr) r s') := by
  refine g_ofW hT.1 (by decide +kernel) (Nat.le_of_ble_eq_true rfl) ?_
  intro p e s m args below meth c ls A G hP hD hl
  have G : GC p s m args meth c cX6_faultOfMesh 2 RX6 (some (.object "NoiseMill$Fault")) A D (TYS cA) ST := G
  have hx := G.1
  have hb := G.2.1
  have hS : va_S A s.heap s.heap [] := va_S.rf
  have hl : lv_has ls 2 [(0, .int p1), (1, .int p2)] := hl
  unfold fX6_faultOfMesh at h
  refine lv_iload_n hx hb dX6_faultOfMesh_0 rfl (lv_at hl 0 rfl) ?_
  obtain ⟨r1, s2, g3, h⟩ := ob_e h
  refine g_callSXi (nA := 1) (mX6_isBand l D cA ad adF adW tt a fr ST hT p1 s0 r1 s2 g3) G hP hD hS (g_goodSX q3_49 q3_50 q1_2 q3_51) (by decide +kernel) (by decide) rfl hl.1 [] rfl (Nat.le_of_ble_eq_true rfl) dX6_faultOfMesh_1 (fun H locs hP hD hS => ?_)
  refine lv_if_eq (tgt := 23) hx hb dX6_faultOfMesh_4 (by decide) (fun c4 => ?_) (fun c4 => ?_)
  · replace h := it_t c4 h
    refine g_getF (v := 2) 2 (by decide) rfl hT G hS q2_98 dX6_faultOfMesh_23 ?_
    exact g_eret (v := 2) (by decide) G hP hD hS h dX6_faultOfMesh_26
  · replace h := it_f c4 h
    refine lv_iload_n hx hb dX6_faultOfMesh_7 rfl (lv_at hl 1 rfl) ?_
    refine lv_iconst (v := 0) hx hb dX6_faultOfMesh_8 (by decide) ?_
    refine lv_bipush (v := 9) hx hb dX6_faultOfMesh_9 (by decide) ?_
    obtain ⟨r5, s6, g7, h⟩ := ob_e h
    refine g_callSXi (nA := 3) (mX6_isWithin l D cA ad adF adW tt a fr ST hT p2 0 9 s2 r5 s6 g7) G hP hD hS (g_goodSX q2_93 q2_94 q1_2 q2_95) (by decide +kernel) (by decide) rfl hl.1 [] rfl (Nat.le_of_ble_eq_true rfl) dX6_faultOfMesh_11 (fun H locs hP hD hS => ?_)
    refine lv_if_eq (tgt := 23) hx hb dX6_faultOfMesh_14 (by decide) (fun c8 => ?_) (fun c8 => ?_)
    · replace h := it_t c8 h
      refine g_getF (v := 2) 2 (by decide) rfl hT G hS q2_98 dX6_faultOfMesh_23 ?_
      exact g_eret (v := 2) (by decide) G hP hD hS h dX6_faultOfMesh_26
    · replace h := it_f c8 h
      refine g_getF (v := 0) 0 (by decide) rfl hT G hS q2_96 dX6_faultOfMesh_17 ?_
      refine lv_goto (tgt := 26) hx hb dX6_faultOfMesh_20 (by decide) ?_
      exact g_eret (v := 0) (by decide) G hP hD hS h dX6_faultOfMesh_26
noncomputable def fX6_changeMesh (k : Nat) (p1 : Int32) (p2 : Int32) (s0 : St) : Option (Int32 × St) :=
  BND p1 8 <|
  LET (s0 (k + 18) p1.toNatClampNeg) fun y2 =>
  BND p1 8 <|
  LET (u2 s0 (k + 18) p1.toNatClampNeg p2) fun s4 =>
  some (y2, s4)
set_option maxHeartbeats 4000000 in
set_option maxRecDepth 100000 in
theorem mX6_changeMesh (l : Launch) (D : va_G) (cA : Nat → ClassId) (ad adF adW tt a : Nat → Nat) (fr : va_W) (ST : gST) (hT : STE ad adF adW tt ST) (k : Nat) (hk : isM k) (p1 : Int32) (p2 : Int32) (s0 : St) (r : Int32) (s' : St) (h : fX6_changeMesh k p1 p2 s0 = some (r, s')) : gMet l yX6_changeMesh cX6_changeMesh 4 (some .int) 0 D (TYS cA) ST (wc cA ad a fr s0) [.ref (a k), .int p1, .int p2] (fun A => gQi D (TYS cA) A (wc cA ad a fr) r s') := by
  refine g_ofW hT.1 (by decide +kernel) (Nat.le_of_ble_eq_true rfl) ?_
  intro p e s m args below meth c ls A G hP hD hl
  have G : GC p s m args meth c cX6_changeMesh 4 RX6 (some .int) A D (TYS cA) ST := G
  have hx := G.1
  have hb := G.2.1
  have hS : va_S A s.heap s.heap [] := va_S.rf
  have hl : lv_has ls 4 [(0, .ref (a k)), (1, .int p1), (2, .int p2)] := hl
  unfold fX6_changeMesh at h
  refine lv_aload_n hx hb dX6_changeMesh_0 rfl (lv_at hl 0 rfl) ?_
  refine gfX6_39 hk G hP dX6_changeMesh_1 ?_
  refine lv_iload_n hx hb dX6_changeMesh_4 rfl (lv_at hl 1 rfl) ?_
  obtain ⟨b1, h⟩ := bnd_e h
  refine g_ald (t := 0) (ty := .int) (Or.inl rfl) G hP (k + 18) (ltM_18 hk) (sM_18 hk) rfl b1 dX6_changeMesh_5 ?_
  refine lv_topi (fun y2 ey2 => ?_)
  replace h := let_e ey2 h
  refine lv_istore_n (lv' := [(3, .int y2), (0, .ref (a k)), (1, .int p1), (2, .int p2)]) hx hb dX6_changeMesh_6 rfl hl (by decide) rfl (fun ls hl => ?_)
  refine lv_aload_n hx hb dX6_changeMesh_7 rfl (lv_at hl 1 rfl) ?_
  refine gfX6_39 hk G hP dX6_changeMesh_8 ?_
  refine lv_iload_n hx hb dX6_changeMesh_11 rfl (lv_at hl 2 rfl) ?_
  refine lv_iload_n hx hb dX6_changeMesh_12 rfl (lv_at hl 3 rfl) ?_
  obtain ⟨b3, h⟩ := bnd_e h
  refine g_ast (t := 0) (ty := .int) (Or.inl rfl) G hP hD hS (k + 18) (ltM_18 hk) (sM_18 hk) rfl b3 dX6_changeMesh_13 (fun s4 es4 H locs hP hD hS => ?_)
  replace h := let_e es4 h
  refine lv_iload_n hx hb dX6_changeMesh_14 rfl (lv_at hl 0 rfl) ?_
  exact g_ret G hP hD hS h rfl dX6_changeMesh_15
noncomputable def fX6_faultOfClearing (p1 : Int32) (s0 : St) : Option (Int32 × St) :=
  OB (fX6_isWheel p1 s0) fun r1 s2 =>
  if r1 = 0 then
    some (1, s2)
  else
    some (0, s2)
set_option maxHeartbeats 4000000 in
set_option maxRecDepth 100000 in
theorem mX6_faultOfClearing (l : Launch) (D : va_G) (cA : Nat → ClassId) (ad adF adW tt a : Nat → Nat) (fr : va_W) (ST : gST) (hT : STE ad adF adW tt ST) (p1 : Int32) (s0 : St) (r : Int32) (s' : St) (h : fX6_faultOfClearing p1 s0 = some (r, s')) : gMet l yX6_faultOfClearing cX6_faultOfClearing 1 (some (.object "NoiseMill$Fault")) 1 D (TYS cA) ST (wc cA ad a fr s0) [.int p1] (fun A => gQe adF D (TYS cA) A (wc cA ad a fr) r s') := by
  refine g_ofW hT.1 (by decide +kernel) (Nat.le_of_ble_eq_true rfl) ?_
  intro p e s m args below meth c ls A G hP hD hl
  have G : GC p s m args meth c cX6_faultOfClearing 1 RX6 (some (.object "NoiseMill$Fault")) A D (TYS cA) ST := G
  have hx := G.1
  have hb := G.2.1
  have hS : va_S A s.heap s.heap [] := va_S.rf
  have hl : lv_has ls 1 [(0, .int p1)] := hl
  unfold fX6_faultOfClearing at h
  refine lv_iload_n hx hb dX6_faultOfClearing_0 rfl (lv_at hl 0 rfl) ?_
  obtain ⟨r1, s2, g3, h⟩ := ob_e h
  refine g_callSXi (nA := 1) (mX6_isWheel l D cA ad adF adW tt a fr ST hT p1 s0 r1 s2 g3) G hP hD hS (g_goodSX q2_88 q2_89 q1_2 q2_90) (by decide +kernel) (by decide) rfl hl.1 [] rfl (Nat.le_of_ble_eq_true rfl) dX6_faultOfClearing_1 (fun H locs hP hD hS => ?_)
  refine lv_if_eq (tgt := 13) hx hb dX6_faultOfClearing_4 (by decide) (fun c4 => ?_) (fun c4 => ?_)
  · replace h := it_t c4 h
    refine g_getF (v := 1) 1 (by decide) rfl hT G hS q2_91 dX6_faultOfClearing_13 ?_
    exact g_eret (v := 1) (by decide) G hP hD hS h dX6_faultOfClearing_16
  · replace h := it_f c4 h
    refine g_getF (v := 0) 0 (by decide) rfl hT G hS q2_96 dX6_faultOfClearing_7 ?_
    refine lv_goto (tgt := 16) hx hb dX6_faultOfClearing_10 (by decide) ?_
    exact g_eret (v := 0) (by decide) G hP hD hS h dX6_faultOfClearing_16
noncomputable def fX6_clear (k : Nat) (p1 : Int32) (s0 : St) : Option (Int32 × St) :=
  BND p1 3 <|
  LET (s0 (k + 17) p1.toNatClampNeg) fun y2 =>
  BND p1 3 <|
  LET (u2 s0 (k + 17) p1.toNatClampNeg 0) fun s4 =>
  some (y2, s4)
set_option maxHeartbeats 4000000 in
set_option maxRecDepth 100000 in
theorem mX6_clear (l : Launch) (D : va_G) (cA : Nat → ClassId) (ad adF adW tt a : Nat → Nat) (fr : va_W) (ST : gST) (hT : STE ad adF adW tt ST) (k : Nat) (hk : isM k) (p1 : Int32) (s0 : St) (r : Int32) (s' : St) (h : fX6_clear k p1 s0 = some (r, s')) : gMet l yX6_clear cX6_clear 3 (some .int) 0 D (TYS cA) ST (wc cA ad a fr s0) [.ref (a k), .int p1] (fun A => gQi D (TYS cA) A (wc cA ad a fr) r s') := by
  refine g_ofW hT.1 (by decide +kernel) (Nat.le_of_ble_eq_true rfl) ?_
  intro p e s m args below meth c ls A G hP hD hl
  have G : GC p s m args meth c cX6_clear 3 RX6 (some .int) A D (TYS cA) ST := G
  have hx := G.1
  have hb := G.2.1
  have hS : va_S A s.heap s.heap [] := va_S.rf
  have hl : lv_has ls 3 [(0, .ref (a k)), (1, .int p1)] := hl
  unfold fX6_clear at h
  refine lv_aload_n hx hb dX6_clear_0 rfl (lv_at hl 0 rfl) ?_
  refine gfX6_36 hk G hP dX6_clear_1 ?_
  refine lv_iload_n hx hb dX6_clear_4 rfl (lv_at hl 1 rfl) ?_
  obtain ⟨b1, h⟩ := bnd_e h
  refine g_ald (t := 0) (ty := .int) (Or.inl rfl) G hP (k + 17) (ltM_17 hk) (sM_17 hk) rfl b1 dX6_clear_5 ?_
  refine lv_topi (fun y2 ey2 => ?_)
  replace h := let_e ey2 h
  refine lv_istore_n (lv' := [(2, .int y2), (0, .ref (a k)), (1, .int p1)]) hx hb dX6_clear_6 rfl hl (by decide) rfl (fun ls hl => ?_)
  refine lv_aload_n hx hb dX6_clear_7 rfl (lv_at hl 1 rfl) ?_
  refine gfX6_36 hk G hP dX6_clear_8 ?_
  refine lv_iload_n hx hb dX6_clear_11 rfl (lv_at hl 2 rfl) ?_
  refine lv_iconst (v := 0) hx hb dX6_clear_12 (by decide) ?_
  obtain ⟨b3, h⟩ := bnd_e h
  refine g_ast (t := 0) (ty := .int) (Or.inl rfl) G hP hD hS (k + 17) (ltM_17 hk) (sM_17 hk) rfl b3 dX6_clear_13 (fun s4 es4 H locs hP hD hS => ?_)
  replace h := let_e es4 h
  refine lv_iload_n hx hb dX6_clear_14 rfl (lv_at hl 0 rfl) ?_
  exact g_ret G hP hD hS h rfl dX6_clear_15
noncomputable def fX6_faultOfReleasing (k : Nat) (p1 : Int32) (s0 : St) : Option (Int32 × St) :=
  OB (fX6_isWheel p1 s0) fun r1 s2 =>
  if r1 = 0 then
    some (1, s2)
  else
    OB (fX7_isHeld (k + 1) p1 s2) fun r5 s6 =>
    if r5 = 0 then
      some (3, s6)
    else
      OB (fX7_isFull (k + 1) s6) fun r9 s10 =>
      if r9 = 0 then
        some (0, s10)
      else
        some (4, s10)
set_option maxHeartbeats 4000000 in
set_option maxRecDepth 100000 in
theorem mX6_faultOfReleasing (l : Launch) (D : va_G) (cA : Nat → ClassId) (ad adF adW tt a : Nat → Nat) (fr : va_W) (ST : gST) (hT : STE ad adF adW tt ST) (k : Nat) (hk : isM k) (p1 : Int32) (s0 : St) (r : Int32) (s' : St) (h : fX6_faultOfReleasing k p1 s0 = some (r, s')) : gMet l yX6_faultOfReleasing cX6_faultOfReleasing 2 (some (.object "NoiseMill$Fault")) 1 D (TYS cA) ST (wc cA ad a fr s0) [.ref (a k), .int p1] (fun A => gQe adF D (TYS cA) A (wc cA ad a fr) r s') := by
  refine g_ofW hT.1 (by decide +kernel) (Nat.le_of_ble_eq_true rfl) ?_
  intro p e s m args below meth c ls A G hP hD hl
  have G : GC p s m args meth c cX6_faultOfReleasing 2 RX6 (some (.object "NoiseMill$Fault")) A D (TYS cA) ST := G
  have hx := G.1
  have hb := G.2.1
  have hS : va_S A s.heap s.heap [] := va_S.rf
  have hl : lv_has ls 2 [(0, .ref (a k)), (1, .int p1)] := hl
  unfold fX6_faultOfReleasing at h
  refine lv_iload_n hx hb dX6_faultOfReleasing_0 rfl (lv_at hl 1 rfl) ?_
  obtain ⟨r1, s2, g3, h⟩ := ob_e h
  refine g_callSXi (nA := 1) (mX6_isWheel l D cA ad adF adW tt a fr ST hT p1 s0 r1 s2 g3) G hP hD hS (g_goodSX q2_88 q2_89 q1_2 q2_90) (by decide +kernel) (by decide) rfl hl.1 [] rfl (Nat.le_of_ble_eq_true rfl) dX6_faultOfReleasing_1 (fun H locs hP hD hS => ?_)
  refine lv_if_ne (tgt := 11) hx hb dX6_faultOfReleasing_4 (by decide) (fun c4 => ?_) (fun c4 => ?_)
  · replace h := it_f c4 h
    refine lv_aload_n hx hb dX6_faultOfReleasing_11 rfl (lv_at hl 0 rfl) ?_
    refine gfX6_12 hk G hP dX6_faultOfReleasing_12 ?_
    refine lv_iload_n hx hb dX6_faultOfReleasing_15 rfl (lv_at hl 1 rfl) ?_
    obtain ⟨r5, s6, g7, h⟩ := ob_e h
    refine g_callVi (nA := 1) (mX7_isHeld l D cA ad adF adW tt a fr ST hT (k + 1) (mN hk) p1 s2 r5 s6 g7) G hP hD hS (g_good q3_75 q3_76 q3_77 q1_3 q3_78) (by decide +kernel) (by decide) (ltN_0 (mN hk)) (sN_0 (mN hk)) rfl rfl hl.1 [] rfl (Nat.le_of_ble_eq_true rfl) dX6_faultOfReleasing_16 (fun H locs hP hD hS => ?_)
    refine lv_if_ne (tgt := 26) hx hb dX6_faultOfReleasing_19 (by decide) (fun c8 => ?_) (fun c8 => ?_)
    · replace h := it_f c8 h
      refine lv_aload_n hx hb dX6_faultOfReleasing_26 rfl (lv_at hl 0 rfl) ?_
      refine gfX6_12 hk G hP dX6_faultOfReleasing_27 ?_
      obtain ⟨r9, s10, g11, h⟩ := ob_e h
      refine g_callVi (nA := 0) (mX7_isFull l D cA ad adF adW tt a fr ST hT (k + 1) (mN hk) s6 r9 s10 g11) G hP hD hS (g_good q3_81 q3_82 q3_83 q1_3 q3_84) (by decide +kernel) (by decide) (ltN_0 (mN hk)) (sN_0 (mN hk)) rfl rfl hl.1 [] rfl (Nat.le_of_ble_eq_true rfl) dX6_faultOfReleasing_30 (fun H locs hP hD hS => ?_)
      refine lv_if_eq (tgt := 42) hx hb dX6_faultOfReleasing_33 (by decide) (fun c12 => ?_) (fun c12 => ?_)
      · replace h := it_t c12 h
        refine g_getF (v := 0) 0 (by decide) rfl hT G hS q2_96 dX6_faultOfReleasing_42 ?_
        exact g_eret (v := 0) (by decide) G hP hD hS h dX6_faultOfReleasing_45
      · replace h := it_f c12 h
        refine g_getF (v := 4) 4 (by decide) rfl hT G hS q3_85 dX6_faultOfReleasing_36 ?_
        refine lv_goto (tgt := 45) hx hb dX6_faultOfReleasing_39 (by decide) ?_
        exact g_eret (v := 4) (by decide) G hP hD hS h dX6_faultOfReleasing_45
    · replace h := it_t c8 h
      refine g_getF (v := 3) 3 (by decide) rfl hT G hS q3_79 dX6_faultOfReleasing_22 ?_
      exact g_eret (v := 3) (by decide) G hP hD hS h dX6_faultOfReleasing_25
  · replace h := it_t c4 h
    refine g_getF (v := 1) 1 (by decide) rfl hT G hS q2_91 dX6_faultOfReleasing_7 ?_
    exact g_eret (v := 1) (by decide) G hP hD hS h dX6_faultOfReleasing_10
noncomputable def fX6_release (k : Nat) (p1 : Int32) (s0 : St) : Option (Int32 × St) :=
  OB (fX7_putBack (k + 1) p1 s0) fun r1 s2 =>
  some (r1, s2)
set_option maxHeartbeats 4000000 in
set_option maxRecDepth 100000 in
theorem mX6_release (l : Launch) (D : va_G) (cA : Nat → ClassId) (ad adF adW tt a : Nat → Nat) (fr : va_W) (ST : gST) (hT : STE ad adF adW tt ST) (k : Nat) (hk : isM k) (p1 : Int32) (s0 : St) (r : Int32) (s' : St) (h : fX6_release k p1 s0 = some (r, s')) : gMet l yX6_release cX6_release 2 (some .int) 2 D (TYS cA) ST (wc cA ad a fr s0) [.ref (a k), .int p1] (fun A => gQi D (TYS cA) A (wc cA ad a fr) r s') := by
  refine g_ofW hT.1 (by decide +kernel) (Nat.le_of_ble_eq_true rfl) ?_
  intro p e s m args below meth c ls A G hP hD hl
  have G : GC p s m args meth c cX6_release 2 RX6 (some .int) A D (TYS cA) ST := G
  have hx := G.1
  have hb := G.2.1
  have hS : va_S A s.heap s.heap [] := va_S.rf
  have hl : lv_has ls 2 [(0, .ref (a k)), (1, .int p1)] := hl
  unfold fX6_release at h
  refine lv_aload_n hx hb dX6_release_0 rfl (lv_at hl 0 rfl) ?_
  refine gfX6_12 hk G hP dX6_release_1 ?_
  refine lv_iload_n hx hb dX6_release_4 rfl (lv_at hl 1 rfl) ?_
  obtain ⟨r1, s2, g3, h⟩ := ob_e h
  refine g_callVi (nA := 1) (mX7_putBack l D cA ad adF adW tt a fr ST hT (k + 1) (mN hk) p1 s0 r1 s2 g3) G hP hD hS (g_good q3_91 q3_92 q3_93 q1_3 q3_94) (by decide +kernel) (by decide) (ltN_0 (mN hk)) (sN_0 (mN hk)) rfl rfl hl.1 [] rfl (Nat.le_of_ble_eq_true rfl) dX6_release_5 (fun H locs hP hD hS => ?_)
  exact g_ret G hP hD hS h rfl dX6_release_8
noncomputable def fX6_faultOfAdvancing (p1 : Int32) (s0 : St) : Option (Int32 × St) :=
  OB (fX6_isWithin p1 1 40 s0) fun r1 s2 =>
  if r1 = 0 then
    some (2, s2)
  else
    some (0, s2)
set_option maxHeartbeats 4000000 in
set_option maxRecDepth 100000 in
theorem mX6_faultOfAdvancing (l : Launch) (D : va_G) (cA : Nat → ClassId) (ad adF adW tt a : Nat → Nat) (fr : va_W) (ST : gST) (hT : STE ad adF adW tt ST) (p1 : Int32) (s0 : St) (r : Int32) (s' : St) (h : fX6_faultOfAdvancing p1 s0 = some (r, s')) : gMet l yX6_faultOfAdvancing cX6_faultOfAdvancing 1 (some (.object "NoiseMill$Fault")) 1 D (TYS cA) ST (wc cA ad a fr s0) [.int p1] (fun A => gQe adF D (TYS cA) A (wc cA ad a fr) r s') := by
  refine g_ofW hT.1 (by decide +kernel) (Nat.le_of_ble_eq_true rfl) ?_
  intro p e s m args below meth c ls A G hP hD hl
  have G : GC p s m args meth c cX6_faultOfAdvancing 1 RX6 (some (.object "NoiseMill$Fault")) A D (TYS cA) ST := G
  have hx := G.1
  have hb := G.2.1
  have hS : va_S A s.heap s.heap [] := va_S.rf
  have hl : lv_has ls 1 [(0, .int p1)] := hl
  unfold fX6_faultOfAdvancing at h
  refine lv_iload_n hx hb dX6_faultOfAdvancing_0 rfl (lv_at hl 0 rfl) ?_
  refine lv_iconst (v := 1) hx hb dX6_faultOfAdvancing_1 (by decide) ?_
  refine lv_bipush (v := 40) hx hb dX6_faultOfAdvancing_2 (by decide) ?_
  obtain ⟨r1, s2, g3, h⟩ := ob_e h
  refine g_callSXi (nA := 3) (mX6_isWithin l D cA ad adF adW tt a fr ST hT p1 1 40 s0 r1 s2 g3) G hP hD hS (g_goodSX q2_93 q2_94 q1_2 q2_95) (by decide +kernel) (by decide) rfl hl.1 [] rfl (Nat.le_of_ble_eq_true rfl) dX6_faultOfAdvancing_4 (fun H locs hP hD hS => ?_)
  refine lv_if_eq (tgt := 16) hx hb dX6_faultOfAdvancing_7 (by decide) (fun c4 => ?_) (fun c4 => ?_)
  · replace h := it_t c4 h
    refine g_getF (v := 2) 2 (by decide) rfl hT G hS q2_98 dX6_faultOfAdvancing_16 ?_
    exact g_eret (v := 2) (by decide) G hP hD hS h dX6_faultOfAdvancing_19
  · replace h := it_f c4 h
    refine g_getF (v := 0) 0 (by decide) rfl hT G hS q2_96 dX6_faultOfAdvancing_10 ?_
    refine lv_goto (tgt := 19) hx hb dX6_faultOfAdvancing_13 (by decide) ?_
    exact g_eret (v := 0) (by decide) G hP hD hS h dX6_faultOfAdvancing_19
noncomputable def fX6_isStuck (k : Nat) (p1 : Int32) (s0 : St) : Option (Int32 × St) :=
  BND p1 3 <|
  if (s0 (k + 17) p1.toNatClampNeg) < 12 then
    some (0, s0)
  else
    some (1, s0)
set_option maxHeartbeats 4000000 in
set_option maxRecDepth 100000 in
theorem mX6_isStuck (l : Launch) (D : va_G) (cA : Nat → ClassId) (ad adF adW tt a : Nat → Nat) (fr : va_W) (ST : gST) (hT : STE ad adF adW tt ST) (k : Nat) (hk : isM k) (p1 : Int32) (s0 : St) (r : Int32) (s' : St) (h : fX6_isStuck k p1 s0 = some (r, s')) : gMet l yX6_isStuck cX6_isStuck 2 (some .boolean) 0 D (TYS cA) ST (wc cA ad a fr s0) [.ref (a k), .int p1] (fun A => gQi D (TYS cA) A (wc cA ad a fr) r s') := by
  refine g_ofW hT.1 (by decide +kernel) (Nat.le_of_ble_eq_true rfl) ?_
  intro p e s m args below meth c ls A G hP hD hl
  have G : GC p s m args meth c cX6_isStuck 2 RX6 (some .boolean) A D (TYS cA) ST := G
  have hx := G.1
  have hb := G.2.1
  have hS : va_S A s.heap s.heap [] := va_S.rf
  have hl : lv_has ls 2 [(0, .ref (a k)), (1, .int p1)] := hl
  unfold fX6_isStuck at h
  refine lv_aload_n hx hb dX6_isStuck_0 rfl (lv_at hl 0 rfl) ?_
  refine gfX6_36 hk G hP dX6_isStuck_1 ?_
  refine lv_iload_n hx hb dX6_isStuck_4 rfl (lv_at hl 1 rfl) ?_
  obtain ⟨b1, h⟩ := bnd_e h
  refine g_ald (t := 0) (ty := .int) (Or.inl rfl) G hP (k + 17) (ltM_17 hk) (sM_17 hk) rfl b1 dX6_isStuck_5 ?_
  refine lv_bipush (v := 12) hx hb dX6_isStuck_6 (by decide) ?_
  refine lv_icmp_lt (tgt := 15) hx hb dX6_isStuck_8 (by decide) (fun c2 => ?_) (fun c2 => ?_)
  · replace h := it_t c2 h
    refine lv_iconst (v := 0) hx hb dX6_isStuck_15 (by decide) ?_
    exact g_ret G hP hD hS h rfl dX6_isStuck_16
  · replace h := it_f c2 h
    refine lv_iconst (v := 1) hx hb dX6_isStuck_11 (by decide) ?_
    refine lv_goto (tgt := 16) hx hb dX6_isStuck_12 (by decide) ?_
    exact g_ret G hP hD hS h rfl dX6_isStuck_16
noncomputable def fX6_grind (k : Nat) (p1 : Int32) (s0 : St) : Option (Int32 × St) :=
  OB (fX7_slotOn p1 s0) fun r1 s2 =>
  BND r1 15 <|
  LET (s2 ((k + 1) + 2) r1.toNatClampNeg) fun y5 =>
  BND p1 3 <|
  BND r1 15 <|
  OB (fJ9_min_7cf53 (2 * (s2 (k + 16) p1.toNatClampNeg)) (s2 ((k + 1) + 4) r1.toNatClampNeg) s2) fun r8 s9 =>
  BND r1 15 <|
  BND r1 15 <|
  LET (u2 s9 ((k + 1) + 4) r1.toNatClampNeg ((s9 ((k + 1) + 4) r1.toNatClampNeg) - r8)) fun s13 =>
  BND p1 3 <|
  BND p1 3 <|
  BND p1 3 <|
  LET (u2 s13 (k + 17) p1.toNatClampNeg ((s13 (k + 17) p1.toNatClampNeg) + (s13 (k + 16) p1.toNatClampNeg))) fun s17 =>
  BND y5 8 <|
  OB (fX9_receive (k + 7) y5 (s17 (k + 18) y5.toNatClampNeg) r8 s17) fun r19 s20 =>
  BND r1 15 <|
  if (s20 ((k + 1) + 4) r1.toNatClampNeg) = 0 then
    BND r1 15 <|
    OB (fX5_remember (k + 12) (s20 ((k + 1) + 1) r1.toNatClampNeg) p1 (s20 k 6) s20) fun r25 s26 =>
    OB (fX7_leave (k + 1) p1 s26) fun r28 s29 =>
    some (r8, s29)
  else
    some (r8, s20)
set_option maxHeartbeats 4000000 in
set_option maxRecDepth 100000 in
theorem mX6_grind (l : Launch) (D : va_G) (cA : Nat → ClassId) (ad adF adW tt a : Nat → Nat) (fr : va_W) (ST : gST) (hT : STE ad adF adW tt ST) (k : Nat) (hk : isM k) (p1 : Int32) (s0 : St) (r : Int32) (s' : St) (h : fX6_grind k p1 s0 = some (r, s')) : gMet l yX6_grind cX6_grind 5 (some .int) 2 D (TYS cA) ST (wc cA ad a fr s0) [.ref (a k), .int p1] (fun A => gQi D (TYS cA) A (wc cA ad a fr) r s') := by
  refine g_ofW hT.1 (by decide +kernel) (Nat.le_of_ble_eq_true rfl) ?_
  intro p e s m args below meth c ls A G hP hD hl
  have G : GC p s m args meth c cX6_grind 5 RX6 (some .int) A D (TYS cA) ST := G
  have hx := G.1
  have hb := G.2.1
  have hS : va_S A s.heap s.heap [] := va_S.rf
  have hl : lv_has ls 5 [(0, .ref (a k)), (1, .int p1)] := hl
  unfold fX6_grind at h
  refine lv_iload_n hx hb dX6_grind_0 rfl (lv_at hl 1 rfl) ?_
  obtain ⟨r1, s2, g3, h⟩ := ob_e h
  refine g_callSXi (nA := 1) (mX7_slotOn l D cA ad adF adW tt a fr ST hT p1 s0 r1 s2 g3) G hP hD hS (g_goodSX q3_138 q3_97 q1_3 q3_98) (by decide +kernel) (by decide) rfl hl.1 [] rfl (Nat.le_of_ble_eq_true rfl) dX6_grind_1 (fun H locs hP hD hS => ?_)
  refine lv_istore_n (lv' := [(2, .int r1), (0, .ref (a k)), (1, .int p1)]) hx hb dX6_grind_4 rfl hl (by decide) rfl (fun ls hl => ?_)
  refine lv_aload_n hx hb dX6_grind_5 rfl (lv_at hl 1 rfl) ?_
  refine gfX6_12 hk G hP dX6_grind_6 ?_
  refine gfX6_144 (mN hk) G hP dX6_grind_9 ?_
  refine lv_iload_n hx hb dX6_grind_12 rfl (lv_at hl 0 rfl) ?_
  obtain ⟨b4, h⟩ := bnd_e h
  refine g_ald (t := 0) (ty := .int) (Or.inl rfl) G hP ((k + 1) + 2) (ltN_2 (mN hk)) (sN_2 (mN hk)) rfl b4 dX6_grind_13 ?_
  refine lv_topi (fun y5 ey5 => ?_)
  replace h := let_e ey5 h
  refine lv_istore_n (lv' := [(3, .int y5), (2, .int r1), (0, .ref (a k)), (1, .int p1)]) hx hb dX6_grind_14 rfl hl (by decide) rfl (fun ls hl => ?_)
  refine lv_iconst (v := 2) hx hb dX6_grind_15 (by decide) ?_
  refine lv_aload_n hx hb dX6_grind_16 rfl (lv_at hl 2 rfl) ?_
  refine gfX6_32 hk G hP dX6_grind_17 ?_
  refine lv_iload_n hx hb dX6_grind_20 rfl (lv_at hl 3 rfl) ?_
  obtain ⟨b6, h⟩ := bnd_e h
  refine g_ald (t := 0) (ty := .int) (Or.inl rfl) G hP (k + 16) (ltM_16 hk) (sM_16 hk) rfl b6 dX6_grind_21 ?_
  refine lv_imul hx hb dX6_grind_22 ?_
  refine lv_aload_n hx hb dX6_grind_23 rfl (lv_at hl 2 rfl) ?_
  refine gfX6_12 hk G hP dX6_grind_24 ?_
  refine gfX6_100 (mN hk) G hP dX6_grind_27 ?_
  refine lv_iload_n hx hb dX6_grind_30 rfl (lv_at hl 1 rfl) ?_
  obtain ⟨b7, h⟩ := bnd_e h
  refine g_ald (t := 0) (ty := .int) (Or.inl rfl) G hP ((k + 1) + 4) (ltN_4 (mN hk)) (sN_4 (mN hk)) rfl b7 dX6_grind_31 ?_
  obtain ⟨r8, s9, g10, h⟩ := ob_e h
  refine g_callSXi (nA := 2) (mJ9_min_7cf53 l D cA ad adF adW tt a fr ST hT (2 * (s2 (k + 16) p1.toNatClampNeg)) (s2 ((k + 1) + 4) r1.toNatClampNeg) s2 r8 s9 g10) G hP hD hS (g_goodSX q3_139 q3_36 q1_28 q3_37) (by decide +kernel) (by decide) rfl hl.1 [] rfl (Nat.le_of_ble_eq_true rfl) dX6_grind_32 (fun H locs hP hD hS => ?_)
  refine lv_istore (lv' := [(4, .int r8), (3, .int y5), (2, .int r1), (0, .ref (a k)), (1, .int p1)]) hx hb dX6_grind_35 hl (by decide) rfl (fun ls hl => ?_)
  refine lv_aload_n hx hb dX6_grind_37 rfl (lv_at hl 3 rfl) ?_
  refine gfX6_12 hk G hP dX6_grind_38 ?_
  refine gfX6_100 (mN hk) G hP dX6_grind_41 ?_
  refine lv_iload_n hx hb dX6_grind_44 rfl (lv_at hl 2 rfl) ?_
  refine lv_dup2_11 hx hb dX6_grind_45 rfl rfl ?_
  obtain ⟨b11, h⟩ := bnd_e h
  refine g_ald (t := 0) (ty := .int) (Or.inl rfl) G hP ((k + 1) + 4) (ltN_4 (mN hk)) (sN_4 (mN hk)) rfl b11 dX6_grind_46 ?_
  refine lv_iload hx hb dX6_grind_47 (lv_at hl 0 rfl) ?_
  refine lv_isub hx hb dX6_grind_49 ?_
  obtain ⟨b12, h⟩ := bnd_e h
  refine g_ast (t := 0) (ty := .int) (Or.inl rfl) G hP hD hS ((k + 1) + 4) (ltN_4 (mN hk)) (sN_4 (mN hk)) rfl b12 dX6_grind_50 (fun s13 es13 H locs hP hD hS => ?_)
  replace h := let_e es13 h
  refine lv_aload_n hx hb dX6_grind_51 rfl (lv_at hl 3 rfl) ?_
  refine gfX6_36 hk G hP dX6_grind_52 ?_
  refine lv_iload_n hx hb dX6_grind_55 rfl (lv_at hl 4 rfl) ?_
  refine lv_dup2_11 hx hb dX6_grind_56 rfl rfl ?_
  obtain ⟨b14, h⟩ := bnd_e h
  refine g_ald (t := 0) (ty := .int) (Or.inl rfl) G hP (k + 17) (ltM_17 hk) (sM_17 hk) rfl b14 dX6_grind_57 ?_
  refine lv_aload_n hx hb dX6_grind_58 rfl (lv_at hl 3 rfl) ?_
  refine gfX6_32 hk G hP dX6_grind_59 ?_
  refine lv_iload_n hx hb dX6_grind_62 rfl (lv_at hl 4 rfl) ?_
  obtain ⟨b15, h⟩ := bnd_e h
  refine g_ald (t := 0) (ty := .int) (Or.inl rfl) G hP (k + 16) (ltM_16 hk) (sM_16 hk) rfl b15 dX6_grind_63 ?_
  refine lv_iadd hx hb dX6_grind_64 ?_
  obtain ⟨b16, h⟩ := bnd_e h
  refine g_ast (t := 0) (ty := .int) (Or.inl rfl) G hP hD hS (k + 17) (ltM_17 hk) (sM_17 hk) rfl b16 dX6_grind_65 (fun s17 es17 H locs hP hD hS => ?_)
  replace h := let_e es17 h
  refine lv_aload_n hx hb dX6_grind_66 rfl (lv_at hl 3 rfl) ?_
  refine gfX6_21 hk G hP dX6_grind_67 ?_
  refine lv_iload_n hx hb dX6_grind_70 rfl (lv_at hl 1 rfl) ?_
  refine lv_aload_n hx hb dX6_grind_71 rfl (lv_at hl 3 rfl) ?_
  refine gfX6_39 hk G hP dX6_grind_72 ?_
  refine lv_iload_n hx hb dX6_grind_75 rfl (lv_at hl 1 rfl) ?_
  obtain ⟨b18, h⟩ := bnd_e h
  refine g_ald (t := 0) (ty := .int) (Or.inl rfl) G hP (k + 18) (ltM_18 hk) (sM_18 hk) rfl b18 dX6_grind_76 ?_
  refine lv_iload hx hb dX6_grind_77 (lv_at hl 0 rfl) ?_
  obtain ⟨r19, s20, g21, h⟩ := ob_e h
  refine g_callVv (nA := 3) (mX9_receive l D cA ad adF adW tt a fr ST hT (k + 7) (mS hk) y5 (s17 (k + 18) y5.toNatClampNeg) r8 s17 r19 s20 g21) G hP hD hS (g_good q3_140 q3_141 q3_142 q1_4 q3_143) (by decide +kernel) (by decide) (ltS_0 (mS hk)) (sS_0 (mS hk)) rfl rfl hl.1 [] rfl (Nat.le_of_ble_eq_true rfl) dX6_grind_79 (fun H locs hP hD hS => ?_)
  refine lv_aload_n hx hb dX6_grind_82 rfl (lv_at hl 3 rfl) ?_
  refine gfX6_12 hk G hP dX6_grind_83 ?_
  refine gfX6_100 (mN hk) G hP dX6_grind_86 ?_
  refine lv_iload_n hx hb dX6_grind_89 rfl (lv_at hl 2 rfl) ?_
  obtain ⟨b22, h⟩ := bnd_e h
  refine g_ald (t := 0) (ty := .int) (Or.inl rfl) G hP ((k + 1) + 4) (ltN_4 (mN hk)) (sN_4 (mN hk)) rfl b22 dX6_grind_90 ?_
  refine lv_if_ne (tgt := 123) hx hb dX6_grind_91 (by decide) (fun c23 => ?_) (fun c23 => ?_)
  · replace h := it_f c23 h
    refine lv_iload hx hb dX6_grind_123 (lv_at hl 0 rfl) ?_
    exact g_ret G hP hD hS h rfl dX6_grind_125
  · replace h := it_t c23 h
    refine lv_aload_n hx hb dX6_grind_94 rfl (lv_at hl 3 rfl) ?_
    refine gfX6_28 hk G hP dX6_grind_95 ?_
    refine lv_aload_n hx hb dX6_grind_98 rfl (lv_at hl 3 rfl) ?_
    refine gfX6_12 hk G hP dX6_grind_99 ?_
    refine gfX6_157 (mN hk) G hP dX6_grind_102 ?_
    refine lv_iload_n hx hb dX6_grind_105 rfl (lv_at hl 2 rfl) ?_
    obtain ⟨b24, h⟩ := bnd_e h
    refine g_ald (t := 0) (ty := .int) (Or.inl rfl) G hP ((k + 1) + 1) (ltN_1 (mN hk)) (sN_1 (mN hk)) rfl b24 dX6_grind_106 ?_
    refine lv_iload_n hx hb dX6_grind_107 rfl (lv_at hl 4 rfl) ?_
    refine lv_aload_n hx hb dX6_grind_108 rfl (lv_at hl 3 rfl) ?_
    refine gfX6_42 hk G hP dX6_grind_109 ?_
    obtain ⟨r25, s26, g27, h⟩ := ob_e h
    refine g_callVv (nA := 3) (mX5_remember l D cA ad adF adW tt a fr ST hT (k + 12) (mL hk) (s20 ((k + 1) + 1) r1.toNatClampNeg) p1 (s20 k 6) s20 r25 s26 g27) G hP hD hS (g_good q3_148 q3_149 q3_150 q1_5 q3_151) (by decide +kernel) (by decide) (ltL_0 (mL hk)) (sL_0 (mL hk)) rfl rfl hl.1 [] rfl (Nat.le_of_ble_eq_true rfl) dX6_grind_112 (fun H locs hP hD hS => ?_)
    refine lv_aload_n hx hb dX6_grind_115 rfl (lv_at hl 3 rfl) ?_
    refine gfX6_12 hk G hP dX6_grind_116 ?_
    refine lv_iload_n hx hb dX6_grind_119 rfl (lv_at hl 4 rfl) ?_
    obtain ⟨r28, s29, g30, h⟩ := ob_e h
    refine g_callVv (nA := 1) (mX7_leave l D cA ad adF adW tt a fr ST hT (k + 1) (mN hk) p1 s26 r28 s29 g30) G hP hD hS (g_good q3_153 q3_154 q3_155 q1_3 q3_156) (by decide +kernel) (by decide) (ltN_0 (mN hk)) (sN_0 (mN hk)) rfl rfl hl.1 [] rfl (Nat.le_of_ble_eq_true rfl) dX6_grind_120 (fun H locs hP hD hS => ?_)
    refine lv_iload hx hb dX6_grind_123 (lv_at hl 0 rfl) ?_
    exact g_ret G hP hD hS h rfl dX6_grind_125
noncomputable def fX6_pass_B82 (nF : Nat) (k : Nat) (K4 : Int32 → Int32 → Int32 → St → Option (Int32 × St)) (K22 : Int32 → Int32 → Int32 → Int32 → St → Option (Int32 × St)) (x1 : Int32) (x2 : Int32) (x3 : Int32) (x4 : Int32) (s1 : St) : Option (Int32 × St) :=
  LET (x4 + 1) fun y1 =>
  K22 x1 x2 x3 y1 s1
noncomputable def fX6_pass_B61 (nF : Nat) (k : Nat) (K4 : Int32 → Int32 → Int32 → St → Option (Int32 × St)) (K22 : Int32 → Int32 → Int32 → Int32 → St → Option (Int32 × St)) (x1 : Int32) (x2 : Int32) (x3 : Int32) (x4 : Int32) (s1 : St) : Option (Int32 × St) :=
  OB (fX7_isHeld (k + 1) x4 s1) fun r2 s3 =>
  if r2 = 0 then
    fX6_pass_B82 nF k K4 K22 x1 x2 x3 x4 s3
  else
    OB (fX6_grind k x4 s3) fun r6 s7 =>
    LET (x2 + r6) fun y9 =>
    fX6_pass_B82 nF k K4 K22 x1 y9 x3 x4 s7
noncomputable def fX6_pass_L22b (nF : Nat) (k : Nat) (K4 : Int32 → Int32 → Int32 → St → Option (Int32 × St)) (K22 : Int32 → Int32 → Int32 → Int32 → St → Option (Int32 × St)) (x1 : Int32) (x2 : Int32) (x3 : Int32) (x4 : Int32) (s1 : St) : Option (Int32 × St) :=
  if 3 ≤ x4 then
    LET (x3 + 1) fun y11 =>
    K4 x1 x2 y11 s1
  else
    OB (fX6_isStuck k x4 s1) fun r12 s13 =>
    if r12 = 0 then
      OB (fX7_isHeld (k + 1) x4 s13) fun r16 s17 =>
      if r16 = 0 then
        OB (fX7_takeFirst nF (k + 1) x4 s17) fun r20 s21 =>
        fX6_pass_B61 nF k K4 K22 x1 x2 x3 x4 s21
      else
        fX6_pass_B61 nF k K4 K22 x1 x2 x3 x4 s17
    else
      fX6_pass_B82 nF k K4 K22 x1 x2 x3 x4 s13
noncomputable def fX6_pass_L22 (nF : Nat) (k : Nat) (K4 : Int32 → Int32 → Int32 → St → Option (Int32 × St)) : Nat → Int32 → Int32 → Int32 → Int32 → St → Option (Int32 × St) := fun k_ => Nat.rec (fun _ _ _ _ _ => none) (fun _ K => fX6_pass_L22b nF k K4 K) k_
theorem fX6_pass_L22_s (nF : Nat) (k : Nat) (K4 : Int32 → Int32 → Int32 → St → Option (Int32 × St)) (k_ : Nat) : fX6_pass_L22 nF k K4 (k_ + 1) = fX6_pass_L22b nF k K4 (fX6_pass_L22 nF k K4 k_) := rfl
noncomputable def fX6_pass_L4b (nF : Nat) (k : Nat) (K4 : Int32 → Int32 → Int32 → St → Option (Int32 × St)) (x1 : Int32) (x2 : Int32) (x3 : Int32) (s1 : St) : Option (Int32 × St) :=
  if x1 ≤ x3 then
    some (x2, s1)
  else
    LET (u2 s1 k 6 ((s1 k 6) + 1)) fun s24 =>
    fX6_pass_L22 nF k K4 nF x1 x2 x3 0 s24
noncomputable def fX6_pass_L4 (nF : Nat) (k : Nat) : Nat → Int32 → Int32 → Int32 → St → Option (Int32 × St) := fun k_ => Nat.rec (fun _ _ _ _ => none) (fun _ K => fX6_pass_L4b nF k K) k_
theorem fX6_pass_L4_s (nF : Nat) (k : Nat) (k_ : Nat) : fX6_pass_L4 nF k (k_ + 1) = fX6_pass_L4b nF k (fX6_pass_L4 nF k k_) := rfl
noncomputable def fX6_pass (nF : Nat) (k : Nat) (p1 : Int32) (s0 : St) : Option (Int32 × St) :=
  fX6_pass_L4 nF k nF p1 0 0 s0
set_option maxHeartbeats 4000000 in
set_option maxRecDepth 100000 in
theorem mX6_pass (l : Launch) (D : va_G) (cA : Nat → ClassId) (ad adF adW tt a : Nat → Nat) (fr : va_W) (ST : gST) (hT : STE ad adF adW tt ST) (nF : Nat) (k : Nat) (hk : isM k) (p1 : Int32) (s0 : St) (r : Int32) (s' : St) (h : fX6_pass nF k p1 s0 = some (r, s')) : gMet l yX6_pass cX6_pass 5 (some .int) 3 D (TYS cA) ST (wc cA ad a fr s0) [.ref (a k), .int p1] (fun A => gQi D (TYS cA) A (wc cA ad a fr) r s') := by
  refine g_ofW hT.1 (by decide +kernel) (Nat.le_of_ble_eq_true rfl) ?_
  intro p e s m args below meth c ls A G hP hD hl
  have G : GC p s m args meth c cX6_pass 5 RX6 (some .int) A D (TYS cA) ST := G
  have hx := G.1
  have hb := G.2.1
  have hS : va_S A s.heap s.heap [] := va_S.rf
  have hl : lv_has ls 5 [(0, .ref (a k)), (1, .int p1)] := hl
  have hB82 : ∀ (K4 : Int32 → Int32 → Int32 → St → Option (Int32 × St)), (∀ (x1 : Int32) (x2 : Int32) (x3 : Int32) (s1 : St), K4 x1 x2 x3 s1 = some (r, s') → ∀ (H : Heap) (locs : List Loc) (ls : Array Slot), va_P D vwCl (wc cA ad a fr s1) H → va_D A (wc cA ad a fr s1) → va_S A s.heap H locs → lv_has ls 5 [(0, .ref (a k)), (1, .int x1), (2, .int x2), (3, .int x3)] → W p l e (RM 3) s m args below meth c H locs 0 0 (MQ below (gQi D (TYS cA) A (wc cA ad a fr) r s') args s 0 0 A) (F0 m 4 ls [])) → ∀ (K22 : Int32 → Int32 → Int32 → Int32 → St → Option (Int32 × St)), (∀ (x1 : Int32) (x2 : Int32) (x3 : Int32) (x4 : Int32) (s1 : St), K22 x1 x2 x3 x4 s1 = some (r, s') → ∀ (H : Heap) (locs : List Loc) (ls : Array Slot), va_P D vwCl (wc cA ad a fr s1) H → va_D A (wc cA ad a fr s1) → va_S A s.heap H locs → lv_has ls 5 [(0, .ref (a k)), (1, .int x1), (2, .int x2), (3, .int x3), (4, .int x4)] → W p l e (RM 3) s m args below meth c H locs 0 0 (MQ below (gQi D (TYS cA) A (wc cA ad a fr) r s') args s 0 0 A) (F0 m 22 ls [])) → ∀ (x1 : Int32) (x2 : Int32) (x3 : Int32) (x4 : Int32) (s1 : St), fX6_pass_B82 nF k K4 K22 x1 x2 x3 x4 s1 = some (r, s') → ∀ (H : Heap) (locs : List Loc) (ls : Array Slot), va_P D vwCl (wc cA ad a fr s1) H → va_D A (wc cA ad a fr s1) → va_S A s.heap H locs → lv_has ls 5 [(0, .ref (a k)), (1, .int x1), (2, .int x2), (3, .int x3), (4, .int x4)] → W p l e (RM 3) s m args below meth c H locs 0 0 (MQ below (gQi D (TYS cA) A (wc cA ad a fr) r s') args s 0 0 A) (F0 m 82 ls []) := by
    intro K4 hK4 K22 hK22 x1 x2 x3 x4 s1 h H locs ls hP hD hS hl
    unfold fX6_pass_B82 at h
    obtain ⟨y1, ey1⟩ : ∃ y : Int32, y = x4 + 1 := ⟨_, rfl⟩
    replace h := let_e ey1 h
    refine lv_iinc (v := y1) (lv' := [(4, .int y1), (0, .ref (a k)), (1, .int x1), (2, .int x2), (3, .int x3)]) hx hb dX6_pass_82 hl (k := 4) rfl (by rw [ey1]; rfl) (by decide) rfl (fun ls hl => ?_)
    refine lv_goto (tgt := 22) hx hb dX6_pass_85 (by decide) ?_
    exact hK22 x1 x2 x3 y1 s1 h _ _ ls hP hD hS (lv_sub hl [1, 2, 3, 4, 0] rfl)
  have hB61 : ∀ (K4 : Int32 → Int32 → Int32 → St → Option (Int32 × St)), (∀ (x1 : Int32) (x2 : Int32) (x3 : Int32) (s1 : St), K4 x1 x2 x3 s1 = some (r, s') → ∀ (H : Heap) (locs : List Loc) (ls : Array Slot), va_P D vwCl (wc cA ad a fr s1) H → va_D A (wc cA ad a fr s1) → va_S A s.heap H locs → lv_has ls 5 [(0, .ref (a k)), (1, .int x1), (2, .int x2), (3, .int x3)] → W p l e (RM 3) s m args below meth c H locs 0 0 (MQ below (gQi D (TYS cA) A (wc cA ad a fr) r s') args s 0 0 A) (F0 m 4 ls [])) → ∀ (K22 : Int32 → Int32 → Int32 → Int32 → St → Option (Int32 × St)), (∀ (x1 : Int32) (x2 : Int32) (x3 : Int32) (x4 : Int32) (s1 : St), K22 x1 x2 x3 x4 s1 = some (r, s') → ∀ (H : Heap) (locs : List Loc) (ls : Array Slot), va_P D vwCl (wc cA ad a fr s1) H → va_D A (wc cA ad a fr s1) → va_S A s.heap H locs → lv_has ls 5 [(0, .ref (a k)), (1, .int x1), (2, .int x2), (3, .int x3), (4, .int x4)] → W p l e (RM 3) s m args below meth c H locs 0 0 (MQ below (gQi D (TYS cA) A (wc cA ad a fr) r s') args s 0 0 A) (F0 m 22 ls [])) → ∀ (x1 : Int32) (x2 : Int32) (x3 : Int32) (x4 : Int32) (s1 : St), fX6_pass_B61 nF k K4 K22 x1 x2 x3 x4 s1 = some (r, s') → ∀ (H : Heap) (locs : List Loc) (ls : Array Slot), va_P D vwCl (wc cA ad a fr s1) H → va_D A (wc cA ad a fr s1) → va_S A s.heap H locs → lv_has ls 5 [(0, .ref (a k)), (1, .int x1), (2, .int x2), (3, .int x3), (4, .int x4)] → W p l e (RM 3) s m args below meth c H locs 0 0 (MQ below (gQi D (TYS cA) A (wc cA ad a fr) r s') args s 0 0 A) (F0 m 61 ls []) := by
    intro K4 hK4 K22 hK22 x1 x2 x3 x4 s1 h H locs ls hP hD hS hl
    unfold fX6_pass_B61 at h
    refine lv_aload_n hx hb dX6_pass_61 rfl (lv_at hl 0 rfl) ?_
    refine gfX6_12 hk G hP dX6_pass_62 ?_
    refine lv_iload hx hb dX6_pass_65 (lv_at hl 4 rfl) ?_
    obtain ⟨r2, s3, g4, h⟩ := ob_e h
    refine g_callVi (nA := 1) (mX7_isHeld l D cA ad adF adW tt a fr ST hT (k + 1) (mN hk) x4 s1 r2 s3 g4) G hP hD hS (g_good q3_75 q3_76 q3_77 q1_3 q3_78) (by decide +kernel) (by decide) (ltN_0 (mN hk)) (sN_0 (mN hk)) rfl rfl hl.1 [] rfl (Nat.le_of_ble_eq_true rfl) dX6_pass_67 (fun H locs hP hD hS => ?_)
    refine lv_if_eq (tgt := 82) hx hb dX6_pass_70 (by decide) (fun c5 => ?_) (fun c5 => ?_)
    · replace h := it_t c5 h
      exact hB82 K4 hK4 K22 hK22 x1 x2 x3 x4 s3 h _ _ ls hP hD hS (lv_sub hl [0, 1, 2, 3, 4] rfl)
    · replace h := it_f c5 h
      refine lv_iload_n hx hb dX6_pass_73 rfl (lv_at hl 2 rfl) ?_
      refine lv_aload_n hx hb dX6_pass_74 rfl (lv_at hl 0 rfl) ?_
      refine lv_iload hx hb dX6_pass_75 (lv_at hl 4 rfl) ?_
      obtain ⟨r6, s7, g8, h⟩ := ob_e h
      refine g_callVi (nA := 1) (mX6_grind l D cA ad adF adW tt a fr ST hT k hk x4 s3 r6 s7 g8) G hP hD hS (g_good q3_134 q3_136 qs_3 q1_2 q3_137) (by decide +kernel) (by decide) (ltM_0 hk) (sM_0 hk) rfl rfl hl.1 [.int x2] rfl (Nat.le_of_ble_eq_true rfl) dX6_pass_77 (fun H locs hP hD hS => ?_)
      refine lv_iadd hx hb dX6_pass_80 ?_
      refine lv_topi (fun y9 ey9 => ?_)
      replace h := let_e ey9 h
      refine lv_istore_n (lv' := [(2, .int y9), (0, .ref (a k)), (1, .int x1), (3, .int x3), (4, .int x4)]) hx hb dX6_pass_81 rfl hl (by decide) rfl (fun ls hl => ?_)
      exact hB82 K4 hK4 K22 hK22 x1 y9 x3 x4 s7 h _ _ ls hP hD hS (lv_sub hl [1, 2, 0, 3, 4] rfl)
  have hB22 : ∀ (K4 : Int32 → Int32 → Int32 → St → Option (Int32 × St)), (∀ (x1 : Int32) (x2 : Int32) (x3 : Int32) (s1 : St), K4 x1 x2 x3 s1 = some (r, s') → ∀ (H : Heap) (locs : List Loc) (ls : Array Slot), va_P D vwCl (wc cA ad a fr s1) H → va_D A (wc cA ad a fr s1) → va_S A s.heap H locs → lv_has ls 5 [(0, .ref (a k)), (1, .int x1), (2, .int x2), (3, .int x3)] → W p l e (RM 3) s m args below meth c H locs 0 0 (MQ below (gQi D (TYS cA) A (wc cA ad a fr) r s') args s 0 0 A) (F0 m 4 ls [])) → ∀ (K22 : Int32 → Int32 → Int32 → Int32 → St → Option (Int32 × St)), (∀ (x1 : Int32) (x2 : Int32) (x3 : Int32) (x4 : Int32) (s1 : St), K22 x1 x2 x3 x4 s1 = some (r, s') → ∀ (H : Heap) (locs : List Loc) (ls : Array Slot), va_P D vwCl (wc cA ad a fr s1) H → va_D A (wc cA ad a fr s1) → va_S A s.heap H locs → lv_has ls 5 [(0, .ref (a k)), (1, .int x1), (2, .int x2), (3, .int x3), (4, .int x4)] → W p l e (RM 3) s m args below meth c H locs 0 0 (MQ below (gQi D (TYS cA) A (wc cA ad a fr) r s') args s 0 0 A) (F0 m 22 ls [])) → ∀ (x1 : Int32) (x2 : Int32) (x3 : Int32) (x4 : Int32) (s1 : St), fX6_pass_L22b nF k K4 K22 x1 x2 x3 x4 s1 = some (r, s') → ∀ (H : Heap) (locs : List Loc) (ls : Array Slot), va_P D vwCl (wc cA ad a fr s1) H → va_D A (wc cA ad a fr s1) → va_S A s.heap H locs → lv_has ls 5 [(0, .ref (a k)), (1, .int x1), (2, .int x2), (3, .int x3), (4, .int x4)] → W p l e (RM 3) s m args below meth c H locs 0 0 (MQ below (gQi D (TYS cA) A (wc cA ad a fr) r s') args s 0 0 A) (F0 m 22 ls []) := by
    intro K4 hK4 K22 hK22 x1 x2 x3 x4 s1 h H locs ls hP hD hS hl
    unfold fX6_pass_L22b at h
    refine lv_iload hx hb dX6_pass_22 (lv_at hl 4 rfl) ?_
    refine lv_iconst (v := 3) hx hb dX6_pass_24 (by decide) ?_
    refine lv_icmp_ge (tgt := 88) hx hb dX6_pass_25 (by decide) (fun c10 => ?_) (fun c10 => ?_)
    · replace h := it_t c10 h
      obtain ⟨y11, ey11⟩ : ∃ y : Int32, y = x3 + 1 := ⟨_, rfl⟩
      replace h := let_e ey11 h
      refine lv_iinc (v := y11) (lv' := [(3, .int y11), (0, .ref (a k)), (1, .int x1), (2, .int x2), (4, .int x4)]) hx hb dX6_pass_88 hl (k := 3) rfl (by rw [ey11]; rfl) (by decide) rfl (fun ls hl => ?_)
      refine lv_goto (tgt := 4) hx hb dX6_pass_91 (by decide) ?_
      exact hK4 x1 x2 y11 s1 h _ _ ls hP hD hS (lv_sub hl [1, 2, 3, 0] rfl)
    · replace h := it_f c10 h
      refine lv_aload_n hx hb dX6_pass_28 rfl (lv_at hl 0 rfl) ?_
      refine lv_iload hx hb dX6_pass_29 (lv_at hl 4 rfl) ?_
      obtain ⟨r12, s13, g14, h⟩ := ob_e h
      refine g_callVi (nA := 1) (mX6_isStuck l D cA ad adF adW tt a fr ST hT k hk x4 s1 r12 s13 g14) G hP hD hS (g_good q3_114 q3_115 q3_116 q1_2 q3_117) (by decide +kernel) (by decide) (ltM_0 hk) (sM_0 hk) rfl rfl hl.1 [] rfl (Nat.le_of_ble_eq_true rfl) dX6_pass_31 (fun H locs hP hD hS => ?_)
      refine lv_if_eq (tgt := 40) hx hb dX6_pass_34 (by decide) (fun c15 => ?_) (fun c15 => ?_)
      · replace h := it_t c15 h
        refine lv_aload_n hx hb dX6_pass_40 rfl (lv_at hl 0 rfl) ?_
        refine gfX6_12 hk G hP dX6_pass_41 ?_
        refine lv_iload hx hb dX6_pass_44 (lv_at hl 4 rfl) ?_
        obtain ⟨r16, s17, g18, h⟩ := ob_e h
        refine g_callVi (nA := 1) (mX7_isHeld l D cA ad adF adW tt a fr ST hT (k + 1) (mN hk) x4 s13 r16 s17 g18) G hP hD hS (g_good q3_75 q3_76 q3_77 q1_3 q3_78) (by decide +kernel) (by decide) (ltN_0 (mN hk)) (sN_0 (mN hk)) rfl rfl hl.1 [] rfl (Nat.le_of_ble_eq_true rfl) dX6_pass_46 (fun H locs hP hD hS => ?_)
        refine lv_if_ne (tgt := 61) hx hb dX6_pass_49 (by decide) (fun c19 => ?_) (fun c19 => ?_)
        · replace h := it_f c19 h
          exact hB61 K4 hK4 K22 hK22 x1 x2 x3 x4 s17 h _ _ ls hP hD hS (lv_sub hl [0, 1, 2, 3, 4] rfl)
        · replace h := it_t c19 h
          refine lv_aload_n hx hb dX6_pass_52 rfl (lv_at hl 0 rfl) ?_
          refine gfX6_12 hk G hP dX6_pass_53 ?_
          refine lv_iload hx hb dX6_pass_56 (lv_at hl 4 rfl) ?_
          obtain ⟨r20, s21, g22, h⟩ := ob_e h
          refine g_callVv (nA := 1) (mX7_takeFirst l D cA ad adF adW tt a fr ST hT nF (k + 1) (mN hk) x4 s17 r20 s21 g22) G hP hD hS (g_good q3_118 q3_119 q3_120 q1_3 q3_121) (by decide +kernel) (by decide) (ltN_0 (mN hk)) (sN_0 (mN hk)) rfl rfl hl.1 [] rfl (Nat.le_of_ble_eq_true rfl) dX6_pass_58 (fun H locs hP hD hS => ?_)
          exact hB61 K4 hK4 K22 hK22 x1 x2 x3 x4 s21 h _ _ ls hP hD hS (lv_sub hl [0, 1, 2, 3, 4] rfl)
      · replace h := it_f c15 h
        refine lv_goto (tgt := 82) hx hb dX6_pass_37 (by decide) ?_
        exact hB82 K4 hK4 K22 hK22 x1 x2 x3 x4 s13 h _ _ ls hP hD hS (lv_sub hl [0, 1, 2, 3, 4] rfl)
  have hL22 : ∀ (K4 : Int32 → Int32 → Int32 → St → Option (Int32 × St)), (∀ (x1 : Int32) (x2 : Int32) (x3 : Int32) (s1 : St), K4 x1 x2 x3 s1 = some (r, s') → ∀ (H : Heap) (locs : List Loc) (ls : Array Slot), va_P D vwCl (wc cA ad a fr s1) H → va_D A (wc cA ad a fr s1) → va_S A s.heap H locs → lv_has ls 5 [(0, .ref (a k)), (1, .int x1), (2, .int x2), (3, .int x3)] → W p l e (RM 3) s m args below meth c H locs 0 0 (MQ below (gQi D (TYS cA) A (wc cA ad a fr) r s') args s 0 0 A) (F0 m 4 ls [])) → ∀ k_ : Nat, ∀ (x1 : Int32) (x2 : Int32) (x3 : Int32) (x4 : Int32) (s1 : St), fX6_pass_L22 nF k K4 k_ x1 x2 x3 x4 s1 = some (r, s') → ∀ (H : Heap) (locs : List Loc) (ls : Array Slot), va_P D vwCl (wc cA ad a fr s1) H → va_D A (wc cA ad a fr s1) → va_S A s.heap H locs → lv_has ls 5 [(0, .ref (a k)), (1, .int x1), (2, .int x2), (3, .int x3), (4, .int x4)] → W p l e (RM 3) s m args below meth c H locs 0 0 (MQ below (gQi D (TYS cA) A (wc cA ad a fr) r s') args s 0 0 A) (F0 m 22 ls []) := by
    intro K4 hK4 k_
    induction k_ with
    | zero => intro x1 x2 x3 x4 s1 h; cases h
    | succ k_ ih => exact hB22 K4 hK4 (fX6_pass_L22 nF k K4 k_) ih
  have hB4 : ∀ (K4 : Int32 → Int32 → Int32 → St → Option (Int32 × St)), (∀ (x1 : Int32) (x2 : Int32) (x3 : Int32) (s1 : St), K4 x1 x2 x3 s1 = some (r, s') → ∀ (H : Heap) (locs : List Loc) (ls : Array Slot), va_P D vwCl (wc cA ad a fr s1) H → va_D A (wc cA ad a fr s1) → va_S A s.heap H locs → lv_has ls 5 [(0, .ref (a k)), (1, .int x1), (2, .int x2), (3, .int x3)] → W p l e (RM 3) s m args below meth c H locs 0 0 (MQ below (gQi D (TYS cA) A (wc cA ad a fr) r s') args s 0 0 A) (F0 m 4 ls [])) → ∀ (x1 : Int32) (x2 : Int32) (x3 : Int32) (s1 : St), fX6_pass_L4b nF k K4 x1 x2 x3 s1 = some (r, s') → ∀ (H : Heap) (locs : List Loc) (ls : Array Slot), va_P D vwCl (wc cA ad a fr s1) H → va_D A (wc cA ad a fr s1) → va_S A s.heap H locs → lv_has ls 5 [(0, .ref (a k)), (1, .int x1), (2, .int x2), (3, .int x3)] → W p l e (RM 3) s m args below meth c H locs 0 0 (MQ below (gQi D (TYS cA) A (wc cA ad a fr) r s') args s 0 0 A) (F0 m 4 ls []) := by
    intro K4 hK4 x1 x2 x3 s1 h H locs ls hP hD hS hl
    unfold fX6_pass_L4b at h
    refine lv_iload_n hx hb dX6_pass_4 rfl (lv_at hl 3 rfl) ?_
    refine lv_iload_n hx hb dX6_pass_5 rfl (lv_at hl 1 rfl) ?_
    refine lv_icmp_ge (tgt := 94) hx hb dX6_pass_6 (by decide) (fun c23 => ?_) (fun c23 => ?_)
    · replace h := it_t c23 h
      refine lv_iload_n hx hb dX6_pass_94 rfl (lv_at hl 2 rfl) ?_
      exact g_ret G hP hD hS h rfl dX6_pass_95
    · replace h := it_f c23 h
      refine lv_aload_n hx hb dX6_pass_9 rfl (lv_at hl 0 rfl) ?_
      refine lv_dup hx hb dX6_pass_10 rfl ?_
      refine gfX6_42 hk G hP dX6_pass_11 ?_
      refine lv_iconst (v := 1) hx hb dX6_pass_14 (by decide) ?_
      refine lv_iadd hx hb dX6_pass_15 ?_
      refine pfX6_42 hk G hP hD hS dX6_pass_16 (fun s24 es24 H locs hP hD hS => ?_)
      replace h := let_e es24 h
      refine lv_iconst (v := 0) hx hb dX6_pass_19 (by decide) ?_
      refine lv_istore (lv' := [(4, .int 0), (0, .ref (a k)), (1, .int x1), (2, .int x2), (3, .int x3)]) hx hb dX6_pass_20 hl (by decide) rfl (fun ls hl => ?_)
      exact hL22 K4 hK4 nF x1 x2 x3 0 s24 h _ _ ls hP hD hS (lv_sub hl [1, 2, 3, 4, 0] rfl)
  have hL4 : ∀ k_ : Nat, ∀ (x1 : Int32) (x2 : Int32) (x3 : Int32) (s1 : St), fX6_pass_L4 nF k k_ x1 x2 x3 s1 = some (r, s') → ∀ (H : Heap) (locs : List Loc) (ls : Array Slot), va_P D vwCl (wc cA ad a fr s1) H → va_D A (wc cA ad a fr s1) → va_S A s.heap H locs → lv_has ls 5 [(0, .ref (a k)), (1, .int x1), (2, .int x2), (3, .int x3)] → W p l e (RM 3) s m args below meth c H locs 0 0 (MQ below (gQi D (TYS cA) A (wc cA ad a fr) r s') args s 0 0 A) (F0 m 4 ls []) := by
    intro k_
    induction k_ with
    | zero => intro x1 x2 x3 s1 h; cases h
    | succ k_ ih => exact hB4 (fX6_pass_L4 nF k k_) ih
  unfold fX6_pass at h
  refine lv_iconst (v := 0) hx hb dX6_pass_0 (by decide) ?_
  refine lv_istore_n (lv' := [(2, .int 0), (0, .ref (a k)), (1, .int p1)]) hx hb dX6_pass_1 rfl hl (by decide) rfl (fun ls hl => ?_)
  refine lv_iconst (v := 0) hx hb dX6_pass_2 (by decide) ?_
  refine lv_istore_n (lv' := [(3, .int 0), (2, .int 0), (0, .ref (a k)), (1, .int p1)]) hx hb dX6_pass_3 rfl hl (by decide) rfl (fun ls hl => ?_)
  exact hL4 nF p1 0 0 s0 h _ _ ls hP hD hS (lv_sub hl [2, 3, 1, 0] rfl)
noncomputable def fX6_isGrade (p1 : Int32) (s0 : St) : Option (Int32 × St) :=
  if p1 < 0 then
    some (0, s0)
  else
    if 4 ≤ p1 then
      some (0, s0)
    else
      some (1, s0)
set_option maxHeartbeats 4000000 in
set_option maxRecDepth 100000 in
theorem mX6_isGrade (l : Launch) (D : va_G) (cA : Nat → ClassId) (ad adF adW tt a : Nat → Nat) (fr : va_W) (ST : gST) (hT : STE ad adF adW tt ST) (p1 : Int32) (s0 : St) (r : Int32) (s' : St) (h : fX6_isGrade p1 s0 = some (r, s')) : gMet l yX6_isGrade cX6_isGrade 1 (some .boolean) 0 D (TYS cA) ST (wc cA ad a fr s0) [.int p1] (fun A => gQi D (TYS cA) A (wc cA ad a fr) r s') := by
  refine g_ofW hT.1 (by decide +kernel) (Nat.le_of_ble_eq_true rfl) ?_
  intro p e s m args below meth c ls A G hP hD hl
  have G : GC p s m args meth c cX6_isGrade 1 RX6 (some .boolean) A D (TYS cA) ST := G
  have hx := G.1
  have hb := G.2.1
  have hS : va_S A s.heap s.heap [] := va_S.rf
  have hl : lv_has ls 1 [(0, .int p1)] := hl
  unfold fX6_isGrade at h
  refine lv_iload_n hx hb dX6_isGrade_0 rfl (lv_at hl 0 rfl) ?_
  refine lv_if_lt (tgt := 13) hx hb dX6_isGrade_1 (by decide) (fun c1 => ?_) (fun c1 => ?_)
  · replace h := it_t c1 h
    refine lv_iconst (v := 0) hx hb dX6_isGrade_13 (by decide) ?_
    exact g_ret G hP hD hS h rfl dX6_isGrade_14
  · replace h := it_f c1 h
    refine lv_iload_n hx hb dX6_isGrade_4 rfl (lv_at hl 0 rfl) ?_
    refine lv_iconst (v := 4) hx hb dX6_isGrade_5 (by decide) ?_
    refine lv_icmp_ge (tgt := 13) hx hb dX6_isGrade_6 (by decide) (fun c2 => ?_) (fun c2 => ?_)
    · replace h := it_t c2 h
      refine lv_iconst (v := 0) hx hb dX6_isGrade_13 (by decide) ?_
      exact g_ret G hP hD hS h rfl dX6_isGrade_14
    · replace h := it_f c2 h
      refine lv_iconst (v := 1) hx hb dX6_isGrade_9 (by decide) ?_
      refine lv_goto (tgt := 14) hx hb dX6_isGrade_10 (by decide) ?_
      exact g_ret G hP hD hS h rfl dX6_isGrade_14
noncomputable def fX6_isWheelBefore (k : Nat) (p1 : Int32) (p2 : Int32) (s0 : St) : Option (Int32 × St) :=
  BND p1 3 <|
  BND p2 3 <|
  if (s0 (k + 17) p1.toNatClampNeg) = (s0 (k + 17) p2.toNatClampNeg) then
    BND p1 3 <|
    BND p2 3 <|
    if (s0 (k + 16) p1.toNatClampNeg) = (s0 (k + 16) p2.toNatClampNeg) then
      if p2 ≤ p1 then
        some (0, s0)
      else
        some (1, s0)
    else
      BND p1 3 <|
      BND p2 3 <|
      if (s0 (k + 16) p1.toNatClampNeg) ≤ (s0 (k + 16) p2.toNatClampNeg) then
        some (0, s0)
      else
        some (1, s0)
  else
    BND p1 3 <|
    BND p2 3 <|
    if (s0 (k + 17) p1.toNatClampNeg) ≤ (s0 (k + 17) p2.toNatClampNeg) then
      some (0, s0)
    else
      some (1, s0)
set_option maxHeartbeats 4000000 in
set_option maxRecDepth 100000 in
theorem mX6_isWheelBefore (l : Launch) (D : va_G) (cA : Nat → ClassId) (ad adF adW tt a : Nat → Nat) (fr : va_W) (ST : gST) (hT : STE ad adF adW tt ST) (k : Nat) (hk : isM k) (p1 : Int32) (p2 : Int32) (s0 : St) (r : Int32) (s' : St) (h : fX6_isWheelBefore k p1 p2 s0 = some (r, s')) : gMet l yX6_isWheelBefore cX6_isWheelBefore 3 (some .boolean) 0 D (TYS cA) ST (wc cA ad a fr s0) [.ref (a k), .int p1, .int p2] (fun A => gQi D (TYS cA) A (wc cA ad a fr) r s') := by
  refine g_ofW hT.1 (by decide +kernel) (Nat.le_of_ble_eq_true rfl) ?_
  intro p e s m args below meth c ls A G hP hD hl
  have G : GC p s m args meth c cX6_isWheelBefore 3 RX6 (some .boolean) A D (TYS cA) ST := G
  have hx := G.1
  have hb := G.2.1
  have hS : va_S A s.heap s.heap [] := va_S.rf
  have hl : lv_has ls 3 [(0, .ref (a k)), (1, .int p1), (2, .int p2)] := hl
  unfold fX6_isWheelBefore at h
  refine lv_aload_n hx hb dX6_isWheelBefore_0 rfl (lv_at hl 0 rfl) ?_
  refine gfX6_36 hk G hP dX6_isWheelBefore_1 ?_
  refine lv_iload_n hx hb dX6_isWheelBefore_4 rfl (lv_at hl 1 rfl) ?_
  obtain ⟨b1, h⟩ := bnd_e h
  refine g_ald (t := 0) (ty := .int) (Or.inl rfl) G hP (k + 17) (ltM_17 hk) (sM_17 hk) rfl b1 dX6_isWheelBefore_5 ?_
  refine lv_aload_n hx hb dX6_isWheelBefore_6 rfl (lv_at hl 0 rfl) ?_
  refine gfX6_36 hk G hP dX6_isWheelBefore_7 ?_
  refine lv_iload_n hx hb dX6_isWheelBefore_10 rfl (lv_at hl 2 rfl) ?_
  obtain ⟨b2, h⟩ := bnd_e h
  refine g_ald (t := 0) (ty := .int) (Or.inl rfl) G hP (k + 17) (ltM_17 hk) (sM_17 hk) rfl b2 dX6_isWheelBefore_11 ?_
  refine lv_icmp_eq (tgt := 36) hx hb dX6_isWheelBefore_12 (by decide) (fun c3 => ?_) (fun c3 => ?_)
  · replace h := it_t c3 h
    refine lv_aload_n hx hb dX6_isWheelBefore_36 rfl (lv_at hl 0 rfl) ?_
    refine gfX6_32 hk G hP dX6_isWheelBefore_37 ?_
    refine lv_iload_n hx hb dX6_isWheelBefore_40 rfl (lv_at hl 1 rfl) ?_
    obtain ⟨b4, h⟩ := bnd_e h
    refine g_ald (t := 0) (ty := .int) (Or.inl rfl) G hP (k + 16) (ltM_16 hk) (sM_16 hk) rfl b4 dX6_isWheelBefore_41 ?_
    refine lv_aload_n hx hb dX6_isWheelBefore_42 rfl (lv_at hl 0 rfl) ?_
    refine gfX6_32 hk G hP dX6_isWheelBefore_43 ?_
    refine lv_iload_n hx hb dX6_isWheelBefore_46 rfl (lv_at hl 2 rfl) ?_
    obtain ⟨b5, h⟩ := bnd_e h
    refine g_ald (t := 0) (ty := .int) (Or.inl rfl) G hP (k + 16) (ltM_16 hk) (sM_16 hk) rfl b5 dX6_isWheelBefore_47 ?_
    refine lv_icmp_eq (tgt := 72) hx hb dX6_isWheelBefore_48 (by decide) (fun c6 => ?_) (fun c6 => ?_)
    · replace h := it_t c6 h
      refine lv_iload_n hx hb dX6_isWheelBefore_72 rfl (lv_at hl 1 rfl) ?_
      refine lv_iload_n hx hb dX6_isWheelBefore_73 rfl (lv_at hl 2 rfl) ?_
      refine lv_icmp_ge (tgt := 81) hx hb dX6_isWheelBefore_74 (by decide) (fun c7 => ?_) (fun c7 => ?_)
      · replace h := it_t c7 h
        refine lv_iconst (v := 0) hx hb dX6_isWheelBefore_81 (by decide) ?_
        exact g_ret G hP hD hS h rfl dX6_isWheelBefore_82
      · replace h := it_f c7 h
        refine lv_iconst (v := 1) hx hb dX6_isWheelBefore_77 (by decide) ?_
        refine lv_goto (tgt := 82) hx hb dX6_isWheelBefore_78 (by decide) ?_
        exact g_ret G hP hD hS h rfl dX6_isWheelBefore_82
    · replace h := it_f c6 h
      refine lv_aload_n hx hb dX6_isWheelBefore_51 rfl (lv_at hl 0 rfl) ?_
      refine gfX6_32 hk G hP dX6_isWheelBefore_52 ?_
      refine lv_iload_n hx hb dX6_isWheelBefore_55 rfl (lv_at hl 1 rfl) ?_
      obtain ⟨b8, h⟩ := bnd_e h
      refine g_ald (t := 0) (ty := .int) (Or.inl rfl) G hP (k + 16) (ltM_16 hk) (sM_16 hk) rfl b8 dX6_isWheelBefore_56 ?_
      refine lv_aload_n hx hb dX6_isWheelBefore_57 rfl (lv_at hl 0 rfl) ?_
      refine gfX6_32 hk G hP dX6_isWheelBefore_58 ?_
      refine lv_iload_n hx hb dX6_isWheelBefore_61 rfl (lv_at hl 2 rfl) ?_
      obtain ⟨b9, h⟩ := bnd_e h
      refine g_ald (t := 0) (ty := .int) (Or.inl rfl) G hP (k + 16) (ltM_16 hk) (sM_16 hk) rfl b9 dX6_isWheelBefore_62 ?_
      refine lv_icmp_le (tgt := 70) hx hb dX6_isWheelBefore_63 (by decide) (fun c10 => ?_) (fun c10 => ?_)
      · replace h := it_t c10 h
        refine lv_iconst (v := 0) hx hb dX6_isWheelBefore_70 (by decide) ?_
        exact g_ret G hP hD hS h rfl dX6_isWheelBefore_71
      · replace h := it_f c10 h
        refine lv_iconst (v := 1) hx hb dX6_isWheelBefore_66 (by decide) ?_
        refine lv_goto (tgt := 71) hx hb dX6_isWheelBefore_67 (by decide) ?_
        exact g_ret G hP hD hS h rfl dX6_isWheelBefore_71
  · replace h := it_f c3 h
    refine lv_aload_n hx hb dX6_isWheelBefore_15 rfl (lv_at hl 0 rfl) ?_
    refine gfX6_36 hk G hP dX6_isWheelBefore_16 ?_
    refine lv_iload_n hx hb dX6_isWheelBefore_19 rfl (lv_at hl 1 rfl) ?_
    obtain ⟨b11, h⟩ := bnd_e h
    refine g_ald (t := 0) (ty := .int) (Or.inl rfl) G hP (k + 17) (ltM_17 hk) (sM_17 hk) rfl b11 dX6_isWheelBefore_20 ?_
    refine lv_aload_n hx hb dX6_isWheelBefore_21 rfl (lv_at hl 0 rfl) ?_
    refine gfX6_36 hk G hP dX6_isWheelBefore_22 ?_
    refine lv_iload_n hx hb dX6_isWheelBefore_25 rfl (lv_at hl 2 rfl) ?_
    obtain ⟨b12, h⟩ := bnd_e h
    refine g_ald (t := 0) (ty := .int) (Or.inl rfl) G hP (k + 17) (ltM_17 hk) (sM_17 hk) rfl b12 dX6_isWheelBefore_26 ?_
    refine lv_icmp_le (tgt := 34) hx hb dX6_isWheelBefore_27 (by decide) (fun c13 => ?_) (fun c13 => ?_)
    · replace h := it_t c13 h
      refine lv_iconst (v := 0) hx hb dX6_isWheelBefore_34 (by decide) ?_
      exact g_ret G hP hD hS h rfl dX6_isWheelBefore_35
    · replace h := it_f c13 h
      refine lv_iconst (v := 1) hx hb dX6_isWheelBefore_30 (by decide) ?_
      refine lv_goto (tgt := 35) hx hb dX6_isWheelBefore_31 (by decide) ?_
      exact g_ret G hP hD hS h rfl dX6_isWheelBefore_35
noncomputable def fX6_countWheelsBefore_B21 (nF : Nat) (k : Nat) (K4 : Int32 → Int32 → Int32 → St → Option (Int32 × St)) (x1 : Int32) (x2 : Int32) (x3 : Int32) (s1 : St) : Option (Int32 × St) :=
  LET (x3 + 1) fun y1 =>
  K4 x1 x2 y1 s1
noncomputable def fX6_countWheelsBefore_L4b (nF : Nat) (k : Nat) (K4 : Int32 → Int32 → Int32 → St → Option (Int32 × St)) (x1 : Int32) (x2 : Int32) (x3 : Int32) (s1 : St) : Option (Int32 × St) :=
  if 3 ≤ x3 then
    some (x2, s1)
  else
    OB (fX6_isWheelBefore k x3 x1 s1) fun r3 s4 =>
    if r3 = 0 then
      fX6_countWheelsBefore_B21 nF k K4 x1 x2 x3 s4
    else
      LET (x2 + 1) fun y7 =>
      fX6_countWheelsBefore_B21 nF k K4 x1 y7 x3 s4
noncomputable def fX6_countWheelsBefore_L4 (nF : Nat) (k : Nat) : Nat → Int32 → Int32 → Int32 → St → Option (Int32 × St) := fun k_ => Nat.rec (fun _ _ _ _ => none) (fun _ K => fX6_countWheelsBefore_L4b nF k K) k_
theorem fX6_countWheelsBefore_L4_s (nF : Nat) (k : Nat) (k_ : Nat) : fX6_countWheelsBefore_L4 nF k (k_ + 1) = fX6_countWheelsBefore_L4b nF k (fX6_countWheelsBefore_L4 nF k k_) := rfl
noncomputable def fX6_countWheelsBefore (nF : Nat) (k : Nat) (p1 : Int32) (s0 : St) : Option (Int32 × St) :=
  fX6_countWheelsBefore_L4 nF k nF p1 0 0 s0
set_option maxHeartbeats 4000000 in
set_option maxRecDepth 100000 in
theorem mX6_countWheelsBefore (l : Launch) (D : va_G) (cA : Nat → ClassId) (ad adF adW tt a : Nat → Nat) (fr : va_W) (ST : gST) (hT : STE ad adF adW tt ST) (nF : Nat) (k : Nat) (hk : isM k) (p1 : Int32) (s0 : St) (r : Int32) (s' : St) (h : fX6_countWheelsBefore nF k p1 s0 = some (r, s')) : gMet l yX6_countWheelsBefore cX6_countWheelsBefore 4 (some .int) 1 D (TYS cA) ST (wc cA ad a fr s0) [.ref (a k), .int p1] (fun A => gQi D (TYS cA) A (wc cA ad a fr) r s') := by
  refine g_ofW hT.1 (by decide +kernel) (Nat.le_of_ble_eq_true rfl) ?_
  intro p e s m args below meth c ls A G hP hD hl
  have G : GC p s m args meth c cX6_countWheelsBefore 4 RX6 (some .int) A D (TYS cA) ST := G
  have hx := G.1
  have hb := G.2.1
  have hS : va_S A s.heap s.heap [] := va_S.rf
  have hl : lv_has ls 4 [(0, .ref (a k)), (1, .int p1)] := hl
  have hB21 : ∀ (K4 : Int32 → Int32 → Int32 → St → Option (Int32 × St)), (∀ (x1 : Int32) (x2 : Int32) (x3 : Int32) (s1 : St), K4 x1 x2 x3 s1 = some (r, s') → ∀ (H : Heap) (locs : List Loc) (ls : Array Slot), va_P D vwCl (wc cA ad a fr s1) H → va_D A (wc cA ad a fr s1) → va_S A s.heap H locs → lv_has ls 4 [(0, .ref (a k)), (1, .int x1), (2, .int x2), (3, .int x3)] → W p l e (RM 1) s m args below meth c H locs 0 0 (MQ below (gQi D (TYS cA) A (wc cA ad a fr) r s') args s 0 0 A) (F0 m 4 ls [])) → ∀ (x1 : Int32) (x2 : Int32) (x3 : Int32) (s1 : St), fX6_countWheelsBefore_B21 nF k K4 x1 x2 x3 s1 = some (r, s') → ∀ (H : Heap) (locs : List Loc) (ls : Array Slot), va_P D vwCl (wc cA ad a fr s1) H → va_D A (wc cA ad a fr s1) → va_S A s.heap H locs → lv_has ls 4 [(0, .ref (a k)), (1, .int x1), (2, .int x2), (3, .int x3)] → W p l e (RM 1) s m args below meth c H locs 0 0 (MQ below (gQi D (TYS cA) A (wc cA ad a fr) r s') args s 0 0 A) (F0 m 21 ls []) := by
    intro K4 hK4 x1 x2 x3 s1 h H locs ls hP hD hS hl
    unfold fX6_countWheelsBefore_B21 at h
    obtain ⟨y1, ey1⟩ : ∃ y : Int32, y = x3 + 1 := ⟨_, rfl⟩
    replace h := let_e ey1 h
    refine lv_iinc (v := y1) (lv' := [(3, .int y1), (0, .ref (a k)), (1, .int x1), (2, .int x2)]) hx hb dX6_countWheelsBefore_21 hl (k := 3) rfl (by rw [ey1]; rfl) (by decide) rfl (fun ls hl => ?_)
    refine lv_goto (tgt := 4) hx hb dX6_countWheelsBefore_24 (by decide) ?_
    exact hK4 x1 x2 y1 s1 h _ _ ls hP hD hS (lv_sub hl [1, 2, 3, 0] rfl)
  have hB4 : ∀ (K4 : Int32 → Int32 → Int32 → St → Option (Int32 × St)), (∀ (x1 : Int32) (x2 : Int32) (x3 : Int32) (s1 : St), K4 x1 x2 x3 s1 = some (r, s') → ∀ (H : Heap) (locs : List Loc) (ls : Array Slot), va_P D vwCl (wc cA ad a fr s1) H → va_D A (wc cA ad a fr s1) → va_S A s.heap H locs → lv_has ls 4 [(0, .ref (a k)), (1, .int x1), (2, .int x2), (3, .int x3)] → W p l e (RM 1) s m args below meth c H locs 0 0 (MQ below (gQi D (TYS cA) A (wc cA ad a fr) r s') args s 0 0 A) (F0 m 4 ls [])) → ∀ (x1 : Int32) (x2 : Int32) (x3 : Int32) (s1 : St), fX6_countWheelsBefore_L4b nF k K4 x1 x2 x3 s1 = some (r, s') → ∀ (H : Heap) (locs : List Loc) (ls : Array Slot), va_P D vwCl (wc cA ad a fr s1) H → va_D A (wc cA ad a fr s1) → va_S A s.heap H locs → lv_has ls 4 [(0, .ref (a k)), (1, .int x1), (2, .int x2), (3, .int x3)] → W p l e (RM 1) s m args below meth c H locs 0 0 (MQ below (gQi D (TYS cA) A (wc cA ad a fr) r s') args s 0 0 A) (F0 m 4 ls []) := by
    intro K4 hK4 x1 x2 x3 s1 h H locs ls hP hD hS hl
    unfold fX6_countWheelsBefore_L4b at h
    refine lv_iload_n hx hb dX6_countWheelsBefore_4 rfl (lv_at hl 3 rfl) ?_
    refine lv_iconst (v := 3) hx hb dX6_countWheelsBefore_5 (by decide) ?_
    refine lv_icmp_ge (tgt := 27) hx hb dX6_countWheelsBefore_6 (by decide) (fun c2 => ?_) (fun c2 => ?_)
    · replace h := it_t c2 h
      refine lv_iload_n hx hb dX6_countWheelsBefore_27 rfl (lv_at hl 2 rfl) ?_
      exact g_ret G hP hD hS h rfl dX6_countWheelsBefore_28
    · replace h := it_f c2 h
      refine lv_aload_n hx hb dX6_countWheelsBefore_9 rfl (lv_at hl 0 rfl) ?_
      refine lv_iload_n hx hb dX6_countWheelsBefore_10 rfl (lv_at hl 3 rfl) ?_
      refine lv_iload_n hx hb dX6_countWheelsBefore_11 rfl (lv_at hl 1 rfl) ?_
      obtain ⟨r3, s4, g5, h⟩ := ob_e h
      refine g_callVi (nA := 2) (mX6_isWheelBefore l D cA ad adF adW tt a fr ST hT k hk x3 x1 s1 r3 s4 g5) G hP hD hS (g_good q4_108 q4_110 qs_8 q1_2 q4_111) (by decide +kernel) (by decide) (ltM_0 hk) (sM_0 hk) rfl rfl hl.1 [] rfl (Nat.le_of_ble_eq_true rfl) dX6_countWheelsBefore_12 (fun H locs hP hD hS => ?_)
      refine lv_if_eq (tgt := 21) hx hb dX6_countWheelsBefore_15 (by decide) (fun c6 => ?_) (fun c6 => ?_)
      · replace h := it_t c6 h
        exact hB21 K4 hK4 x1 x2 x3 s4 h _ _ ls hP hD hS (lv_sub hl [0, 1, 2, 3] rfl)
      · replace h := it_f c6 h
        obtain ⟨y7, ey7⟩ : ∃ y : Int32, y = x2 + 1 := ⟨_, rfl⟩
        replace h := let_e ey7 h
        refine lv_iinc (v := y7) (lv' := [(2, .int y7), (0, .ref (a k)), (1, .int x1), (3, .int x3)]) hx hb dX6_countWheelsBefore_18 hl (k := 2) rfl (by rw [ey7]; rfl) (by decide) rfl (fun ls hl => ?_)
        exact hB21 K4 hK4 x1 y7 x3 s4 h _ _ ls hP hD hS (lv_sub hl [1, 2, 0, 3] rfl)
  have hL4 : ∀ k_ : Nat, ∀ (x1 : Int32) (x2 : Int32) (x3 : Int32) (s1 : St), fX6_countWheelsBefore_L4 nF k k_ x1 x2 x3 s1 = some (r, s') → ∀ (H : Heap) (locs : List Loc) (ls : Array Slot), va_P D vwCl (wc cA ad a fr s1) H → va_D A (wc cA ad a fr s1) → va_S A s.heap H locs → lv_has ls 4 [(0, .ref (a k)), (1, .int x1), (2, .int x2), (3, .int x3)] → W p l e (RM 1) s m args below meth c H locs 0 0 (MQ below (gQi D (TYS cA) A (wc cA ad a fr) r s') args s 0 0 A) (F0 m 4 ls []) := by
    intro k_
    induction k_ with
    | zero => intro x1 x2 x3 s1 h; cases h
    | succ k_ ih => exact hB4 (fX6_countWheelsBefore_L4 nF k k_) ih
  unfold fX6_countWheelsBefore at h
  refine lv_iconst (v := 0) hx hb dX6_countWheelsBefore_0 (by decide) ?_
  refine lv_istore_n (lv' := [(2, .int 0), (0, .ref (a k)), (1, .int p1)]) hx hb dX6_countWheelsBefore_1 rfl hl (by decide) rfl (fun ls hl => ?_)
  refine lv_iconst (v := 0) hx hb dX6_countWheelsBefore_2 (by decide) ?_
  refine lv_istore_n (lv' := [(3, .int 0), (2, .int 0), (0, .ref (a k)), (1, .int p1)]) hx hb dX6_countWheelsBefore_3 rfl hl (by decide) rfl (fun ls hl => ?_)
  exact hL4 nF p1 0 0 s0 h _ _ ls hP hD hS (lv_sub hl [2, 3, 1, 0] rfl)
noncomputable def fX6_isBandBefore (nF : Nat) (k : Nat) (p1 : Int32) (p2 : Int32) (s0 : St) : Option (Int32 × St) :=
  OB (fX9_recordedOfBand nF (k + 7) p1 s0) fun r1 s2 =>
  OB (fX9_recordedOfBand nF (k + 7) p2 s2) fun r4 s5 =>
  if r1 = r4 then
    BND p1 8 <|
    BND p2 8 <|
    if (s5 (k + 18) p1.toNatClampNeg) = (s5 (k + 18) p2.toNatClampNeg) then
      if p2 ≤ p1 then
        some (0, s5)
      else
        some (1, s5)
    else
      BND p1 8 <|
      BND p2 8 <|
      if (s5 (k + 18) p2.toNatClampNeg) ≤ (s5 (k + 18) p1.toNatClampNeg) then
        some (0, s5)
      else
        some (1, s5)
  else
    if r1 ≤ r4 then
      some (0, s5)
    else
      some (1, s5)
set_option maxHeartbeats 4000000 in
set_option maxRecDepth 100000 in
theorem mX6_isBandBefore (l : Launch) (D : va_G) (cA : Nat → ClassId) (ad adF adW tt a : Nat → Nat) (fr : va_W) (ST : gST) (hT : STE ad adF adW tt ST) (nF : Nat) (k : Nat) (hk : isM k) (p1 : Int32) (p2 : Int32) (s0 : St) (r : Int32) (s' : St) (h : fX6_isBandBefore nF k p1 p2 s0 = some (r, s')) : gMet l yX6_isBandBefore cX6_isBandBefore 5 (some .boolean) 2 D (TYS cA) ST (wc cA ad a fr s0) [.ref (a k), .int p1, .int p2] (fun A => gQi D (TYS cA) A (wc cA ad a fr) r s') := by
  refine g_ofW hT.1 (by decide +kernel) (Nat.le_of_ble_eq_true rfl) ?_
  intro p e s m args below meth c ls A G hP hD hl
  have G : GC p s m args meth c cX6_isBandBefore 5 RX6 (some .boolean) A D (TYS cA) ST := G
  have hx := G.1
  have hb := G.2.1
  have hS : va_S A s.heap s.heap [] := va_S.rf
  have hl : lv_has ls 5 [(0, .ref (a k)), (1, .int p1), (2, .int p2)] := hl
  unfold fX6_isBandBefore at h
  refine lv_aload_n hx hb dX6_isBandBefore_0 rfl (lv_at hl 0 rfl) ?_
  refine gfX6_21 hk G hP dX6_isBandBefore_1 ?_
  refine lv_iload_n hx hb dX6_isBandBefore_4 rfl (lv_at hl 1 rfl) ?_
  obtain ⟨r1, s2, g3, h⟩ := ob_e h
  refine g_callVi (nA := 1) (mX9_recordedOfBand l D cA ad adF adW tt a fr ST hT nF (k + 7) (mS hk) p1 s0 r1 s2 g3) G hP hD hS (g_good q4_124 q4_125 q4_126 q1_4 q4_127) (by decide +kernel) (by decide) (ltS_0 (mS hk)) (sS_0 (mS hk)) rfl rfl hl.1 [] rfl (Nat.le_of_ble_eq_true rfl) dX6_isBandBefore_5 (fun H locs hP hD hS => ?_)
  refine lv_istore_n (lv' := [(3, .int r1), (0, .ref (a k)), (1, .int p1), (2, .int p2)]) hx hb dX6_isBandBefore_8 rfl hl (by decide) rfl (fun ls hl => ?_)
  refine lv_aload_n hx hb dX6_isBandBefore_9 rfl (lv_at hl 1 rfl) ?_
  refine gfX6_21 hk G hP dX6_isBandBefore_10 ?_
  refine lv_iload_n hx hb dX6_isBandBefore_13 rfl (lv_at hl 3 rfl) ?_
  obtain ⟨r4, s5, g6, h⟩ := ob_e h
  refine g_callVi (nA := 1) (mX9_recordedOfBand l D cA ad adF adW tt a fr ST hT nF (k + 7) (mS hk) p2 s2 r4 s5 g6) G hP hD hS (g_good q4_124 q4_125 q4_126 q1_4 q4_127) (by decide +kernel) (by decide) (ltS_0 (mS hk)) (sS_0 (mS hk)) rfl rfl hl.1 [] rfl (Nat.le_of_ble_eq_true rfl) dX6_isBandBefore_14 (fun H locs hP hD hS => ?_)
  refine lv_istore (lv' := [(4, .int r4), (3, .int r1), (0, .ref (a k)), (1, .int p1), (2, .int p2)]) hx hb dX6_isBandBefore_17 hl (by decide) rfl (fun ls hl => ?_)
  refine lv_iload_n hx hb dX6_isBandBefore_19 rfl (lv_at hl 1 rfl) ?_
  refine lv_iload hx hb dX6_isBandBefore_20 (lv_at hl 0 rfl) ?_
  refine lv_icmp_eq (tgt := 37) hx hb dX6_isBandBefore_22 (by decide) (fun c7 => ?_) (fun c7 => ?_)
  · replace h := it_t c7 h
    refine lv_aload_n hx hb dX6_isBandBefore_37 rfl (lv_at hl 2 rfl) ?_
    refine gfX6_39 hk G hP dX6_isBandBefore_38 ?_
    refine lv_iload_n hx hb dX6_isBandBefore_41 rfl (lv_at hl 3 rfl) ?_
    obtain ⟨b8, h⟩ := bnd_e h
    refine g_ald (t := 0) (ty := .int) (Or.inl rfl) G hP (k + 18) (ltM_18 hk) (sM_18 hk) rfl b8 dX6_isBandBefore_42 ?_
    refine lv_aload_n hx hb dX6_isBandBefore_43 rfl (lv_at hl 2 rfl) ?_
    refine gfX6_39 hk G hP dX6_isBandBefore_44 ?_
    refine lv_iload_n hx hb dX6_isBandBefore_47 rfl (lv_at hl 4 rfl) ?_
    obtain ⟨b9, h⟩ := bnd_e h
    refine g_ald (t := 0) (ty := .int) (Or.inl rfl) G hP (k + 18) (ltM_18 hk) (sM_18 hk) rfl b9 dX6_isBandBefore_48 ?_
    refine lv_icmp_eq (tgt := 73) hx hb dX6_isBandBefore_49 (by decide) (fun c10 => ?_) (fun c10 => ?_)
    · replace h := it_t c10 h
      refine lv_iload_n hx hb dX6_isBandBefore_73 rfl (lv_at hl 3 rfl) ?_
      refine lv_iload_n hx hb dX6_isBandBefore_74 rfl (lv_at hl 4 rfl) ?_
      refine lv_icmp_ge (tgt := 82) hx hb dX6_isBandBefore_75 (by decide) (fun c11 => ?_) (fun c11 => ?_)
      · replace h := it_t c11 h
        refine lv_iconst (v := 0) hx hb dX6_isBandBefore_82 (by decide) ?_
        exact g_ret G hP hD hS h rfl dX6_isBandBefore_83
      · replace h := it_f c11 h
        refine lv_iconst (v := 1) hx hb dX6_isBandBefore_78 (by decide) ?_
        refine lv_goto (tgt := 83) hx hb dX6_isBandBefore_79 (by decide) ?_
        exact g_ret G hP hD hS h rfl dX6_isBandBefore_83
    · replace h := it_f c10 h
      refine lv_aload_n hx hb dX6_isBandBefore_52 rfl (lv_at hl 2 rfl) ?_
      refine gfX6_39 hk G hP dX6_isBandBefore_53 ?_
      refine lv_iload_n hx hb dX6_isBandBefore_56 rfl (lv_at hl 3 rfl) ?_
      obtain ⟨b12, h⟩ := bnd_e h
      refine g_ald (t := 0) (ty := .int) (Or.inl rfl) G hP (k + 18) (ltM_18 hk) (sM_18 hk) rfl b12 dX6_isBandBefore_57 ?_
      refine lv_aload_n hx hb dX6_isBandBefore_58 rfl (lv_at hl 2 rfl) ?_
      refine gfX6_39 hk G hP dX6_isBandBefore_59 ?_
      refine lv_iload_n hx hb dX6_isBandBefore_62 rfl (lv_at hl 4 rfl) ?_
      obtain ⟨b13, h⟩ := bnd_e h
      refine g_ald (t := 0) (ty := .int) (Or.inl rfl) G hP (k + 18) (ltM_18 hk) (sM_18 hk) rfl b13 dX6_isBandBefore_63 ?_
      refine lv_icmp_ge (tgt := 71) hx hb dX6_isBandBefore_64 (by decide) (fun c14 => ?_) (fun c14 => ?_)
      · replace h := it_t c14 h
        refine lv_iconst (v := 0) hx hb dX6_isBandBefore_71 (by decide) ?_
        exact g_ret G hP hD hS h rfl dX6_isBandBefore_72
      · replace h := it_f c14 h
        refine lv_iconst (v := 1) hx hb dX6_isBandBefore_67 (by decide) ?_
        refine lv_goto (tgt := 72) hx hb dX6_isBandBefore_68 (by decide) ?_
        exact g_ret G hP hD hS h rfl dX6_isBandBefore_72
  · replace h := it_f c7 h
    refine lv_iload_n hx hb dX6_isBandBefore_25 rfl (lv_at hl 1 rfl) ?_
    refine lv_iload hx hb dX6_isBandBefore_26 (lv_at hl 0 rfl) ?_
    refine lv_icmp_le (tgt := 35) hx hb dX6_isBandBefore_28 (by decide) (fun c15 => ?_) (fun c15 => ?_)
    · replace h := it_t c15 h
      refine lv_iconst (v := 0) hx hb dX6_isBandBefore_35 (by decide) ?_
      exact g_ret G hP hD hS h rfl dX6_isBandBefore_36
    · replace h := it_f c15 h
      refine lv_iconst (v := 1) hx hb dX6_isBandBefore_31 (by decide) ?_
      refine lv_goto (tgt := 36) hx hb dX6_isBandBefore_32 (by decide) ?_
      exact g_ret G hP hD hS h rfl dX6_isBandBefore_36
noncomputable def fX6_countBandsBefore_B22 (nF : Nat) (k : Nat) (K4 : Int32 → Int32 → Int32 → St → Option (Int32 × St)) (x1 : Int32) (x2 : Int32) (x3 : Int32) (s1 : St) : Option (Int32 × St) :=
  LET (x3 + 1) fun y1 =>
  K4 x1 x2 y1 s1
noncomputable def fX6_countBandsBefore_L4b (nF : Nat) (k : Nat) (K4 : Int32 → Int32 → Int32 → St → Option (Int32 × St)) (x1 : Int32) (x2 : Int32) (x3 : Int32) (s1 : St) : Option (Int32 × St) :=
  if 8 ≤ x3 then
    some (x2, s1)
  else
    OB (fX6_isBandBefore nF k x3 x1 s1) fun r3 s4 =>
    if r3 = 0 then
      fX6_countBandsBefore_B22 nF k K4 x1 x2 x3 s4
    else
      LET (x2 + 1) fun y7 =>
      fX6_countBandsBefore_B22 nF k K4 x1 y7 x3 s4
noncomputable def fX6_countBandsBefore_L4 (nF : Nat) (k : Nat) : Nat → Int32 → Int32 → Int32 → St → Option (Int32 × St) := fun k_ => Nat.rec (fun _ _ _ _ => none) (fun _ K => fX6_countBandsBefore_L4b nF k K) k_
theorem fX6_countBandsBefore_L4_s (nF : Nat) (k : Nat) (k_ : Nat) : fX6_countBandsBefore_L4 nF k (k_ + 1) = fX6_countBandsBefore_L4b nF k (fX6_countBandsBefore_L4 nF k k_) := rfl
noncomputable def fX6_countBandsBefore (nF : Nat) (k : Nat) (p1 : Int32) (s0 : St) : Option (Int32 × St) :=
  fX6_countBandsBefore_L4 nF k nF p1 0 0 s0
set_option maxHeartbeats 4000000 in
set_option maxRecDepth 100000 in
theorem mX6_countBandsBefore (l : Launch) (D : va_G) (cA : Nat → ClassId) (ad adF adW tt a : Nat → Nat) (fr : va_W) (ST : gST) (hT : STE ad adF adW tt ST) (nF : Nat) (k : Nat) (hk : isM k) (p1 : Int32) (s0 : St) (r : Int32) (s' : St) (h : fX6_countBandsBefore nF k p1 s0 = some (r, s')) : gMet l yX6_countBandsBefore cX6_countBandsBefore 4 (some .int) 3 D (TYS cA) ST (wc cA ad a fr s0) [.ref (a k), .int p1] (fun A => gQi D (TYS cA) A (wc cA ad a fr) r s') := by
  refine g_ofW hT.1 (by decide +kernel) (Nat.le_of_ble_eq_true rfl) ?_
  intro p e s m args below meth c ls A G hP hD hl
  have G : GC p s m args meth c cX6_countBandsBefore 4 RX6 (some .int) A D (TYS cA) ST := G
  have hx := G.1
  have hb := G.2.1
  have hS : va_S A s.heap s.heap [] := va_S.rf
  have hl : lv_has ls 4 [(0, .ref (a k)), (1, .int p1)] := hl
  have hB22 : ∀ (K4 : Int32 → Int32 → Int32 → St → Option (Int32 × St)), (∀ (x1 : Int32) (x2 : Int32) (x3 : Int32) (s1 : St), K4 x1 x2 x3 s1 = some (r, s') → ∀ (H : Heap) (locs : List Loc) (ls : Array Slot), va_P D vwCl (wc cA ad a fr s1) H → va_D A (wc cA ad a fr s1) → va_S A s.heap H locs → lv_has ls 4 [(0, .ref (a k)), (1, .int x1), (2, .int x2), (3, .int x3)] → W p l e (RM 3) s m args below meth c H locs 0 0 (MQ below (gQi D (TYS cA) A (wc cA ad a fr) r s') args s 0 0 A) (F0 m 4 ls [])) → ∀ (x1 : Int32) (x2 : Int32) (x3 : Int32) (s1 : St), fX6_countBandsBefore_B22 nF k K4 x1 x2 x3 s1 = some (r, s') → ∀ (H : Heap) (locs : List Loc) (ls : Array Slot), va_P D vwCl (wc cA ad a fr s1) H → va_D A (wc cA ad a fr s1) → va_S A s.heap H locs → lv_has ls 4 [(0, .ref (a k)), (1, .int x1), (2, .int x2), (3, .int x3)] → W p l e (RM 3) s m args below meth c H locs 0 0 (MQ below (gQi D (TYS cA) A (wc cA ad a fr) r s') args s 0 0 A) (F0 m 22 ls []) := by
    intro K4 hK4 x1 x2 x3 s1 h H locs ls hP hD hS hl
    unfold fX6_countBandsBefore_B22 at h
    obtain ⟨y1, ey1⟩ : ∃ y : Int32, y = x3 + 1 := ⟨_, rfl⟩
    replace h := let_e ey1 h
    refine lv_iinc (v := y1) (lv' := [(3, .int y1), (0, .ref (a k)), (1, .int x1), (2, .int x2)]) hx hb dX6_countBandsBefore_22 hl (k := 3) rfl (by rw [ey1]; rfl) (by decide) rfl (fun ls hl => ?_)
    refine lv_goto (tgt := 4) hx hb dX6_countBandsBefore_25 (by decide) ?_
    exact hK4 x1 x2 y1 s1 h _ _ ls hP hD hS (lv_sub hl [1, 2, 3, 0] rfl)
  have hB4 : ∀ (K4 : Int32 → Int32 → Int32 → St → Option (Int32 × St)), (∀ (x1 : Int32) (x2 : Int32) (x3 : Int32) (s1 : St), K4 x1 x2 x3 s1 = some (r, s') → ∀ (H : Heap) (locs : List Loc) (ls : Array Slot), va_P D vwCl (wc cA ad a fr s1) H → va_D A (wc cA ad a fr s1) → va_S A s.heap H locs → lv_has ls 4 [(0, .ref (a k)), (1, .int x1), (2, .int x2), (3, .int x3)] → W p l e (RM 3) s m args below meth c H locs 0 0 (MQ below (gQi D (TYS cA) A (wc cA ad a fr) r s') args s 0 0 A) (F0 m 4 ls [])) → ∀ (x1 : Int32) (x2 : Int32) (x3 : Int32) (s1 : St), fX6_countBandsBefore_L4b nF k K4 x1 x2 x3 s1 = some (r, s') → ∀ (H : Heap) (locs : List Loc) (ls : Array Slot), va_P D vwCl (wc cA ad a fr s1) H → va_D A (wc cA ad a fr s1) → va_S A s.heap H locs → lv_has ls 4 [(0, .ref (a k)), (1, .int x1), (2, .int x2), (3, .int x3)] → W p l e (RM 3) s m args below meth c H locs 0 0 (MQ below (gQi D (TYS cA) A (wc cA ad a fr) r s') args s 0 0 A) (F0 m 4 ls []) := by
    intro K4 hK4 x1 x2 x3 s1 h H locs ls hP hD hS hl
    unfold fX6_countBandsBefore_L4b at h
    refine lv_iload_n hx hb dX6_countBandsBefore_4 rfl (lv_at hl 3 rfl) ?_
    refine lv_bipush (v := 8) hx hb dX6_countBandsBefore_5 (by decide) ?_
    refine lv_icmp_ge (tgt := 28) hx hb dX6_countBandsBefore_7 (by decide) (fun c2 => ?_) (fun c2 => ?_)
    · replace h := it_t c2 h
      refine lv_iload_n hx hb dX6_countBandsBefore_28 rfl (lv_at hl 2 rfl) ?_
      exact g_ret G hP hD hS h rfl dX6_countBandsBefore_29
    · replace h := it_f c2 h
      refine lv_aload_n hx hb dX6_countBandsBefore_10 rfl (lv_at hl 0 rfl) ?_
      refine lv_iload_n hx hb dX6_countBandsBefore_11 rfl (lv_at hl 3 rfl) ?_
      refine lv_iload_n hx hb dX6_countBandsBefore_12 rfl (lv_at hl 1 rfl) ?_
      obtain ⟨r3, s4, g5, h⟩ := ob_e h
      refine g_callVi (nA := 2) (mX6_isBandBefore l D cA ad adF adW tt a fr ST hT nF k hk x3 x1 s1 r3 s4 g5) G hP hD hS (g_good q4_120 q4_122 qs_9 q1_2 q4_123) (by decide +kernel) (by decide) (ltM_0 hk) (sM_0 hk) rfl rfl hl.1 [] rfl (Nat.le_of_ble_eq_true rfl) dX6_countBandsBefore_13 (fun H locs hP hD hS => ?_)
      refine lv_if_eq (tgt := 22) hx hb dX6_countBandsBefore_16 (by decide) (fun c6 => ?_) (fun c6 => ?_)
      · replace h := it_t c6 h
        exact hB22 K4 hK4 x1 x2 x3 s4 h _ _ ls hP hD hS (lv_sub hl [0, 1, 2, 3] rfl)
      · replace h := it_f c6 h
        obtain ⟨y7, ey7⟩ : ∃ y : Int32, y = x2 + 1 := ⟨_, rfl⟩
        replace h := let_e ey7 h
        refine lv_iinc (v := y7) (lv' := [(2, .int y7), (0, .ref (a k)), (1, .int x1), (3, .int x3)]) hx hb dX6_countBandsBefore_19 hl (k := 2) rfl (by rw [ey7]; rfl) (by decide) rfl (fun ls hl => ?_)
        exact hB22 K4 hK4 x1 y7 x3 s4 h _ _ ls hP hD hS (lv_sub hl [1, 2, 0, 3] rfl)
  have hL4 : ∀ k_ : Nat, ∀ (x1 : Int32) (x2 : Int32) (x3 : Int32) (s1 : St), fX6_countBandsBefore_L4 nF k k_ x1 x2 x3 s1 = some (r, s') → ∀ (H : Heap) (locs : List Loc) (ls : Array Slot), va_P D vwCl (wc cA ad a fr s1) H → va_D A (wc cA ad a fr s1) → va_S A s.heap H locs → lv_has ls 4 [(0, .ref (a k)), (1, .int x1), (2, .int x2), (3, .int x3)] → W p l e (RM 3) s m args below meth c H locs 0 0 (MQ below (gQi D (TYS cA) A (wc cA ad a fr) r s') args s 0 0 A) (F0 m 4 ls []) := by
    intro k_
    induction k_ with
    | zero => intro x1 x2 x3 s1 h; cases h
    | succ k_ ih => exact hB4 (fX6_countBandsBefore_L4 nF k k_) ih
  unfold fX6_countBandsBefore at h
  refine lv_iconst (v := 0) hx hb dX6_countBandsBefore_0 (by decide) ?_
  refine lv_istore_n (lv' := [(2, .int 0), (0, .ref (a k)), (1, .int p1)]) hx hb dX6_countBandsBefore_1 rfl hl (by decide) rfl (fun ls hl => ?_)
  refine lv_iconst (v := 0) hx hb dX6_countBandsBefore_2 (by decide) ?_
  refine lv_istore_n (lv' := [(3, .int 0), (2, .int 0), (0, .ref (a k)), (1, .int p1)]) hx hb dX6_countBandsBefore_3 rfl hl (by decide) rfl (fun ls hl => ?_)
  exact hL4 nF p1 0 0 s0 h _ _ ls hP hD hS (lv_sub hl [2, 3, 1, 0] rfl)
noncomputable def fX6_stepsByRate (k : Nat) (p1 : Int32) (s0 : St) : Option (Int32 × St) :=
  BND p1 3 <|
  LET (2 * (s0 (k + 16) p1.toNatClampNeg)) fun y2 =>
  OB (fX7_isHeld (k + 1) p1 s0) fun r3 s4 =>
  if r3 = 0 then
    some ((-1), s4)
  else
    if 0 < y2 then
      OB (fX7_slotOn p1 s4) fun r8 s9 =>
      BND r8 15 <|
      NZ y2 <|
      LET ((((s9 ((k + 1) + 4) r8.toNatClampNeg) + y2) - 1) / y2) fun y13 =>
      BND p1 3 <|
      BND p1 3 <|
      LET ((s9 (k + 17) p1.toNatClampNeg) + ((y13 - 1) * (s9 (k + 16) p1.toNatClampNeg))) fun y16 =>
      if 12 ≤ y16 then
        some ((-1), s9)
      else
        some (y13, s9)
    else
      some ((-1), s4)
set_option maxHeartbeats 4000000 in
set_option maxRecDepth 100000 in
theorem mX6_stepsByRate (l : Launch) (D : va_G) (cA : Nat → ClassId) (ad adF adW tt a : Nat → Nat) (fr : va_W) (ST : gST) (hT : STE ad adF adW tt ST) (k : Nat) (hk : isM k) (p1 : Int32) (s0 : St) (r : Int32) (s' : St) (h : fX6_stepsByRate k p1 s0 = some (r, s')) : gMet l yX6_stepsByRate cX6_stepsByRate 5 (some .int) 1 D (TYS cA) ST (wc cA ad a fr s0) [.ref (a k), .int p1] (fun A => gQi D (TYS cA) A (wc cA ad a fr) r s') := by
  refine g_ofW hT.1 (by decide +kernel) (Nat.le_of_ble_eq_true rfl) ?_
  intro p e s m args below meth c ls A G hP hD hl
  have G : GC p s m args meth c cX6_stepsByRate 5 RX6 (some .int) A D (TYS cA) ST := G
  have hx := G.1
  have hb := G.2.1
  have hS : va_S A s.heap s.heap [] := va_S.rf
  have hl : lv_has ls 5 [(0, .ref (a k)), (1, .int p1)] := hl
  unfold fX6_stepsByRate at h
  refine lv_iconst (v := 2) hx hb dX6_stepsByRate_0 (by decide) ?_
  refine lv_aload_n hx hb dX6_stepsByRate_1 rfl (lv_at hl 0 rfl) ?_
  refine gfX6_32 hk G hP dX6_stepsByRate_2 ?_
  refine lv_iload_n hx hb dX6_stepsByRate_5 rfl (lv_at hl 1 rfl) ?_
  obtain ⟨b1, h⟩ := bnd_e h
  refine g_ald (t := 0) (ty := .int) (Or.inl rfl) G hP (k + 16) (ltM_16 hk) (sM_16 hk) rfl b1 dX6_stepsByRate_6 ?_
  refine lv_imul hx hb dX6_stepsByRate_7 ?_
  refine lv_topi (fun y2 ey2 => ?_)
  replace h := let_e ey2 h
  refine lv_istore_n (lv' := [(2, .int y2), (0, .ref (a k)), (1, .int p1)]) hx hb dX6_stepsByRate_8 rfl hl (by decide) rfl (fun ls hl => ?_)
  refine lv_aload_n hx hb dX6_stepsByRate_9 rfl (lv_at hl 1 rfl) ?_
  refine gfX6_12 hk G hP dX6_stepsByRate_10 ?_
  refine lv_iload_n hx hb dX6_stepsByRate_13 rfl (lv_at hl 2 rfl) ?_
  obtain ⟨r3, s4, g5, h⟩ := ob_e h
  refine g_callVi (nA := 1) (mX7_isHeld l D cA ad adF adW tt a fr ST hT (k + 1) (mN hk) p1 s0 r3 s4 g5) G hP hD hS (g_good q3_75 q3_76 q3_77 q1_3 q3_78) (by decide +kernel) (by decide) (ltN_0 (mN hk)) (sN_0 (mN hk)) rfl rfl hl.1 [] rfl (Nat.le_of_ble_eq_true rfl) dX6_stepsByRate_14 (fun H locs hP hD hS => ?_)
  refine lv_if_eq (tgt := 24) hx hb dX6_stepsByRate_17 (by decide) (fun c6 => ?_) (fun c6 => ?_)
  · replace h := it_t c6 h
    refine lv_iconst (v := (-1)) hx hb dX6_stepsByRate_24 (by decide) ?_
    exact g_ret G hP hD hS h rfl dX6_stepsByRate_25
  · replace h := it_f c6 h
    refine lv_iload_n hx hb dX6_stepsByRate_20 rfl (lv_at hl 0 rfl) ?_
    refine lv_if_gt (tgt := 26) hx hb dX6_stepsByRate_21 (by decide) (fun c7 => ?_) (fun c7 => ?_)
    · replace h := it_t c7 h
      refine lv_aload_n hx hb dX6_stepsByRate_26 rfl (lv_at hl 1 rfl) ?_
      refine gfX6_12 hk G hP dX6_stepsByRate_27 ?_
      refine gfX6_100 (mN hk) G hP dX6_stepsByRate_30 ?_
      refine lv_iload_n hx hb dX6_stepsByRate_33 rfl (lv_at hl 2 rfl) ?_
      obtain ⟨r8, s9, g10, h⟩ := ob_e h
      refine g_callSXi (nA := 1) (mX7_slotOn l D cA ad adF adW tt a fr ST hT p1 s4 r8 s9 g10) G hP hD hS (g_goodSX q3_138 q3_97 q1_3 q3_98) (by decide +kernel) (by decide) rfl hl.1 [.ref (a ((k + 1) + 4))] rfl (Nat.le_of_ble_eq_true rfl) dX6_stepsByRate_34 (fun H locs hP hD hS => ?_)
      obtain ⟨b11, h⟩ := bnd_e h
      refine g_ald (t := 0) (ty := .int) (Or.inl rfl) G hP ((k + 1) + 4) (ltN_4 (mN hk)) (sN_4 (mN hk)) rfl b11 dX6_stepsByRate_37 ?_
      refine lv_iload_n hx hb dX6_stepsByRate_38 rfl (lv_at hl 0 rfl) ?_
      refine lv_iadd hx hb dX6_stepsByRate_39 ?_
      refine lv_iconst (v := 1) hx hb dX6_stepsByRate_40 (by decide) ?_
      refine lv_isub hx hb dX6_stepsByRate_41 ?_
      refine lv_iload_n hx hb dX6_stepsByRate_42 rfl (lv_at hl 0 rfl) ?_
      obtain ⟨nz12, h⟩ := nz_e h
      refine lv_idiv hx hb dX6_stepsByRate_43 nz12 ?_
      refine lv_topi (fun y13 ey13 => ?_)
      replace h := let_e ey13 h
      refine lv_istore_n (lv' := [(3, .int y13), (2, .int y2), (0, .ref (a k)), (1, .int p1)]) hx hb dX6_stepsByRate_44 rfl hl (by decide) rfl (fun ls hl => ?_)
      refine lv_aload_n hx hb dX6_stepsByRate_45 rfl (lv_at hl 2 rfl) ?_
      refine gfX6_36 hk G hP dX6_stepsByRate_46 ?_
      refine lv_iload_n hx hb dX6_stepsByRate_49 rfl (lv_at hl 3 rfl) ?_
      obtain ⟨b14, h⟩ := bnd_e h
      refine g_ald (t := 0) (ty := .int) (Or.inl rfl) G hP (k + 17) (ltM_17 hk) (sM_17 hk) rfl b14 dX6_stepsByRate_50 ?_
      refine lv_iload_n hx hb dX6_stepsByRate_51 rfl (lv_at hl 0 rfl) ?_
      refine lv_iconst (v := 1) hx hb dX6_stepsByRate_52 (by decide) ?_
      refine lv_isub hx hb dX6_stepsByRate_53 ?_
      refine lv_aload_n hx hb dX6_stepsByRate_54 rfl (lv_at hl 2 rfl) ?_
      refine gfX6_32 hk G hP dX6_stepsByRate_55 ?_
      refine lv_iload_n hx hb dX6_stepsByRate_58 rfl (lv_at hl 3 rfl) ?_
      obtain ⟨b15, h⟩ := bnd_e h
      refine g_ald (t := 0) (ty := .int) (Or.inl rfl) G hP (k + 16) (ltM_16 hk) (sM_16 hk) rfl b15 dX6_stepsByRate_59 ?_
      refine lv_imul hx hb dX6_stepsByRate_60 ?_
      refine lv_iadd hx hb dX6_stepsByRate_61 ?_
      refine lv_topi (fun y16 ey16 => ?_)
      replace h := let_e ey16 h
      refine lv_istore (lv' := [(4, .int y16), (3, .int y13), (2, .int y2), (0, .ref (a k)), (1, .int p1)]) hx hb dX6_stepsByRate_62 hl (by decide) rfl (fun ls hl => ?_)
      refine lv_iload hx hb dX6_stepsByRate_64 (lv_at hl 0 rfl) ?_
      refine lv_bipush (v := 12) hx hb dX6_stepsByRate_66 (by decide) ?_
      refine lv_icmp_ge (tgt := 75) hx hb dX6_stepsByRate_68 (by decide) (fun c17 => ?_) (fun c17 => ?_)
      · replace h := it_t c17 h
        refine lv_iconst (v := (-1)) hx hb dX6_stepsByRate_75 (by decide) ?_
        exact g_ret G hP hD hS h rfl dX6_stepsByRate_76
      · replace h := it_f c17 h
        refine lv_iload_n hx hb dX6_stepsByRate_71 rfl (lv_at hl 1 rfl) ?_
        refine lv_goto (tgt := 76) hx hb dX6_stepsByRate_72 (by decide) ?_
        exact g_ret G hP hD hS h rfl dX6_stepsByRate_76
    · replace h := it_f c7 h
      refine lv_iconst (v := (-1)) hx hb dX6_stepsByRate_24 (by decide) ?_
      exact g_ret G hP hD hS h rfl dX6_stepsByRate_25
noncomputable def fX6_faultOfAdding (k : Nat) (p1 : Int32) (p2 : Int32) (p3 : Int32) (s0 : St) : Option (Int32 × St) :=
  OB (fX6_isBand p1 s0) fun r1 s2 =>
  if r1 = 0 then
    some (2, s2)
  else
    OB (fX6_isWithin p2 1 9 s2) fun r5 s6 =>
    if r5 = 0 then
      some (2, s6)
    else
      OB (fX6_isWithin p3 1 60 s6) fun r9 s10 =>
      if r9 = 0 then
        some (2, s10)
      else
        OB (fX7_isFull (k + 1) s10) fun r13 s14 =>
        if r13 = 0 then
          some (0, s14)
        else
          some (4, s14)
set_option maxHeartbeats 4000000 in
set_option maxRecDepth 100000 in
theorem mX6_faultOfAdding (l : Launch) (D : va_G) (cA : Nat → ClassId) (ad adF adW tt a : Nat → Nat) (fr : va_W) (ST : gST) (hT : STE ad adF adW tt ST) (k : Nat) (hk : isM k) (p1 : Int32) (p2 : Int32) (p3 : Int32) (s0 : St) (r : Int32) (s' : St) (h : fX6_faultOfAdding k p1 p2 p3 s0 = some (r, s')) : gMet l yX6_faultOfAdding cX6_faultOfAdding 4 (some (.object "NoiseMill$Fault")) 1 D (TYS cA) ST (wc cA ad a fr s0) [.ref (a k), .int p1, .int p2, .int p3] (fun A => gQe adF D (TYS cA) A (wc cA ad a fr) r s') := by
  refine g_ofW hT.1 (by decide +kernel) (Nat.le_of_ble_eq_true rfl) ?_
  intro p e s m args below meth c ls A G hP hD hl
  have G : GC p s m args meth c cX6_faultOfAdding 4 RX6 (some (.object "NoiseMill$Fault")) A D (TYS cA) ST := G
  have hx := G.1
  have hb := G.2.1
  have hS : va_S A s.heap s.heap [] := va_S.rf
  have hl : lv_has ls 4 [(0, .ref (a k)), (1, .int p1), (2, .int p2), (3, .int p3)] := hl
  unfold fX6_faultOfAdding at h
  refine lv_iload_n hx hb dX6_faultOfAdding_0 rfl (lv_at hl 1 rfl) ?_
  obtain ⟨r1, s2, g3, h⟩ := ob_e h
  refine g_callSXi (nA := 1) (mX6_isBand l D cA ad adF adW tt a fr ST hT p1 s0 r1 s2 g3) G hP hD hS (g_goodSX q3_49 q3_50 q1_2 q3_51) (by decide +kernel) (by decide) rfl hl.1 [] rfl (Nat.le_of_ble_eq_true rfl) dX6_faultOfAdding_1 (fun H locs hP hD hS => ?_)
  refine lv_if_eq (tgt := 27) hx hb dX6_faultOfAdding_4 (by decide) (fun c4 => ?_) (fun c4 => ?_)
  · replace h := it_t c4 h
    refine g_getF (v := 2) 2 (by decide) rfl hT G hS q2_98 dX6_faultOfAdding_27 ?_
    exact g_eret (v := 2) (by decide) G hP hD hS h dX6_faultOfAdding_30
  · replace h := it_f c4 h
    refine lv_iload_n hx hb dX6_faultOfAdding_7 rfl (lv_at hl 2 rfl) ?_
    refine lv_iconst (v := 1) hx hb dX6_faultOfAdding_8 (by decide) ?_
    refine lv_bipush (v := 9) hx hb dX6_faultOfAdding_9 (by decide) ?_
    obtain ⟨r5, s6, g7, h⟩ := ob_e h
    refine g_callSXi (nA := 3) (mX6_isWithin l D cA ad adF adW tt a fr ST hT p2 1 9 s2 r5 s6 g7) G hP hD hS (g_goodSX q2_93 q2_94 q1_2 q2_95) (by decide +kernel) (by decide) rfl hl.1 [] rfl (Nat.le_of_ble_eq_true rfl) dX6_faultOfAdding_11 (fun H locs hP hD hS => ?_)
    refine lv_if_eq (tgt := 27) hx hb dX6_faultOfAdding_14 (by decide) (fun c8 => ?_) (fun c8 => ?_)
    · replace h := it_t c8 h
      refine g_getF (v := 2) 2 (by decide) rfl hT G hS q2_98 dX6_faultOfAdding_27 ?_
      exact g_eret (v := 2) (by decide) G hP hD hS h dX6_faultOfAdding_30
    · replace h := it_f c8 h
      refine lv_iload_n hx hb dX6_faultOfAdding_17 rfl (lv_at hl 3 rfl) ?_
      refine lv_iconst (v := 1) hx hb dX6_faultOfAdding_18 (by decide) ?_
      refine lv_bipush (v := 60) hx hb dX6_faultOfAdding_19 (by decide) ?_
      obtain ⟨r9, s10, g11, h⟩ := ob_e h
      refine g_callSXi (nA := 3) (mX6_isWithin l D cA ad adF adW tt a fr ST hT p3 1 60 s6 r9 s10 g11) G hP hD hS (g_goodSX q2_93 q2_94 q1_2 q2_95) (by decide +kernel) (by decide) rfl hl.1 [] rfl (Nat.le_of_ble_eq_true rfl) dX6_faultOfAdding_21 (fun H locs hP hD hS => ?_)
      refine lv_if_ne (tgt := 31) hx hb dX6_faultOfAdding_24 (by decide) (fun c12 => ?_) (fun c12 => ?_)
      · replace h := it_f c12 h
        refine lv_aload_n hx hb dX6_faultOfAdding_31 rfl (lv_at hl 0 rfl) ?_
        refine gfX6_12 hk G hP dX6_faultOfAdding_32 ?_
        obtain ⟨r13, s14, g15, h⟩ := ob_e h
        refine g_callVi (nA := 0) (mX7_isFull l D cA ad adF adW tt a fr ST hT (k + 1) (mN hk) s10 r13 s14 g15) G hP hD hS (g_good q3_81 q3_82 q3_83 q1_3 q3_84) (by decide +kernel) (by decide) (ltN_0 (mN hk)) (sN_0 (mN hk)) rfl rfl hl.1 [] rfl (Nat.le_of_ble_eq_true rfl) dX6_faultOfAdding_35 (fun H locs hP hD hS => ?_)
        refine lv_if_eq (tgt := 47) hx hb dX6_faultOfAdding_38 (by decide) (fun c16 => ?_) (fun c16 => ?_)
        · replace h := it_t c16 h
          refine g_getF (v := 0) 0 (by decide) rfl hT G hS q2_96 dX6_faultOfAdding_47 ?_
          exact g_eret (v := 0) (by decide) G hP hD hS h dX6_faultOfAdding_50
        · replace h := it_f c16 h
          refine g_getF (v := 4) 4 (by decide) rfl hT G hS q3_85 dX6_faultOfAdding_41 ?_
          refine lv_goto (tgt := 50) hx hb dX6_faultOfAdding_44 (by decide) ?_
          exact g_eret (v := 4) (by decide) G hP hD hS h dX6_faultOfAdding_50
      · replace h := it_t c12 h
        refine g_getF (v := 2) 2 (by decide) rfl hT G hS q2_98 dX6_faultOfAdding_27 ?_
        exact g_eret (v := 2) (by decide) G hP hD hS h dX6_faultOfAdding_30
noncomputable def fX6_faultOfRemoving (nF : Nat) (k : Nat) (p1 : Int32) (s0 : St) : Option (Int32 × St) :=
  OB (fX7_slotOf nF (k + 1) p1 s0) fun r1 s2 =>
  if r1 = (-1) then
    some (3, s2)
  else
    OB (fX7_isWaitingSlot r1 s2) fun r5 s6 =>
    if r5 = 0 then
      some (4, s6)
    else
      some (0, s6)
set_option maxHeartbeats 4000000 in
set_option maxRecDepth 100000 in
theorem mX6_faultOfRemoving (l : Launch) (D : va_G) (cA : Nat → ClassId) (ad adF adW tt a : Nat → Nat) (fr : va_W) (ST : gST) (hT : STE ad adF adW tt ST) (nF : Nat) (k : Nat) (hk : isM k) (p1 : Int32) (s0 : St) (r : Int32) (s' : St) (h : fX6_faultOfRemoving nF k p1 s0 = some (r, s')) : gMet l yX6_faultOfRemoving cX6_faultOfRemoving 3 (some (.object "NoiseMill$Fault")) 2 D (TYS cA) ST (wc cA ad a fr s0) [.ref (a k), .int p1] (fun A => gQe adF D (TYS cA) A (wc cA ad a fr) r s') := by
  refine g_ofW hT.1 (by decide +kernel) (Nat.le_of_ble_eq_true rfl) ?_
  intro p e s m args below meth c ls A G hP hD hl
  have G : GC p s m args meth c cX6_faultOfRemoving 3 RX6 (some (.object "NoiseMill$Fault")) A D (TYS cA) ST := G
  have hx := G.1
  have hb := G.2.1
  have hS : va_S A s.heap s.heap [] := va_S.rf
  have hl : lv_has ls 3 [(0, .ref (a k)), (1, .int p1)] := hl
  unfold fX6_faultOfRemoving at h
  refine lv_aload_n hx hb dX6_faultOfRemoving_0 rfl (lv_at hl 0 rfl) ?_
  refine gfX6_12 hk G hP dX6_faultOfRemoving_1 ?_
  refine lv_iload_n hx hb dX6_faultOfRemoving_4 rfl (lv_at hl 1 rfl) ?_
  obtain ⟨r1, s2, g3, h⟩ := ob_e h
  refine g_callVi (nA := 1) (mX7_slotOf l D cA ad adF adW tt a fr ST hT nF (k + 1) (mN hk) p1 s0 r1 s2 g3) G hP hD hS (g_good q5_49 q3_189 q3_190 q1_3 q3_191) (by decide +kernel) (by decide) (ltN_0 (mN hk)) (sN_0 (mN hk)) rfl rfl hl.1 [] rfl (Nat.le_of_ble_eq_true rfl) dX6_faultOfRemoving_5 (fun H locs hP hD hS => ?_)
  refine lv_istore_n (lv' := [(2, .int r1), (0, .ref (a k)), (1, .int p1)]) hx hb dX6_faultOfRemoving_8 rfl hl (by decide) rfl (fun ls hl => ?_)
  refine lv_iload_n hx hb dX6_faultOfRemoving_9 rfl (lv_at hl 0 rfl) ?_
  refine lv_iconst (v := (-1)) hx hb dX6_faultOfRemoving_10 (by decide) ?_
  refine lv_icmp_ne (tgt := 18) hx hb dX6_faultOfRemoving_11 (by decide) (fun c4 => ?_) (fun c4 => ?_)
  · replace h := it_f c4 h
    refine lv_iload_n hx hb dX6_faultOfRemoving_18 rfl (lv_at hl 0 rfl) ?_
    obtain ⟨r5, s6, g7, h⟩ := ob_e h
    refine g_callSXi (nA := 1) (mX7_isWaitingSlot l D cA ad adF adW tt a fr ST hT r1 s2 r5 s6 g7) G hP hD hS (g_goodSX q5_50 q3_193 q1_3 q3_194) (by decide +kernel) (by decide) rfl hl.1 [] rfl (Nat.le_of_ble_eq_true rfl) dX6_faultOfRemoving_19 (fun H locs hP hD hS => ?_)
    refine lv_if_eq (tgt := 31) hx hb dX6_faultOfRemoving_22 (by decide) (fun c8 => ?_) (fun c8 => ?_)
    · replace h := it_t c8 h
      refine g_getF (v := 4) 4 (by decide) rfl hT G hS q3_85 dX6_faultOfRemoving_31 ?_
      exact g_eret (v := 4) (by decide) G hP hD hS h dX6_faultOfRemoving_34
    · replace h := it_f c8 h
      refine g_getF (v := 0) 0 (by decide) rfl hT G hS q2_96 dX6_faultOfRemoving_25 ?_
      refine lv_goto (tgt := 34) hx hb dX6_faultOfRemoving_28 (by decide) ?_
      exact g_eret (v := 0) (by decide) G hP hD hS h dX6_faultOfRemoving_34
  · replace h := it_t c4 h
    refine g_getF (v := 3) 3 (by decide) rfl hT G hS q3_79 dX6_faultOfRemoving_14 ?_
    exact g_eret (v := 3) (by decide) G hP hD hS h dX6_faultOfRemoving_17
noncomputable def fX6_faultOfShipping (k : Nat) (p1 : Int32) (p2 : Int32) (s0 : St) : Option (Int32 × St) :=
  OB (fX6_isGrade p1 s0) fun r1 s2 =>
  if r1 = 0 then
    some (2, s2)
  else
    OB (fX6_isWithin p2 1 6 s2) fun r5 s6 =>
    if r5 = 0 then
      some (2, s6)
    else
      OB (fX9_full (k + 7) p1 s6) fun r9 s10 =>
      if p2 ≤ r9 then
        some (0, s10)
      else
        some (5, s10)
set_option maxHeartbeats 4000000 in
set_option maxRecDepth 100000 in
theorem mX6_faultOfShipping (l : Launch) (D : va_G) (cA : Nat → ClassId) (ad adF adW tt a : Nat → Nat) (fr : va_W) (ST : gST) (hT : STE ad adF adW tt ST) (k : Nat) (hk : isM k) (p1 : Int32) (p2 : Int32) (s0 : St) (r : Int32) (s' : St) (h : fX6_faultOfShipping k p1 p2 s0 = some (r, s')) : gMet l yX6_faultOfShipping cX6_faultOfShipping 3 (some (.object "NoiseMill$Fault")) 1 D (TYS cA) ST (wc cA ad a fr s0) [.ref (a k), .int p1, .int p2] (fun A => gQe adF D (TYS cA) A (wc cA ad a fr) r s') := by
  refine g_ofW hT.1 (by decide +kernel) (Nat.le_of_ble_eq_true rfl) ?_
  intro p e s m args below meth c ls A G hP hD hl
  have G : GC p s m args meth c cX6_faultOfShipping 3 RX6 (some (.object "NoiseMill$Fault")) A D (TYS cA) ST := G
  have hx := G.1
  have hb := G.2.1
  have hS : va_S A s.heap s.heap [] := va_S.rf
  have hl : lv_has ls 3 [(0, .ref (a k)), (1, .int p1), (2, .int p2)] := hl
  unfold fX6_faultOfShipping at h
  refine lv_iload_n hx hb dX6_faultOfShipping_0 rfl (lv_at hl 1 rfl) ?_
  obtain ⟨r1, s2, g3, h⟩ := ob_e h
  refine g_callSXi (nA := 1) (mX6_isGrade l D cA ad adF adW tt a fr ST hT p1 s0 r1 s2 g3) G hP hD hS (g_goodSX q5_55 q4_21 q1_2 q4_22) (by decide +kernel) (by decide) rfl hl.1 [] rfl (Nat.le_of_ble_eq_true rfl) dX6_faultOfShipping_1 (fun H locs hP hD hS => ?_)
  refine lv_if_eq (tgt := 17) hx hb dX6_faultOfShipping_4 (by decide) (fun c4 => ?_) (fun c4 => ?_)
  · replace h := it_t c4 h
    refine g_getF (v := 2) 2 (by decide) rfl hT G hS q2_98 dX6_faultOfShipping_17 ?_
    exact g_eret (v := 2) (by decide) G hP hD hS h dX6_faultOfShipping_20
  · replace h := it_f c4 h
    refine lv_iload_n hx hb dX6_faultOfShipping_7 rfl (lv_at hl 2 rfl) ?_
    refine lv_iconst (v := 1) hx hb dX6_faultOfShipping_8 (by decide) ?_
    refine lv_bipush (v := 6) hx hb dX6_faultOfShipping_9 (by decide) ?_
    obtain ⟨r5, s6, g7, h⟩ := ob_e h
    refine g_callSXi (nA := 3) (mX6_isWithin l D cA ad adF adW tt a fr ST hT p2 1 6 s2 r5 s6 g7) G hP hD hS (g_goodSX q2_93 q2_94 q1_2 q2_95) (by decide +kernel) (by decide) rfl hl.1 [] rfl (Nat.le_of_ble_eq_true rfl) dX6_faultOfShipping_11 (fun H locs hP hD hS => ?_)
    refine lv_if_ne (tgt := 21) hx hb dX6_faultOfShipping_14 (by decide) (fun c8 => ?_) (fun c8 => ?_)
    · replace h := it_f c8 h
      refine lv_aload_n hx hb dX6_faultOfShipping_21 rfl (lv_at hl 0 rfl) ?_
      refine gfX6_21 hk G hP dX6_faultOfShipping_22 ?_
      refine lv_iload_n hx hb dX6_faultOfShipping_25 rfl (lv_at hl 1 rfl) ?_
      obtain ⟨r9, s10, g11, h⟩ := ob_e h
      refine g_callVi (nA := 1) (mX9_full l D cA ad adF adW tt a fr ST hT (k + 7) (mS hk) p1 s6 r9 s10 g11) G hP hD hS (g_good q5_56 q5_57 q5_58 q1_4 q5_59) (by decide +kernel) (by decide) (ltS_0 (mS hk)) (sS_0 (mS hk)) rfl rfl hl.1 [] rfl (Nat.le_of_ble_eq_true rfl) dX6_faultOfShipping_26 (fun H locs hP hD hS => ?_)
      refine lv_iload_n hx hb dX6_faultOfShipping_29 rfl (lv_at hl 2 rfl) ?_
      refine lv_icmp_ge (tgt := 39) hx hb dX6_faultOfShipping_30 (by decide) (fun c12 => ?_) (fun c12 => ?_)
      · replace h := it_t c12 h
        refine g_getF (v := 0) 0 (by decide) rfl hT G hS q2_96 dX6_faultOfShipping_39 ?_
        exact g_eret (v := 0) (by decide) G hP hD hS h dX6_faultOfShipping_42
      · replace h := it_f c12 h
        refine g_getF (v := 5) 5 (by decide) rfl hT G hS q5_60 dX6_faultOfShipping_33 ?_
        refine lv_goto (tgt := 42) hx hb dX6_faultOfShipping_36 (by decide) ?_
        exact g_eret (v := 5) (by decide) G hP hD hS h dX6_faultOfShipping_42
    · replace h := it_t c8 h
      refine g_getF (v := 2) 2 (by decide) rfl hT G hS q2_98 dX6_faultOfShipping_17 ?_
      exact g_eret (v := 2) (by decide) G hP hD hS h dX6_faultOfShipping_20
noncomputable def fX6_add (k : Nat) (p1 : Int32) (p2 : Int32) (p3 : Int32) (s0 : St) : Option (Int32 × St) :=
  OB (fX7_append (k + 1) p1 p2 p3 s0) fun r1 s2 =>
  some (r1, s2)
set_option maxHeartbeats 4000000 in
set_option maxRecDepth 100000 in
theorem mX6_add (l : Launch) (D : va_G) (cA : Nat → ClassId) (ad adF adW tt a : Nat → Nat) (fr : va_W) (ST : gST) (hT : STE ad adF adW tt ST) (k : Nat) (hk : isM k) (p1 : Int32) (p2 : Int32) (p3 : Int32) (s0 : St) (r : Int32) (s' : St) (h : fX6_add k p1 p2 p3 s0 = some (r, s')) : gMet l yX6_add cX6_add 4 (some .int) 2 D (TYS cA) ST (wc cA ad a fr s0) [.ref (a k), .int p1, .int p2, .int p3] (fun A => gQi D (TYS cA) A (wc cA ad a fr) r s') := by
  refine g_ofW hT.1 (by decide +kernel) (Nat.le_of_ble_eq_true rfl) ?_
  intro p e s m args below meth c ls A G hP hD hl
  have G : GC p s m args meth c cX6_add 4 RX6 (some .int) A D (TYS cA) ST := G
  have hx := G.1
  have hb := G.2.1
  have hS : va_S A s.heap s.heap [] := va_S.rf
  have hl : lv_has ls 4 [(0, .ref (a k)), (1, .int p1), (2, .int p2), (3, .int p3)] := hl
  unfold fX6_add at h
  refine lv_aload_n hx hb dX6_add_0 rfl (lv_at hl 0 rfl) ?_
  refine gfX6_12 hk G hP dX6_add_1 ?_
  refine lv_iload_n hx hb dX6_add_4 rfl (lv_at hl 1 rfl) ?_
  refine lv_iload_n hx hb dX6_add_5 rfl (lv_at hl 2 rfl) ?_
  refine lv_iload_n hx hb dX6_add_6 rfl (lv_at hl 3 rfl) ?_
  obtain ⟨r1, s2, g3, h⟩ := ob_e h
  refine g_callVi (nA := 3) (mX7_append l D cA ad adF adW tt a fr ST hT (k + 1) (mN hk) p1 p2 p3 s0 r1 s2 g3) G hP hD hS (g_good q5_70 q5_71 q5_72 q1_3 q5_73) (by decide +kernel) (by decide) (ltN_0 (mN hk)) (sN_0 (mN hk)) rfl rfl hl.1 [] rfl (Nat.le_of_ble_eq_true rfl) dX6_add_7 (fun H locs hP hD hS => ?_)
  exact g_ret G hP hD hS h rfl dX6_add_10
noncomputable def fX6_remove (nF : Nat) (k : Nat) (p1 : Int32) (s0 : St) : Option (Int32 × St) :=
  OB (fX7_slotOf nF (k + 1) p1 s0) fun r1 s2 =>
  if r1 = (-1) then
    some (0, s2)
  else
    BND r1 15 <|
    LET (s2 ((k + 1) + 4) r1.toNatClampNeg) fun y6 =>
    OB (fX7_removeWaiting (k + 1) r1 s2) fun r7 s8 =>
    some (y6, s8)
set_option maxHeartbeats 4000000 in
set_option maxRecDepth 100000 in
theorem mX6_remove (l : Launch) (D : va_G) (cA : Nat → ClassId) (ad adF adW tt a : Nat → Nat) (fr : va_W) (ST : gST) (hT : STE ad adF adW tt ST) (nF : Nat) (k : Nat) (hk : isM k) (p1 : Int32) (s0 : St) (r : Int32) (s' : St) (h : fX6_remove nF k p1 s0 = some (r, s')) : gMet l yX6_remove cX6_remove 4 (some .int) 2 D (TYS cA) ST (wc cA ad a fr s0) [.ref (a k), .int p1] (fun A => gQi D (TYS cA) A (wc cA ad a fr) r s') := by
  refine g_ofW hT.1 (by decide +kernel) (Nat.le_of_ble_eq_true rfl) ?_
  intro p e s m args below meth c ls A G hP hD hl
  have G : GC p s m args meth c cX6_remove 4 RX6 (some .int) A D (TYS cA) ST := G
  have hx := G.1
  have hb := G.2.1
  have hS : va_S A s.heap s.heap [] := va_S.rf
  have hl : lv_has ls 4 [(0, .ref (a k)), (1, .int p1)] := hl
  unfold fX6_remove at h
  refine lv_aload_n hx hb dX6_remove_0 rfl (lv_at hl 0 rfl) ?_
  refine gfX6_12 hk G hP dX6_remove_1 ?_
  refine lv_iload_n hx hb dX6_remove_4 rfl (lv_at hl 1 rfl) ?_
  obtain ⟨r1, s2, g3, h⟩ := ob_e h
  refine g_callVi (nA := 1) (mX7_slotOf l D cA ad adF adW tt a fr ST hT nF (k + 1) (mN hk) p1 s0 r1 s2 g3) G hP hD hS (g_good q5_49 q3_189 q3_190 q1_3 q3_191) (by decide +kernel) (by decide) (ltN_0 (mN hk)) (sN_0 (mN hk)) rfl rfl hl.1 [] rfl (Nat.le_of_ble_eq_true rfl) dX6_remove_5 (fun H locs hP hD hS => ?_)
  refine lv_istore_n (lv' := [(2, .int r1), (0, .ref (a k)), (1, .int p1)]) hx hb dX6_remove_8 rfl hl (by decide) rfl (fun ls hl => ?_)
  refine lv_iload_n hx hb dX6_remove_9 rfl (lv_at hl 0 rfl) ?_
  refine lv_iconst (v := (-1)) hx hb dX6_remove_10 (by decide) ?_
  refine lv_icmp_ne (tgt := 16) hx hb dX6_remove_11 (by decide) (fun c4 => ?_) (fun c4 => ?_)
  · replace h := it_f c4 h
    refine lv_aload_n hx hb dX6_remove_16 rfl (lv_at hl 1 rfl) ?_
    refine gfX6_12 hk G hP dX6_remove_17 ?_
    refine gfX6_100 (mN hk) G hP dX6_remove_20 ?_
    refine lv_iload_n hx hb dX6_remove_23 rfl (lv_at hl 0 rfl) ?_
    obtain ⟨b5, h⟩ := bnd_e h
    refine g_ald (t := 0) (ty := .int) (Or.inl rfl) G hP ((k + 1) + 4) (ltN_4 (mN hk)) (sN_4 (mN hk)) rfl b5 dX6_remove_24 ?_
    refine lv_topi (fun y6 ey6 => ?_)
    replace h := let_e ey6 h
    refine lv_istore_n (lv' := [(3, .int y6), (2, .int r1), (0, .ref (a k)), (1, .int p1)]) hx hb dX6_remove_25 rfl hl (by decide) rfl (fun ls hl => ?_)
    refine lv_aload_n hx hb dX6_remove_26 rfl (lv_at hl 2 rfl) ?_
    refine gfX6_12 hk G hP dX6_remove_27 ?_
    refine lv_iload_n hx hb dX6_remove_30 rfl (lv_at hl 1 rfl) ?_
    obtain ⟨r7, s8, g9, h⟩ := ob_e h
    refine g_callVv (nA := 1) (mX7_removeWaiting l D cA ad adF adW tt a fr ST hT (k + 1) (mN hk) r1 s2 r7 s8 g9) G hP hD hS (g_good q5_78 q3_131 q3_132 q1_3 q3_133) (by decide +kernel) (by decide) (ltN_0 (mN hk)) (sN_0 (mN hk)) rfl rfl hl.1 [] rfl (Nat.le_of_ble_eq_true rfl) dX6_remove_31 (fun H locs hP hD hS => ?_)
    refine lv_iload_n hx hb dX6_remove_34 rfl (lv_at hl 0 rfl) ?_
    exact g_ret G hP hD hS h rfl dX6_remove_35
  · replace h := it_t c4 h
    refine lv_iconst (v := 0) hx hb dX6_remove_14 (by decide) ?_
    exact g_ret G hP hD hS h rfl dX6_remove_15
noncomputable def fX6_ship (k : Nat) (p1 : Int32) (p2 : Int32) (s0 : St) : Option (Int32 × St) :=
  OB (fX9_sendOff (k + 7) p1 p2 s0) fun r1 s2 =>
  OB (fX9_full (k + 7) p1 s2) fun r4 s5 =>
  some (r4, s5)
set_option maxHeartbeats 4000000 in
set_option maxRecDepth 100000 in
theorem mX6_ship (l : Launch) (D : va_G) (cA : Nat → ClassId) (ad adF adW tt a : Nat → Nat) (fr : va_W) (ST : gST) (hT : STE ad adF adW tt ST) (k : Nat) (hk : isM k) (p1 : Int32) (p2 : Int32) (s0 : St) (r : Int32) (s' : St) (h : fX6_ship k p1 p2 s0 = some (r, s')) : gMet l yX6_ship cX6_ship 3 (some .int) 1 D (TYS cA) ST (wc cA ad a fr s0) [.ref (a k), .int p1, .int p2] (fun A => gQi D (TYS cA) A (wc cA ad a fr) r s') := by
  refine g_ofW hT.1 (by decide +kernel) (Nat.le_of_ble_eq_true rfl) ?_
  intro p e s m args below meth c ls A G hP hD hl
  have G : GC p s m args meth c cX6_ship 3 RX6 (some .int) A D (TYS cA) ST := G
  have hx := G.1
  have hb := G.2.1
  have hS : va_S A s.heap s.heap [] := va_S.rf
  have hl : lv_has ls 3 [(0, .ref (a k)), (1, .int p1), (2, .int p2)] := hl
  unfold fX6_ship at h
  refine lv_aload_n hx hb dX6_ship_0 rfl (lv_at hl 0 rfl) ?_
  refine gfX6_21 hk G hP dX6_ship_1 ?_
  refine lv_iload_n hx hb dX6_ship_4 rfl (lv_at hl 1 rfl) ?_
  refine lv_iload_n hx hb dX6_ship_5 rfl (lv_at hl 2 rfl) ?_
  obtain ⟨r1, s2, g3, h⟩ := ob_e h
  refine g_callVv (nA := 2) (mX9_sendOff l D cA ad adF adW tt a fr ST hT (k + 7) (mS hk) p1 p2 s0 r1 s2 g3) G hP hD hS (g_good q5_83 q5_84 q5_85 q1_4 q5_86) (by decide +kernel) (by decide) (ltS_0 (mS hk)) (sS_0 (mS hk)) rfl rfl hl.1 [] rfl (Nat.le_of_ble_eq_true rfl) dX6_ship_6 (fun H locs hP hD hS => ?_)
  refine lv_aload_n hx hb dX6_ship_9 rfl (lv_at hl 0 rfl) ?_
  refine gfX6_21 hk G hP dX6_ship_10 ?_
  refine lv_iload_n hx hb dX6_ship_13 rfl (lv_at hl 1 rfl) ?_
  obtain ⟨r4, s5, g6, h⟩ := ob_e h
  refine g_callVi (nA := 1) (mX9_full l D cA ad adF adW tt a fr ST hT (k + 7) (mS hk) p1 s2 r4 s5 g6) G hP hD hS (g_good q5_56 q5_57 q5_58 q1_4 q5_59) (by decide +kernel) (by decide) (ltS_0 (mS hk)) (sS_0 (mS hk)) rfl rfl hl.1 [] rfl (Nat.le_of_ble_eq_true rfl) dX6_ship_14 (fun H locs hP hD hS => ?_)
  exact g_ret G hP hD hS h rfl dX6_ship_17
noncomputable def fX10_fill_L15b (nF : Nat) (k1 : Nat) (K15 : Int32 → St → Option (Int32 × St)) (x2 : Int32) (s1 : St) : Option (Int32 × St) :=
  if (s1 212 1) ≤ x2 then
    some (0, s1)
  else
    BND x2 12 <|
    LET (u2 s1 213 x2.toNatClampNeg x2) fun s3 =>
    LET (x2 + 1) fun y4 =>
    K15 y4 s3
noncomputable def fX10_fill_L15 (nF : Nat) (k1 : Nat) : Nat → Int32 → St → Option (Int32 × St) := fun k_ => Nat.rec (fun _ _ => none) (fun _ K => fX10_fill_L15b nF k1 K) k_
theorem fX10_fill_L15_s (nF : Nat) (k1 : Nat) (k_ : Nat) : fX10_fill_L15 nF k1 (k_ + 1) = fX10_fill_L15b nF k1 (fX10_fill_L15 nF k1 k_) := rfl
noncomputable def fX10_fill (nF : Nat) (k1 : Nat) (s0 : St) : Option (Int32 × St) :=
  OB (fJ9_min_7cf53 (s0 k1 5) 12 s0) fun r5 s6 =>
  LET (u2 s6 212 1 r5) fun s8 =>
  fX10_fill_L15 nF k1 nF 0 s8
set_option maxHeartbeats 4000000 in
set_option maxRecDepth 100000 in
theorem mX10_fill (l : Launch) (D : va_G) (cA : Nat → ClassId) (ad adF adW tt a : Nat → Nat) (fr : va_W) (ST : gST) (hT : STE ad adF adW tt ST) (nF : Nat) (k1 : Nat) (hk1 : isN k1) (s0 : St) (r : Int32) (s' : St) (h : fX10_fill nF k1 s0 = some (r, s')) : gMet l yX10_fill cX10_fill 3 none 1 D (TYS cA) ST (wc cA ad a fr s0) [.ref (a 212), .ref (a k1)] (fun A => gQv D (TYS cA) A (wc cA ad a fr) s') := by
  refine g_ofW hT.1 (by decide +kernel) (Nat.le_of_ble_eq_true rfl) ?_
  intro p e s m args below meth c ls A G hP hD hl
  have G : GC p s m args meth c cX10_fill 3 RX10 none A D (TYS cA) ST := G
  have hx := G.1
  have hb := G.2.1
  have hS : va_S A s.heap s.heap [] := va_S.rf
  have hl : lv_has ls 3 [(0, .ref (a 212)), (1, .ref (a k1))] := hl
  have hB15 : ∀ (K15 : Int32 → St → Option (Int32 × St)), (∀ (x2 : Int32) (s1 : St), K15 x2 s1 = some (r, s') → ∀ (H : Heap) (locs : List Loc) (ls : Array Slot), va_P D vwCl (wc cA ad a fr s1) H → va_D A (wc cA ad a fr s1) → va_S A s.heap H locs → lv_has ls 3 [(0, .ref (a 212)), (2, .int x2)] → W p l e (RM 1) s m args below meth c H locs 0 0 (MQ below (gQv D (TYS cA) A (wc cA ad a fr) s') args s 0 0 A) (F0 m 15 ls [])) → ∀ (x2 : Int32) (s1 : St), fX10_fill_L15b nF k1 K15 x2 s1 = some (r, s') → ∀ (H : Heap) (locs : List Loc) (ls : Array Slot), va_P D vwCl (wc cA ad a fr s1) H → va_D A (wc cA ad a fr s1) → va_S A s.heap H locs → lv_has ls 3 [(0, .ref (a 212)), (2, .int x2)] → W p l e (RM 1) s m args below meth c H locs 0 0 (MQ below (gQv D (TYS cA) A (wc cA ad a fr) s') args s 0 0 A) (F0 m 15 ls []) := by
    intro K15 hK15 x2 s1 h H locs ls hP hD hS hl
    unfold fX10_fill_L15b at h
    refine lv_iload_n hx hb dX10_fill_15 rfl (lv_at hl 1 rfl) ?_
    refine lv_aload_n hx hb dX10_fill_16 rfl (lv_at hl 0 rfl) ?_
    refine gfX10_15 G hP dX10_fill_17 ?_
    refine lv_icmp_ge (tgt := 36) hx hb dX10_fill_20 (by decide) (fun c1 => ?_) (fun c1 => ?_)
    · replace h := it_t c1 h
      exact g_vret G hP hD hS h dX10_fill_36
    · replace h := it_f c1 h
      refine lv_aload_n hx hb dX10_fill_23 rfl (lv_at hl 0 rfl) ?_
      refine gfX10_9 G hP dX10_fill_24 ?_
      refine lv_iload_n hx hb dX10_fill_27 rfl (lv_at hl 1 rfl) ?_
      refine lv_iload_n hx hb dX10_fill_28 rfl (lv_at hl 1 rfl) ?_
      obtain ⟨b2, h⟩ := bnd_e h
      refine g_ast (t := 0) (ty := .int) (Or.inl rfl) G hP hD hS 213 (by decide) sc_213 rfl b2 dX10_fill_29 (fun s3 es3 H locs hP hD hS => ?_)
      replace h := let_e es3 h
      obtain ⟨y4, ey4⟩ : ∃ y : Int32, y = x2 + 1 := ⟨_, rfl⟩
      replace h := let_e ey4 h
      refine lv_iinc (v := y4) (lv' := [(2, .int y4), (0, .ref (a 212))]) hx hb dX10_fill_30 hl (k := 1) rfl (by rw [ey4]; rfl) (by decide) rfl (fun ls hl => ?_)
      refine lv_goto (tgt := 15) hx hb dX10_fill_33 (by decide) ?_
      exact hK15 y4 s3 h _ _ ls hP hD hS (lv_sub hl [1, 0] rfl)
  have hL15 : ∀ k_ : Nat, ∀ (x2 : Int32) (s1 : St), fX10_fill_L15 nF k1 k_ x2 s1 = some (r, s') → ∀ (H : Heap) (locs : List Loc) (ls : Array Slot), va_P D vwCl (wc cA ad a fr s1) H → va_D A (wc cA ad a fr s1) → va_S A s.heap H locs → lv_has ls 3 [(0, .ref (a 212)), (2, .int x2)] → W p l e (RM 1) s m args below meth c H locs 0 0 (MQ below (gQv D (TYS cA) A (wc cA ad a fr) s') args s 0 0 A) (F0 m 15 ls []) := by
    intro k_
    induction k_ with
    | zero => intro x2 s1 h; cases h
    | succ k_ ih => exact hB15 (fX10_fill_L15 nF k1 k_) ih
  unfold fX10_fill at h
  refine lv_aload_n hx hb dX10_fill_0 rfl (lv_at hl 0 rfl) ?_
  refine lv_aload_n hx hb dX10_fill_1 rfl (lv_at hl 1 rfl) ?_
  refine gfX10_19 hk1 G hP dX10_fill_2 ?_
  refine lv_bipush (v := 12) hx hb dX10_fill_5 (by decide) ?_
  obtain ⟨r5, s6, g7, h⟩ := ob_e h
  refine g_callSXi (nA := 2) (mJ9_min_7cf53 l D cA ad adF adW tt a fr ST hT (s0 k1 5) 12 s0 r5 s6 g7) G hP hD hS (g_goodSX q3_173 q3_36 q1_28 q3_37) (by decide +kernel) (by decide) rfl hl.1 [.ref (a 212)] rfl (Nat.le_of_ble_eq_true rfl) dX10_fill_7 (fun H locs hP hD hS => ?_)
  refine pfX10_15 G hP hD hS dX10_fill_10 (fun s8 es8 H locs hP hD hS => ?_)
  replace h := let_e es8 h
  refine lv_iconst (v := 0) hx hb dX10_fill_13 (by decide) ?_
  refine lv_istore_n (lv' := [(2, .int 0), (0, .ref (a 212)), (1, .ref (a k1))]) hx hb dX10_fill_14 rfl hl (by decide) rfl (fun ls hl => ?_)
  exact hL15 nF 0 s8 h _ _ ls hP hD hS (lv_sub hl [1, 0] rfl)
noncomputable def fX10_take_B42 (nF : Nat) (k1 : Nat) (K13 : Int32 → Int32 → St → Option (Int32 × St)) (x2 : Int32) (x3 : Int32) (s1 : St) : Option (Int32 × St) :=
  LET (x3 + 1) fun y1 =>
  K13 x2 y1 s1
noncomputable def fX10_take_L13b (nF : Nat) (k1 : Nat) (K13 : Int32 → Int32 → St → Option (Int32 × St)) (x2 : Int32) (x3 : Int32) (s1 : St) : Option (Int32 × St) :=
  if (s1 212 1) ≤ x3 then
    BND x2 12 <|
    LET (s1 213 x2.toNatClampNeg) fun y4 =>
    LET (u2 s1 212 1 ((s1 212 1) - 1)) fun s5 =>
    BND (s5 212 1) 12 <|
    BND x2 12 <|
    LET (u2 s5 213 x2.toNatClampNeg (s5 213 (s5 212 1).toNatClampNeg)) fun s8 =>
    some (y4, s8)
  else
    BND x3 12 <|
    BND x2 12 <|
    OB (fX7_isBefore k1 (s1 213 x3.toNatClampNeg) (s1 213 x2.toNatClampNeg) s1) fun r11 s12 =>
    if r11 = 0 then
      fX10_take_B42 nF k1 K13 x2 x3 s12
    else
      fX10_take_B42 nF k1 K13 x3 x3 s12
noncomputable def fX10_take_L13 (nF : Nat) (k1 : Nat) : Nat → Int32 → Int32 → St → Option (Int32 × St) := fun k_ => Nat.rec (fun _ _ _ => none) (fun _ K => fX10_take_L13b nF k1 K) k_
theorem fX10_take_L13_s (nF : Nat) (k1 : Nat) (k_ : Nat) : fX10_take_L13 nF k1 (k_ + 1) = fX10_take_L13b nF k1 (fX10_take_L13 nF k1 k_) := rfl
noncomputable def fX10_take (nF : Nat) (k1 : Nat) (s0 : St) : Option (Int32 × St) :=
  if 0 < (s0 212 1) then
    fX10_take_L13 nF k1 nF 0 1 s0
  else
    some ((-1), s0)
set_option maxHeartbeats 4000000 in
set_option maxRecDepth 100000 in
theorem mX10_take (l : Launch) (D : va_G) (cA : Nat → ClassId) (ad adF adW tt a : Nat → Nat) (fr : va_W) (ST : gST) (hT : STE ad adF adW tt ST) (nF : Nat) (k1 : Nat) (hk1 : isN k1) (s0 : St) (r : Int32) (s' : St) (h : fX10_take nF k1 s0 = some (r, s')) : gMet l yX10_take cX10_take 4 (some .int) 1 D (TYS cA) ST (wc cA ad a fr s0) [.ref (a 212), .ref (a k1)] (fun A => gQi D (TYS cA) A (wc cA ad a fr) r s') := by
  refine g_ofW hT.1 (by decide +kernel) (Nat.le_of_ble_eq_true rfl) ?_
  intro p e s m args below meth c ls A G hP hD hl
  have G : GC p s m args meth c cX10_take 4 RX10 (some .int) A D (TYS cA) ST := G
  have hx := G.1
  have hb := G.2.1
  have hS : va_S A s.heap s.heap [] := va_S.rf
  have hl : lv_has ls 4 [(0, .ref (a 212)), (1, .ref (a k1))] := hl
  have hB42 : ∀ (K13 : Int32 → Int32 → St → Option (Int32 × St)), (∀ (x2 : Int32) (x3 : Int32) (s1 : St), K13 x2 x3 s1 = some (r, s') → ∀ (H : Heap) (locs : List Loc) (ls : Array Slot), va_P D vwCl (wc cA ad a fr s1) H → va_D A (wc cA ad a fr s1) → va_S A s.heap H locs → lv_has ls 4 [(0, .ref (a 212)), (1, .ref (a k1)), (2, .int x2), (3, .int x3)] → W p l e (RM 1) s m args below meth c H locs 0 0 (MQ below (gQi D (TYS cA) A (wc cA ad a fr) r s') args s 0 0 A) (F0 m 13 ls [])) → ∀ (x2 : Int32) (x3 : Int32) (s1 : St), fX10_take_B42 nF k1 K13 x2 x3 s1 = some (r, s') → ∀ (H : Heap) (locs : List Loc) (ls : Array Slot), va_P D vwCl (wc cA ad a fr s1) H → va_D A (wc cA ad a fr s1) → va_S A s.heap H locs → lv_has ls 4 [(0, .ref (a 212)), (1, .ref (a k1)), (2, .int x2), (3, .int x3)] → W p l e (RM 1) s m args below meth c H locs 0 0 (MQ below (gQi D (TYS cA) A (wc cA ad a fr) r s') args s 0 0 A) (F0 m 42 ls []) := by
    intro K13 hK13 x2 x3 s1 h H locs ls hP hD hS hl
    unfold fX10_take_B42 at h
    obtain ⟨y1, ey1⟩ : ∃ y : Int32, y = x3 + 1 := ⟨_, rfl⟩
    replace h := let_e ey1 h
    refine lv_iinc (v := y1) (lv' := [(3, .int y1), (0, .ref (a 212)), (1, .ref (a k1)), (2, .int x2)]) hx hb dX10_take_42 hl (k := 3) rfl (by rw [ey1]; rfl) (by decide) rfl (fun ls hl => ?_)
    refine lv_goto (tgt := 13) hx hb dX10_take_45 (by decide) ?_
    exact hK13 x2 y1 s1 h _ _ ls hP hD hS (lv_sub hl [1, 2, 3, 0] rfl)
  have hB13 : ∀ (K13 : Int32 → Int32 → St → Option (Int32 × St)), (∀ (x2 : Int32) (x3 : Int32) (s1 : St), K13 x2 x3 s1 = some (r, s') → ∀ (H : Heap) (locs : List Loc) (ls : Array Slot), va_P D vwCl (wc cA ad a fr s1) H → va_D A (wc cA ad a fr s1) → va_S A s.heap H locs → lv_has ls 4 [(0, .ref (a 212)), (1, .ref (a k1)), (2, .int x2), (3, .int x3)] → W p l e (RM 1) s m args below meth c H locs 0 0 (MQ below (gQi D (TYS cA) A (wc cA ad a fr) r s') args s 0 0 A) (F0 m 13 ls [])) → ∀ (x2 : Int32) (x3 : Int32) (s1 : St), fX10_take_L13b nF k1 K13 x2 x3 s1 = some (r, s') → ∀ (H : Heap) (locs : List Loc) (ls : Array Slot), va_P D vwCl (wc cA ad a fr s1) H → va_D A (wc cA ad a fr s1) → va_S A s.heap H locs → lv_has ls 4 [(0, .ref (a 212)), (1, .ref (a k1)), (2, .int x2), (3, .int x3)] → W p l e (RM 1) s m args below meth c H locs 0 0 (MQ below (gQi D (TYS cA) A (wc cA ad a fr) r s') args s 0 0 A) (F0 m 13 ls []) := by
    intro K13 hK13 x2 x3 s1 h H locs ls hP hD hS hl
    unfold fX10_take_L13b at h
    refine lv_iload_n hx hb dX10_take_13 rfl (lv_at hl 3 rfl) ?_
    refine lv_aload_n hx hb dX10_take_14 rfl (lv_at hl 0 rfl) ?_
    refine gfX10_15 G hP dX10_take_15 ?_
    refine lv_icmp_ge (tgt := 48) hx hb dX10_take_18 (by decide) (fun c2 => ?_) (fun c2 => ?_)
    · replace h := it_t c2 h
      refine lv_aload_n hx hb dX10_take_48 rfl (lv_at hl 0 rfl) ?_
      refine gfX10_9 G hP dX10_take_49 ?_
      refine lv_iload_n hx hb dX10_take_52 rfl (lv_at hl 2 rfl) ?_
      obtain ⟨b3, h⟩ := bnd_e h
      refine g_ald (t := 0) (ty := .int) (Or.inl rfl) G hP 213 (by decide) sc_213 rfl b3 dX10_take_53 ?_
      refine lv_topi (fun y4 ey4 => ?_)
      replace h := let_e ey4 h
      refine lv_istore_n (lv' := [(3, .int y4), (0, .ref (a 212)), (1, .ref (a k1)), (2, .int x2)]) hx hb dX10_take_54 rfl hl (by decide) rfl (fun ls hl => ?_)
      refine lv_aload_n hx hb dX10_take_55 rfl (lv_at hl 1 rfl) ?_
      refine lv_dup hx hb dX10_take_56 rfl ?_
      refine gfX10_15 G hP dX10_take_57 ?_
      refine lv_iconst (v := 1) hx hb dX10_take_60 (by decide) ?_
      refine lv_isub hx hb dX10_take_61 ?_
      refine pfX10_15 G hP hD hS dX10_take_62 (fun s5 es5 H locs hP hD hS => ?_)
      replace h := let_e es5 h
      refine lv_aload_n hx hb dX10_take_65 rfl (lv_at hl 1 rfl) ?_
      refine gfX10_9 G hP dX10_take_66 ?_
      refine lv_iload_n hx hb dX10_take_69 rfl (lv_at hl 3 rfl) ?_
      refine lv_aload_n hx hb dX10_take_70 rfl (lv_at hl 1 rfl) ?_
      refine gfX10_9 G hP dX10_take_71 ?_
      refine lv_aload_n hx hb dX10_take_74 rfl (lv_at hl 1 rfl) ?_
      refine gfX10_15 G hP dX10_take_75 ?_
      obtain ⟨b6, h⟩ := bnd_e h
      refine g_ald (t := 0) (ty := .int) (Or.inl rfl) G hP 213 (by decide) sc_213 rfl b6 dX10_take_78 ?_
      obtain ⟨b7, h⟩ := bnd_e h
      refine g_ast (t := 0) (ty := .int) (Or.inl rfl) G hP hD hS 213 (by decide) sc_213 rfl b7 dX10_take_79 (fun s8 es8 H locs hP hD hS => ?_)
      replace h := let_e es8 h
      refine lv_iload_n hx hb dX10_take_80 rfl (lv_at hl 0 rfl) ?_
      exact g_ret G hP hD hS h rfl dX10_take_81
    · replace h := it_f c2 h
      refine lv_aload_n hx hb dX10_take_21 rfl (lv_at hl 1 rfl) ?_
      refine lv_aload_n hx hb dX10_take_22 rfl (lv_at hl 0 rfl) ?_
      refine gfX10_9 G hP dX10_take_23 ?_
      refine lv_iload_n hx hb dX10_take_26 rfl (lv_at hl 3 rfl) ?_
      obtain ⟨b9, h⟩ := bnd_e h
      refine g_ald (t := 0) (ty := .int) (Or.inl rfl) G hP 213 (by decide) sc_213 rfl b9 dX10_take_27 ?_
      refine lv_aload_n hx hb dX10_take_28 rfl (lv_at hl 0 rfl) ?_
      refine gfX10_9 G hP dX10_take_29 ?_
      refine lv_iload_n hx hb dX10_take_32 rfl (lv_at hl 2 rfl) ?_
      obtain ⟨b10, h⟩ := bnd_e h
      refine g_ald (t := 0) (ty := .int) (Or.inl rfl) G hP 213 (by decide) sc_213 rfl b10 dX10_take_33 ?_
      obtain ⟨r11, s12, g13, h⟩ := ob_e h
      refine g_callVi (nA := 2) (mX7_isBefore l D cA ad adF adW tt a fr ST hT k1 hk1 (s1 213 x3.toNatClampNeg) (s1 213 x2.toNatClampNeg) s1 r11 s12 g13) G hP hD hS (g_good q3_178 q3_127 q3_128 q1_3 q3_129) (by decide +kernel) (by decide) (ltN_0 hk1) (sN_0 hk1) rfl rfl hl.1 [] rfl (Nat.le_of_ble_eq_true rfl) dX10_take_34 (fun H locs hP hD hS => ?_)
      refine lv_if_eq (tgt := 42) hx hb dX10_take_37 (by decide) (fun c14 => ?_) (fun c14 => ?_)
      · replace h := it_t c14 h
        exact hB42 K13 hK13 x2 x3 s12 h _ _ ls hP hD hS (lv_sub hl [0, 1, 2, 3] rfl)
      · replace h := it_f c14 h
        refine lv_iload_n hx hb dX10_take_40 rfl (lv_at hl 3 rfl) ?_
        refine lv_istore_n (lv' := [(2, .int x3), (0, .ref (a 212)), (1, .ref (a k1)), (3, .int x3)]) hx hb dX10_take_41 rfl hl (by decide) rfl (fun ls hl => ?_)
        exact hB42 K13 hK13 x3 x3 s12 h _ _ ls hP hD hS (lv_sub hl [1, 2, 0, 3] rfl)
  have hL13 : ∀ k_ : Nat, ∀ (x2 : Int32) (x3 : Int32) (s1 : St), fX10_take_L13 nF k1 k_ x2 x3 s1 = some (r, s') → ∀ (H : Heap) (locs : List Loc) (ls : Array Slot), va_P D vwCl (wc cA ad a fr s1) H → va_D A (wc cA ad a fr s1) → va_S A s.heap H locs → lv_has ls 4 [(0, .ref (a 212)), (1, .ref (a k1)), (2, .int x2), (3, .int x3)] → W p l e (RM 1) s m args below meth c H locs 0 0 (MQ below (gQi D (TYS cA) A (wc cA ad a fr) r s') args s 0 0 A) (F0 m 13 ls []) := by
    intro k_
    induction k_ with
    | zero => intro x2 x3 s1 h; cases h
    | succ k_ ih => exact hB13 (fX10_take_L13 nF k1 k_) ih
  unfold fX10_take at h
  refine lv_aload_n hx hb dX10_take_0 rfl (lv_at hl 0 rfl) ?_
  refine gfX10_15 G hP dX10_take_1 ?_
  refine lv_if_gt (tgt := 9) hx hb dX10_take_4 (by decide) (fun c15 => ?_) (fun c15 => ?_)
  · replace h := it_t c15 h
    refine lv_iconst (v := 0) hx hb dX10_take_9 (by decide) ?_
    refine lv_istore_n (lv' := [(2, .int 0), (0, .ref (a 212)), (1, .ref (a k1))]) hx hb dX10_take_10 rfl hl (by decide) rfl (fun ls hl => ?_)
    refine lv_iconst (v := 1) hx hb dX10_take_11 (by decide) ?_
    refine lv_istore_n (lv' := [(3, .int 1), (2, .int 0), (0, .ref (a 212)), (1, .ref (a k1))]) hx hb dX10_take_12 rfl hl (by decide) rfl (fun ls hl => ?_)
    exact hL13 nF 0 1 s0 h _ _ ls hP hD hS (lv_sub hl [2, 3, 1, 0] rfl)
  · replace h := it_f c15 h
    refine lv_iconst (v := (-1)) hx hb dX10_take_7 (by decide) ?_
    exact g_ret G hP hD hS h rfl dX10_take_8
noncomputable def fX3_push (nF : Nat) (k1 : Nat) (s0 : St) : Option (Int32 × St) :=
  BND (s0 210 1) 8 <|
  OB (fX6_copyFrom nF (57 + 19 * (s0 210 1).toNatClampNeg) k1 s0) fun r2 s3 =>
  OB (fJ9_floorMod_7cf53 ((s3 210 1) + 1) 8 s3) fun r5 s6 =>
  LET (u2 s6 210 1 r5) fun s8 =>
  OB (fJ9_min_7cf53 ((s8 210 2) + 1) 8 s8) fun r9 s10 =>
  LET (u2 s10 210 2 r9) fun s12 =>
  some (0, s12)
set_option maxHeartbeats 4000000 in
set_option maxRecDepth 100000 in
theorem mX3_push (l : Launch) (D : va_G) (cA : Nat → ClassId) (ad adF adW tt a : Nat → Nat) (fr : va_W) (ST : gST) (hT : STE ad adF adW tt ST) (nF : Nat) (k1 : Nat) (hk1 : isM k1) (s0 : St) (r : Int32) (s' : St) (h : fX3_push nF k1 s0 = some (r, s')) : gMet l yX3_push cX3_push 2 none 4 D (TYS cA) ST (wc cA ad a fr s0) [.ref (a 210), .ref (a k1)] (fun A => gQv D (TYS cA) A (wc cA ad a fr) s') := by
  refine g_ofW hT.1 (by decide +kernel) (Nat.le_of_ble_eq_true rfl) ?_
  intro p e s m args below meth c ls A G hP hD hl
  have G : GC p s m args meth c cX3_push 2 RX3 none A D (TYS cA) ST := G
  have hx := G.1
  have hb := G.2.1
  have hS : va_S A s.heap s.heap [] := va_S.rf
  have hl : lv_has ls 2 [(0, .ref (a 210)), (1, .ref (a k1))] := hl
  unfold fX3_push at h
  refine lv_aload_n hx hb dX3_push_0 rfl (lv_at hl 0 rfl) ?_
  refine gfX3_11 G hP dX3_push_1 ?_
  refine lv_aload_n hx hb dX3_push_4 rfl (lv_at hl 0 rfl) ?_
  refine gfX3_17 G hP dX3_push_5 ?_
  obtain ⟨b1, h⟩ := bnd_e h
  refine g_aald (t := 4) G hP 211 (by decide) sc_211 rfl b1 dX3_push_8 ?_
  refine lv_aload_n hx hb dX3_push_9 rfl (lv_at hl 1 rfl) ?_
  obtain ⟨r2, s3, g4, h⟩ := ob_e h
  refine g_callVv (nA := 1) (mX6_copyFrom l D cA ad adF adW tt a fr ST hT nF (57 + 19 * (s0 210 1).toNatClampNeg) k1 (isM_h (vp_lt b1)) hk1 s0 r2 s3 g4) G hP hD hS (g_good q3_10 q3_11 q3_12 q1_2 q3_13) (by decide +kernel) (by decide) (ltM_0 (isM_h (vp_lt b1))) (sM_0 (isM_h (vp_lt b1))) rfl rfl hl.1 [] rfl (Nat.le_of_ble_eq_true rfl) dX3_push_10 (fun H locs hP hD hS => ?_)
  refine lv_aload_n hx hb dX3_push_13 rfl (lv_at hl 0 rfl) ?_
  refine lv_aload_n hx hb dX3_push_14 rfl (lv_at hl 0 rfl) ?_
  refine gfX3_17 G hP dX3_push_15 ?_
  refine lv_iconst (v := 1) hx hb dX3_push_18 (by decide) ?_
  refine lv_iadd hx hb dX3_push_19 ?_
  refine lv_bipush (v := 8) hx hb dX3_push_20 (by decide) ?_
  obtain ⟨r5, s6, g7, h⟩ := ob_e h
  refine g_callSXi (nA := 2) (mJ9_floorMod_7cf53 l D cA ad adF adW tt a fr ST hT ((s3 210 1) + 1) 8 s3 r5 s6 g7) G hP hD hS (g_goodSX q3_32 q3_33 q1_28 q3_34) (by decide +kernel) (by decide) rfl hl.1 [.ref (a 210)] rfl (Nat.le_of_ble_eq_true rfl) dX3_push_22 (fun H locs hP hD hS => ?_)
  refine pfX3_17 G hP hD hS dX3_push_25 (fun s8 es8 H locs hP hD hS => ?_)
  replace h := let_e es8 h
  refine lv_aload_n hx hb dX3_push_28 rfl (lv_at hl 0 rfl) ?_
  refine lv_aload_n hx hb dX3_push_29 rfl (lv_at hl 0 rfl) ?_
  refine gfX3_21 G hP dX3_push_30 ?_
  refine lv_iconst (v := 1) hx hb dX3_push_33 (by decide) ?_
  refine lv_iadd hx hb dX3_push_34 ?_
  refine lv_bipush (v := 8) hx hb dX3_push_35 (by decide) ?_
  obtain ⟨r9, s10, g11, h⟩ := ob_e h
  refine g_callSXi (nA := 2) (mJ9_min_7cf53 l D cA ad adF adW tt a fr ST hT ((s8 210 2) + 1) 8 s8 r9 s10 g11) G hP hD hS (g_goodSX q3_35 q3_36 q1_28 q3_37) (by decide +kernel) (by decide) rfl hl.1 [.ref (a 210)] rfl (Nat.le_of_ble_eq_true rfl) dX3_push_37 (fun H locs hP hD hS => ?_)
  refine pfX3_21 G hP hD hS dX3_push_40 (fun s12 es12 H locs hP hD hS => ?_)
  replace h := let_e es12 h
  exact g_vret G hP hD hS h dX3_push_43
noncomputable def fX3_popInto (nF : Nat) (k1 : Nat) (s0 : St) : Option (Int32 × St) :=
  OB (fJ9_floorMod_7cf53 ((s0 210 1) - 1) 8 s0) fun r1 s2 =>
  LET (u2 s2 210 1 r1) fun s4 =>
  BND (s4 210 1) 8 <|
  OB (fX6_copyFrom nF k1 (57 + 19 * (s4 210 1).toNatClampNeg) s4) fun r6 s7 =>
  LET (u2 s7 210 2 ((s7 210 2) - 1)) fun s9 =>
  some (0, s9)
set_option maxHeartbeats 4000000 in
set_option maxRecDepth 100000 in
theorem mX3_popInto (l : Launch) (D : va_G) (cA : Nat → ClassId) (ad adF adW tt a : Nat → Nat) (fr : va_W) (ST : gST) (hT : STE ad adF adW tt ST) (nF : Nat) (k1 : Nat) (hk1 : isM k1) (s0 : St) (r : Int32) (s' : St) (h : fX3_popInto nF k1 s0 = some (r, s')) : gMet l yX3_popInto cX3_popInto 2 none 4 D (TYS cA) ST (wc cA ad a fr s0) [.ref (a 210), .ref (a k1)] (fun A => gQv D (TYS cA) A (wc cA ad a fr) s') := by
  refine g_ofW hT.1 (by decide +kernel) (Nat.le_of_ble_eq_true rfl) ?_
  intro p e s m args below meth c ls A G hP hD hl
  have G : GC p s m args meth c cX3_popInto 2 RX3 none A D (TYS cA) ST := G
  have hx := G.1
  have hb := G.2.1
  have hS : va_S A s.heap s.heap [] := va_S.rf
  have hl : lv_has ls 2 [(0, .ref (a 210)), (1, .ref (a k1))] := hl
  unfold fX3_popInto at h
  refine lv_aload_n hx hb dX3_popInto_0 rfl (lv_at hl 0 rfl) ?_
  refine lv_aload_n hx hb dX3_popInto_1 rfl (lv_at hl 0 rfl) ?_
  refine gfX3_17 G hP dX3_popInto_2 ?_
  refine lv_iconst (v := 1) hx hb dX3_popInto_5 (by decide) ?_
  refine lv_isub hx hb dX3_popInto_6 ?_
  refine lv_bipush (v := 8) hx hb dX3_popInto_7 (by decide) ?_
  obtain ⟨r1, s2, g3, h⟩ := ob_e h
  refine g_callSXi (nA := 2) (mJ9_floorMod_7cf53 l D cA ad adF adW tt a fr ST hT ((s0 210 1) - 1) 8 s0 r1 s2 g3) G hP hD hS (g_goodSX q3_32 q3_33 q1_28 q3_34) (by decide +kernel) (by decide) rfl hl.1 [.ref (a 210)] rfl (Nat.le_of_ble_eq_true rfl) dX3_popInto_9 (fun H locs hP hD hS => ?_)
  refine pfX3_17 G hP hD hS dX3_popInto_12 (fun s4 es4 H locs hP hD hS => ?_)
  replace h := let_e es4 h
  refine lv_aload_n hx hb dX3_popInto_15 rfl (lv_at hl 1 rfl) ?_
  refine lv_aload_n hx hb dX3_popInto_16 rfl (lv_at hl 0 rfl) ?_
  refine gfX3_11 G hP dX3_popInto_17 ?_
  refine lv_aload_n hx hb dX3_popInto_20 rfl (lv_at hl 0 rfl) ?_
  refine gfX3_17 G hP dX3_popInto_21 ?_
  obtain ⟨b5, h⟩ := bnd_e h
  refine g_aald (t := 4) G hP 211 (by decide) sc_211 rfl b5 dX3_popInto_24 ?_
  obtain ⟨r6, s7, g8, h⟩ := ob_e h
  refine g_callVv (nA := 1) (mX6_copyFrom l D cA ad adF adW tt a fr ST hT nF k1 (57 + 19 * (s4 210 1).toNatClampNeg) hk1 (isM_h (vp_lt b5)) s4 r6 s7 g8) G hP hD hS (g_good q3_10 q3_11 q3_12 q1_2 q3_13) (by decide +kernel) (by decide) (ltM_0 hk1) (sM_0 hk1) rfl rfl hl.1 [] rfl (Nat.le_of_ble_eq_true rfl) dX3_popInto_25 (fun H locs hP hD hS => ?_)
  refine lv_aload_n hx hb dX3_popInto_28 rfl (lv_at hl 0 rfl) ?_
  refine lv_dup hx hb dX3_popInto_29 rfl ?_
  refine gfX3_21 G hP dX3_popInto_30 ?_
  refine lv_iconst (v := 1) hx hb dX3_popInto_33 (by decide) ?_
  refine lv_isub hx hb dX3_popInto_34 ?_
  refine pfX3_21 G hP hD hS dX3_popInto_35 (fun s9 es9 H locs hP hD hS => ?_)
  replace h := let_e es9 h
  exact g_vret G hP hD hS h dX3_popInto_38
noncomputable def fX3_forget (s0 : St) : Option (Int32 × St) :=
  LET (u2 s0 210 2 0) fun s1 =>
  some (0, s1)
set_option maxHeartbeats 4000000 in
set_option maxRecDepth 100000 in
theorem mX3_forget (l : Launch) (D : va_G) (cA : Nat → ClassId) (ad adF adW tt a : Nat → Nat) (fr : va_W) (ST : gST) (hT : STE ad adF adW tt ST) (s0 : St) (r : Int32) (s' : St) (h : fX3_forget s0 = some (r, s')) : gMet l yX3_forget cX3_forget 1 none 0 D (TYS cA) ST (wc cA ad a fr s0) [.ref (a 210)] (fun A => gQv D (TYS cA) A (wc cA ad a fr) s') := by
  refine g_ofW hT.1 (by decide +kernel) (Nat.le_of_ble_eq_true rfl) ?_
  intro p e s m args below meth c ls A G hP hD hl
  have G : GC p s m args meth c cX3_forget 1 RX3 none A D (TYS cA) ST := G
  have hx := G.1
  have hb := G.2.1
  have hS : va_S A s.heap s.heap [] := va_S.rf
  have hl : lv_has ls 1 [(0, .ref (a 210))] := hl
  unfold fX3_forget at h
  refine lv_aload_n hx hb dX3_forget_0 rfl (lv_at hl 0 rfl) ?_
  refine lv_iconst (v := 0) hx hb dX3_forget_1 (by decide) ?_
  refine pfX3_21 G hP hD hS dX3_forget_2 (fun s1 es1 H locs hP hD hS => ?_)
  replace h := let_e es1 h
  exact g_vret G hP hD hS h dX3_forget_5
noncomputable def fX8_skip (p1 : Int32) (s0 : St) : Option (Int32 × St) :=
  if (s0 214 1) ≤ (s0 214 2) then
    some (0, s0)
  else
    BND (s0 214 2) 60 <|
    if (s0 215 (s0 214 2).toNatClampNeg) = p1 then
      LET (u2 s0 214 2 ((s0 214 2) + 1)) fun s4 =>
      some (1, s4)
    else
      some (0, s0)
set_option maxHeartbeats 4000000 in
set_option maxRecDepth 100000 in
theorem mX8_skip (l : Launch) (D : va_G) (cA : Nat → ClassId) (ad adF adW tt a : Nat → Nat) (fr : va_W) (ST : gST) (hT : STE ad adF adW tt ST) (p1 : Int32) (s0 : St) (r : Int32) (s' : St) (h : fX8_skip p1 s0 = some (r, s')) : gMet l yX8_skip cX8_skip 2 (some .boolean) 0 D (TYS cA) ST (wc cA ad a fr s0) [.ref (a 214), .int p1] (fun A => gQi D (TYS cA) A (wc cA ad a fr) r s') := by
  refine g_ofW hT.1 (by decide +kernel) (Nat.le_of_ble_eq_true rfl) ?_
  intro p e s m args below meth c ls A G hP hD hl
  have G : GC p s m args meth c cX8_skip 2 RX8 (some .boolean) A D (TYS cA) ST := G
  have hx := G.1
  have hb := G.2.1
  have hS : va_S A s.heap s.heap [] := va_S.rf
  have hl : lv_has ls 2 [(0, .ref (a 214)), (1, .int p1)] := hl
  unfold fX8_skip at h
  refine lv_aload_n hx hb dX8_skip_0 rfl (lv_at hl 0 rfl) ?_
  refine gfX8_19 G hP dX8_skip_1 ?_
  refine lv_aload_n hx hb dX8_skip_4 rfl (lv_at hl 0 rfl) ?_
  refine gfX8_15 G hP dX8_skip_5 ?_
  refine lv_icmp_ge (tgt := 24) hx hb dX8_skip_8 (by decide) (fun c1 => ?_) (fun c1 => ?_)
  · replace h := it_t c1 h
    refine lv_iconst (v := 0) hx hb dX8_skip_24 (by decide) ?_
    exact g_ret G hP hD hS h rfl dX8_skip_25
  · replace h := it_f c1 h
    refine lv_aload_n hx hb dX8_skip_11 rfl (lv_at hl 0 rfl) ?_
    refine gfX8_9 G hP dX8_skip_12 ?_
    refine lv_aload_n hx hb dX8_skip_15 rfl (lv_at hl 0 rfl) ?_
    refine gfX8_19 G hP dX8_skip_16 ?_
    obtain ⟨b2, h⟩ := bnd_e h
    refine g_ald (t := 1) (ty := .char) (Or.inr (Or.inl rfl)) G hP 215 (by decide) sc_215 rfl b2 dX8_skip_19 ?_
    refine lv_iload_n hx hb dX8_skip_20 rfl (lv_at hl 1 rfl) ?_
    refine lv_icmp_eq (tgt := 26) hx hb dX8_skip_21 (by decide) (fun c3 => ?_) (fun c3 => ?_)
    · replace h := it_t c3 h
      refine lv_aload_n hx hb dX8_skip_26 rfl (lv_at hl 0 rfl) ?_
      refine lv_dup hx hb dX8_skip_27 rfl ?_
      refine gfX8_19 G hP dX8_skip_28 ?_
      refine lv_iconst (v := 1) hx hb dX8_skip_31 (by decide) ?_
      refine lv_iadd hx hb dX8_skip_32 ?_
      refine pfX8_19 G hP hD hS dX8_skip_33 (fun s4 es4 H locs hP hD hS => ?_)
      replace h := let_e es4 h
      refine lv_iconst (v := 1) hx hb dX8_skip_36 (by decide) ?_
      exact g_ret G hP hD hS h rfl dX8_skip_37
    · replace h := it_f c3 h
      refine lv_iconst (v := 0) hx hb dX8_skip_24 (by decide) ?_
      exact g_ret G hP hD hS h rfl dX8_skip_25
noncomputable def fX8_isDigitNext (s0 : St) : Option (Int32 × St) :=
  if (s0 214 1) ≤ (s0 214 2) then
    some (0, s0)
  else
    BND (s0 214 2) 60 <|
    if (s0 215 (s0 214 2).toNatClampNeg) < 48 then
      some (0, s0)
    else
      BND (s0 214 2) 60 <|
      if 57 < (s0 215 (s0 214 2).toNatClampNeg) then
        some (0, s0)
      else
        some (1, s0)
set_option maxHeartbeats 4000000 in
set_option maxRecDepth 100000 in
theorem mX8_isDigitNext (l : Launch) (D : va_G) (cA : Nat → ClassId) (ad adF adW tt a : Nat → Nat) (fr : va_W) (ST : gST) (hT : STE ad adF adW tt ST) (s0 : St) (r : Int32) (s' : St) (h : fX8_isDigitNext s0 = some (r, s')) : gMet l yX8_isDigitNext cX8_isDigitNext 1 (some .boolean) 0 D (TYS cA) ST (wc cA ad a fr s0) [.ref (a 214)] (fun A => gQi D (TYS cA) A (wc cA ad a fr) r s') := by
  refine g_ofW hT.1 (by decide +kernel) (Nat.le_of_ble_eq_true rfl) ?_
  intro p e s m args below meth c ls A G hP hD hl
  have G : GC p s m args meth c cX8_isDigitNext 1 RX8 (some .boolean) A D (TYS cA) ST := G
  have hx := G.1
  have hb := G.2.1
  have hS : va_S A s.heap s.heap [] := va_S.rf
  have hl : lv_has ls 1 [(0, .ref (a 214))] := hl
  unfold fX8_isDigitNext at h
  refine lv_aload_n hx hb dX8_isDigitNext_0 rfl (lv_at hl 0 rfl) ?_
  refine gfX8_19 G hP dX8_isDigitNext_1 ?_
  refine lv_aload_n hx hb dX8_isDigitNext_4 rfl (lv_at hl 0 rfl) ?_
  refine gfX8_15 G hP dX8_isDigitNext_5 ?_
  refine lv_icmp_ge (tgt := 43) hx hb dX8_isDigitNext_8 (by decide) (fun c1 => ?_) (fun c1 => ?_)
  · replace h := it_t c1 h
    refine lv_iconst (v := 0) hx hb dX8_isDigitNext_43 (by decide) ?_
    exact g_ret G hP hD hS h rfl dX8_isDigitNext_44
  · replace h := it_f c1 h
    refine lv_aload_n hx hb dX8_isDigitNext_11 rfl (lv_at hl 0 rfl) ?_
    refine gfX8_9 G hP dX8_isDigitNext_12 ?_
    refine lv_aload_n hx hb dX8_isDigitNext_15 rfl (lv_at hl 0 rfl) ?_
    refine gfX8_19 G hP dX8_isDigitNext_16 ?_
    obtain ⟨b2, h⟩ := bnd_e h
    refine g_ald (t := 1) (ty := .char) (Or.inr (Or.inl rfl)) G hP 215 (by decide) sc_215 rfl b2 dX8_isDigitNext_19 ?_
    refine lv_bipush (v := 48) hx hb dX8_isDigitNext_20 (by decide) ?_
    refine lv_icmp_lt (tgt := 43) hx hb dX8_isDigitNext_22 (by decide) (fun c3 => ?_) (fun c3 => ?_)
    · replace h := it_t c3 h
      refine lv_iconst (v := 0) hx hb dX8_isDigitNext_43 (by decide) ?_
      exact g_ret G hP hD hS h rfl dX8_isDigitNext_44
    · replace h := it_f c3 h
      refine lv_aload_n hx hb dX8_isDigitNext_25 rfl (lv_at hl 0 rfl) ?_
      refine gfX8_9 G hP dX8_isDigitNext_26 ?_
      refine lv_aload_n hx hb dX8_isDigitNext_29 rfl (lv_at hl 0 rfl) ?_
      refine gfX8_19 G hP dX8_isDigitNext_30 ?_
      obtain ⟨b4, h⟩ := bnd_e h
      refine g_ald (t := 1) (ty := .char) (Or.inr (Or.inl rfl)) G hP 215 (by decide) sc_215 rfl b4 dX8_isDigitNext_33 ?_
      refine lv_bipush (v := 57) hx hb dX8_isDigitNext_34 (by decide) ?_
      refine lv_icmp_gt (tgt := 43) hx hb dX8_isDigitNext_36 (by decide) (fun c5 => ?_) (fun c5 => ?_)
      · replace h := it_t c5 h
        refine lv_iconst (v := 0) hx hb dX8_isDigitNext_43 (by decide) ?_
        exact g_ret G hP hD hS h rfl dX8_isDigitNext_44
      · replace h := it_f c5 h
        refine lv_iconst (v := 1) hx hb dX8_isDigitNext_39 (by decide) ?_
        refine lv_goto (tgt := 44) hx hb dX8_isDigitNext_40 (by decide) ?_
        exact g_ret G hP hD hS h rfl dX8_isDigitNext_44
noncomputable def fX8_readDigit (s0 : St) : Option (Int32 × St) :=
  if (s0 214 2) < (s0 214 1) then
    BND (s0 214 2) 60 <|
    LET ((s0 215 (s0 214 2).toNatClampNeg) - 48) fun y3 =>
    LET (u2 s0 214 2 ((s0 214 2) + 1)) fun s4 =>
    some (y3, s4)
  else
    some (0, s0)
set_option maxHeartbeats 4000000 in
set_option maxRecDepth 100000 in
theorem mX8_readDigit (l : Launch) (D : va_G) (cA : Nat → ClassId) (ad adF adW tt a : Nat → Nat) (fr : va_W) (ST : gST) (hT : STE ad adF adW tt ST) (s0 : St) (r : Int32) (s' : St) (h : fX8_readDigit s0 = some (r, s')) : gMet l yX8_readDigit cX8_readDigit 2 (some .int) 0 D (TYS cA) ST (wc cA ad a fr s0) [.ref (a 214)] (fun A => gQi D (TYS cA) A (wc cA ad a fr) r s') := by
  refine g_ofW hT.1 (by decide +kernel) (Nat.le_of_ble_eq_true rfl) ?_
  intro p e s m args below meth c ls A G hP hD hl
  have G : GC p s m args meth c cX8_readDigit 2 RX8 (some .int) A D (TYS cA) ST := G
  have hx := G.1
  have hb := G.2.1
  have hS : va_S A s.heap s.heap [] := va_S.rf
  have hl : lv_has ls 2 [(0, .ref (a 214))] := hl
  unfold fX8_readDigit at h
  refine lv_aload_n hx hb dX8_readDigit_0 rfl (lv_at hl 0 rfl) ?_
  refine gfX8_19 G hP dX8_readDigit_1 ?_
  refine lv_aload_n hx hb dX8_readDigit_4 rfl (lv_at hl 0 rfl) ?_
  refine gfX8_15 G hP dX8_readDigit_5 ?_
  refine lv_icmp_lt (tgt := 13) hx hb dX8_readDigit_8 (by decide) (fun c1 => ?_) (fun c1 => ?_)
  · replace h := it_t c1 h
    refine lv_aload_n hx hb dX8_readDigit_13 rfl (lv_at hl 0 rfl) ?_
    refine gfX8_9 G hP dX8_readDigit_14 ?_
    refine lv_aload_n hx hb dX8_readDigit_17 rfl (lv_at hl 0 rfl) ?_
    refine gfX8_19 G hP dX8_readDigit_18 ?_
    obtain ⟨b2, h⟩ := bnd_e h
    refine g_ald (t := 1) (ty := .char) (Or.inr (Or.inl rfl)) G hP 215 (by decide) sc_215 rfl b2 dX8_readDigit_21 ?_
    refine lv_bipush (v := 48) hx hb dX8_readDigit_22 (by decide) ?_
    refine lv_isub hx hb dX8_readDigit_24 ?_
    refine lv_topi (fun y3 ey3 => ?_)
    replace h := let_e ey3 h
    refine lv_istore_n (lv' := [(1, .int y3), (0, .ref (a 214))]) hx hb dX8_readDigit_25 rfl hl (by decide) rfl (fun ls hl => ?_)
    refine lv_aload_n hx hb dX8_readDigit_26 rfl (lv_at hl 1 rfl) ?_
    refine lv_dup hx hb dX8_readDigit_27 rfl ?_
    refine gfX8_19 G hP dX8_readDigit_28 ?_
    refine lv_iconst (v := 1) hx hb dX8_readDigit_31 (by decide) ?_
    refine lv_iadd hx hb dX8_readDigit_32 ?_
    refine pfX8_19 G hP hD hS dX8_readDigit_33 (fun s4 es4 H locs hP hD hS => ?_)
    replace h := let_e es4 h
    refine lv_iload_n hx hb dX8_readDigit_36 rfl (lv_at hl 0 rfl) ?_
    exact g_ret G hP hD hS h rfl dX8_readDigit_37
  · replace h := it_f c1 h
    refine lv_iconst (v := 0) hx hb dX8_readDigit_11 (by decide) ?_
    exact g_ret G hP hD hS h rfl dX8_readDigit_12
noncomputable def fX8_readLastNumber_B75 (k1 : Nat) (x3 : Int32) (x4 : Int32) (s1 : St) : Option (Int32 × St) :=
  BND x3 3 <|
  LET (u2 s1 (k1 + 1) x3.toNatClampNeg x4) fun s2 =>
  some (1, s2)
noncomputable def fX8_readLastNumber (k1 : Nat) (p2 : Int32) (s0 : St) : Option (Int32 × St) :=
  BND p2 8 <|
  LET (kDig.getD p2.toNatClampNeg 0) fun y4 =>
  if y4 < 3 then
    OB (fX8_skip 32 s0) fun r6 s7 =>
    if r6 = 0 then
      BND y4 3 <|
      LET (u2 s7 (k1 + 1) y4.toNatClampNeg 1) fun s26 =>
      BND p2 8 <|
      if (kNee.getD p2.toNatClampNeg 0) = 0 then
        some (1, s26)
      else
        some (0, s26)
    else
      OB (fX8_isDigitNext s7) fun r10 s11 =>
      if r10 = 0 then
        some (0, s11)
      else
        OB (fX8_readDigit s11) fun r14 s15 =>
        OB (fX8_isDigitNext s15) fun r17 s18 =>
        if r17 = 0 then
          fX8_readLastNumber_B75 k1 y4 r14 s18
        else
          OB (fX8_readDigit s18) fun r21 s22 =>
          LET ((r14 * 10) + r21) fun y24 =>
          fX8_readLastNumber_B75 k1 y4 y24 s22
  else
    some (0, s0)
set_option maxHeartbeats 4000000 in
set_option maxRecDepth 100000 in
theorem mX8_readLastNumber (l : Launch) (D : va_G) (cA : Nat → ClassId) (ad adF adW tt a : Nat → Nat) (fr : va_W) (ST : gST) (hT : STE ad adF adW tt ST) (k1 : Nat) (hk1 : isC k1) (p2 : Int32) (s0 : St) (r : Int32) (s' : St) (h : fX8_readLastNumber k1 p2 s0 = some (r, s')) : gMet l yX8_readLastNumber cX8_readLastNumber 5 (some .boolean) 1 D (TYS cA) ST (wc cA ad a fr s0) [.ref (a 214), .ref (a k1), .ref (ad p2.toNatClampNeg)] (fun A => gQi D (TYS cA) A (wc cA ad a fr) r s') := by
  refine g_ofW hT.1 (by decide +kernel) (Nat.le_of_ble_eq_true rfl) ?_
  intro p e s m args below meth c ls A G hP hD hl
  have G : GC p s m args meth c cX8_readLastNumber 5 RX8 (some .boolean) A D (TYS cA) ST := G
  have hx := G.1
  have hb := G.2.1
  have hS : va_S A s.heap s.heap [] := va_S.rf
  have hl : lv_has ls 5 [(0, .ref (a 214)), (1, .ref (a k1)), (2, .ref (ad p2.toNatClampNeg))] := hl
  have hB75 : ∀ (x3 : Int32) (x4 : Int32) (s1 : St), fX8_readLastNumber_B75 k1 x3 x4 s1 = some (r, s') → ∀ (H : Heap) (locs : List Loc) (ls : Array Slot), va_P D vwCl (wc cA ad a fr s1) H → va_D A (wc cA ad a fr s1) → va_S A s.heap H locs → lv_has ls 5 [(1, .ref (a k1)), (3, .int x3), (4, .int x4)] → W p l e (RM 1) s m args below meth c H locs 0 0 (MQ below (gQi D (TYS cA) A (wc cA ad a fr) r s') args s 0 0 A) (F0 m 75 ls []) := by
    intro x3 x4 s1 h H locs ls hP hD hS hl
    unfold fX8_readLastNumber_B75 at h
    refine lv_aload_n hx hb dX8_readLastNumber_75 rfl (lv_at hl 0 rfl) ?_
    refine gfX8_60 hk1 G hP dX8_readLastNumber_76 ?_
    refine lv_iload_n hx hb dX8_readLastNumber_79 rfl (lv_at hl 1 rfl) ?_
    refine lv_iload hx hb dX8_readLastNumber_80 (lv_at hl 2 rfl) ?_
    obtain ⟨b1, h⟩ := bnd_e h
    refine g_ast (t := 0) (ty := .int) (Or.inl rfl) G hP hD hS (k1 + 1) (ltC_1 hk1) (sC_1 hk1) rfl b1 dX8_readLastNumber_82 (fun s2 es2 H locs hP hD hS => ?_)
    replace h := let_e es2 h
    refine lv_iconst (v := 1) hx hb dX8_readLastNumber_83 (by decide) ?_
    exact g_ret G hP hD hS h rfl dX8_readLastNumber_84
  unfold fX8_readLastNumber at h
  refine lv_aload_n hx hb dX8_readLastNumber_0 rfl (lv_at hl 2 rfl) ?_
  obtain ⟨b3, h⟩ := bnd_e h
  refine g_getEN (L := kDig) (hT.2 _ _ G.2.2.2.2.2.2.2.2.2.2.1).2.1 (by decide) _ (vp_lt b3) G hS (nf_37 G.2.2.2.2.2.2.2.2.2.1) dX8_readLastNumber_1 ?_
  refine lv_topi (fun y4 ey4 => ?_)
  replace h := let_e ey4 h
  refine lv_istore_n (lv' := [(3, .int y4), (0, .ref (a 214)), (1, .ref (a k1)), (2, .ref (ad p2.toNatClampNeg))]) hx hb dX8_readLastNumber_4 rfl hl (by decide) rfl (fun ls hl => ?_)
  refine lv_iload_n hx hb dX8_readLastNumber_5 rfl (lv_at hl 0 rfl) ?_
  refine lv_iconst (v := 3) hx hb dX8_readLastNumber_6 (by decide) ?_
  refine lv_icmp_lt (tgt := 12) hx hb dX8_readLastNumber_7 (by decide) (fun c5 => ?_) (fun c5 => ?_)
  · replace h := it_t c5 h
    refine lv_aload_n hx hb dX8_readLastNumber_12 rfl (lv_at hl 1 rfl) ?_
    refine lv_bipush (v := 32) hx hb dX8_readLastNumber_13 (by decide) ?_
    obtain ⟨r6, s7, g8, h⟩ := ob_e h
    refine g_callVi (nA := 1) (mX8_skip l D cA ad adF adW tt a fr ST hT 32 s0 r6 s7 g8) G hP hD hS (g_good q5_8 q5_10 qs_17 q1_8 q5_11) (by decide +kernel) (by decide) (by decide) sc_214 rfl rfl hl.1 [] rfl (Nat.le_of_ble_eq_true rfl) dX8_readLastNumber_15 (fun H locs hP hD hS => ?_)
    refine lv_if_ne (tgt := 41) hx hb dX8_readLastNumber_18 (by decide) (fun c9 => ?_) (fun c9 => ?_)
    · replace h := it_f c9 h
      refine lv_aload_n hx hb dX8_readLastNumber_41 rfl (lv_at hl 1 rfl) ?_
      obtain ⟨r10, s11, g12, h⟩ := ob_e h
      refine g_callVi (nA := 0) (mX8_isDigitNext l D cA ad adF adW tt a fr ST hT s7 r10 s11 g12) G hP hD hS (g_good q5_12 q5_14 qs_18 q1_8 q5_15) (by decide +kernel) (by decide) (by decide) sc_214 rfl rfl hl.1 [] rfl (Nat.le_of_ble_eq_true rfl) dX8_readLastNumber_42 (fun H locs hP hD hS => ?_)
      refine lv_if_ne (tgt := 50) hx hb dX8_readLastNumber_45 (by decide) (fun c13 => ?_) (fun c13 => ?_)
      · replace h := it_f c13 h
        refine lv_aload_n hx hb dX8_readLastNumber_50 rfl (lv_at hl 1 rfl) ?_
        obtain ⟨r14, s15, g16, h⟩ := ob_e h
        refine g_callVi (nA := 0) (mX8_readDigit l D cA ad adF adW tt a fr ST hT s11 r14 s15 g16) G hP hD hS (g_good q5_16 q5_18 qs_19 q1_8 q5_19) (by decide +kernel) (by decide) (by decide) sc_214 rfl rfl hl.1 [] rfl (Nat.le_of_ble_eq_true rfl) dX8_readLastNumber_51 (fun H locs hP hD hS => ?_)
        refine lv_istore (lv' := [(4, .int r14), (3, .int y4), (0, .ref (a 214)), (1, .ref (a k1)), (2, .ref (ad p2.toNatClampNeg))]) hx hb dX8_readLastNumber_54 hl (by decide) rfl (fun ls hl => ?_)
        refine lv_aload_n hx hb dX8_readLastNumber_56 rfl (lv_at hl 2 rfl) ?_
        obtain ⟨r17, s18, g19, h⟩ := ob_e h
        refine g_callVi (nA := 0) (mX8_isDigitNext l D cA ad adF adW tt a fr ST hT s15 r17 s18 g19) G hP hD hS (g_good q5_12 q5_14 qs_18 q1_8 q5_15) (by decide +kernel) (by decide) (by decide) sc_214 rfl rfl hl.1 [] rfl (Nat.le_of_ble_eq_true rfl) dX8_readLastNumber_57 (fun H locs hP hD hS => ?_)
        refine lv_if_eq (tgt := 75) hx hb dX8_readLastNumber_60 (by decide) (fun c20 => ?_) (fun c20 => ?_)
        · replace h := it_t c20 h
          exact hB75 y4 r14 s18 h _ _ ls hP hD hS (lv_sub hl [3, 1, 0] rfl)
        · replace h := it_f c20 h
          refine lv_iload hx hb dX8_readLastNumber_63 (lv_at hl 0 rfl) ?_
          refine lv_bipush (v := 10) hx hb dX8_readLastNumber_65 (by decide) ?_
          refine lv_imul hx hb dX8_readLastNumber_67 ?_
          refine lv_aload_n hx hb dX8_readLastNumber_68 rfl (lv_at hl 2 rfl) ?_
          obtain ⟨r21, s22, g23, h⟩ := ob_e h
          refine g_callVi (nA := 0) (mX8_readDigit l D cA ad adF adW tt a fr ST hT s18 r21 s22 g23) G hP hD hS (g_good q5_16 q5_18 qs_19 q1_8 q5_19) (by decide +kernel) (by decide) (by decide) sc_214 rfl rfl hl.1 [.int (r14 * 10)] rfl (Nat.le_of_ble_eq_true rfl) dX8_readLastNumber_69 (fun H locs hP hD hS => ?_)
          refine lv_iadd hx hb dX8_readLastNumber_72 ?_
          refine lv_topi (fun y24 ey24 => ?_)
          replace h := let_e ey24 h
          refine lv_istore (lv' := [(4, .int y24), (3, .int y4), (0, .ref (a 214)), (1, .ref (a k1)), (2, .ref (ad p2.toNatClampNeg))]) hx hb dX8_readLastNumber_73 hl (by decide) rfl (fun ls hl => ?_)
          exact hB75 y4 y24 s22 h _ _ ls hP hD hS (lv_sub hl [3, 1, 0] rfl)
      · replace h := it_t c13 h
        refine lv_iconst (v := 0) hx hb dX8_readLastNumber_48 (by decide) ?_
        exact g_ret G hP hD hS h rfl dX8_readLastNumber_49
    · replace h := it_t c9 h
      refine lv_aload_n hx hb dX8_readLastNumber_21 rfl (lv_at hl 2 rfl) ?_
      refine gfX8_60 hk1 G hP dX8_readLastNumber_22 ?_
      refine lv_iload_n hx hb dX8_readLastNumber_25 rfl (lv_at hl 0 rfl) ?_
      refine lv_iconst (v := 1) hx hb dX8_readLastNumber_26 (by decide) ?_
      obtain ⟨b25, h⟩ := bnd_e h
      refine g_ast (t := 0) (ty := .int) (Or.inl rfl) G hP hD hS (k1 + 1) (ltC_1 hk1) (sC_1 hk1) rfl b25 dX8_readLastNumber_27 (fun s26 es26 H locs hP hD hS => ?_)
      replace h := let_e es26 h
      refine lv_aload_n hx hb dX8_readLastNumber_28 rfl (lv_at hl 3 rfl) ?_
      obtain ⟨b27, h⟩ := bnd_e h
      refine g_getEN (L := kNee) (hT.2 _ _ G.2.2.2.2.2.2.2.2.2.2.1).2.1 (by decide) _ (vp_lt b27) G hS (nf_39 G.2.2.2.2.2.2.2.2.2.1) dX8_readLastNumber_29 ?_
      refine lv_if_ne (tgt := 39) hx hb dX8_readLastNumber_32 (by decide) (fun c28 => ?_) (fun c28 => ?_)
      · replace h := it_f c28 h
        refine lv_iconst (v := 0) hx hb dX8_readLastNumber_39 (by decide) ?_
        exact g_ret G hP hD hS h rfl dX8_readLastNumber_40
      · replace h := it_t c28 h
        refine lv_iconst (v := 1) hx hb dX8_readLastNumber_35 (by decide) ?_
        refine lv_goto (tgt := 40) hx hb dX8_readLastNumber_36 (by decide) ?_
        exact g_ret G hP hD hS h rfl dX8_readLastNumber_40
  · replace h := it_f c5 h
    refine lv_iconst (v := 0) hx hb dX8_readLastNumber_10 (by decide) ?_
    exact g_ret G hP hD hS h rfl dX8_readLastNumber_11
noncomputable def fX8_empty (s0 : St) : Option (Int32 × St) :=
  LET (u2 s0 214 1 0) fun s1 =>
  some (0, s1)
set_option maxHeartbeats 4000000 in
set_option maxRecDepth 100000 in
theorem mX8_empty (l : Launch) (D : va_G) (cA : Nat → ClassId) (ad adF adW tt a : Nat → Nat) (fr : va_W) (ST : gST) (hT : STE ad adF adW tt ST) (s0 : St) (r : Int32) (s' : St) (h : fX8_empty s0 = some (r, s')) : gMet l yX8_empty cX8_empty 1 none 0 D (TYS cA) ST (wc cA ad a fr s0) [.ref (a 214)] (fun A => gQv D (TYS cA) A (wc cA ad a fr) s') := by
  refine g_ofW hT.1 (by decide +kernel) (Nat.le_of_ble_eq_true rfl) ?_
  intro p e s m args below meth c ls A G hP hD hl
  have G : GC p s m args meth c cX8_empty 1 RX8 none A D (TYS cA) ST := G
  have hx := G.1
  have hb := G.2.1
  have hS : va_S A s.heap s.heap [] := va_S.rf
  have hl : lv_has ls 1 [(0, .ref (a 214))] := hl
  unfold fX8_empty at h
  refine lv_aload_n hx hb dX8_empty_0 rfl (lv_at hl 0 rfl) ?_
  refine lv_iconst (v := 0) hx hb dX8_empty_1 (by decide) ?_
  refine pfX8_15 G hP hD hS dX8_empty_2 (fun s1 es1 H locs hP hD hS => ?_)
  replace h := let_e es1 h
  exact g_vret G hP hD hS h dX8_empty_5
noncomputable def fX8_isFull (s0 : St) : Option (Int32 × St) :=
  if (s0 214 1) < 60 then
    some (0, s0)
  else
    some (1, s0)
set_option maxHeartbeats 4000000 in
set_option maxRecDepth 100000 in
theorem mX8_isFull (l : Launch) (D : va_G) (cA : Nat → ClassId) (ad adF adW tt a : Nat → Nat) (fr : va_W) (ST : gST) (hT : STE ad adF adW tt ST) (s0 : St) (r : Int32) (s' : St) (h : fX8_isFull s0 = some (r, s')) : gMet l yX8_isFull cX8_isFull 1 (some .boolean) 0 D (TYS cA) ST (wc cA ad a fr s0) [.ref (a 214)] (fun A => gQi D (TYS cA) A (wc cA ad a fr) r s') := by
  refine g_ofW hT.1 (by decide +kernel) (Nat.le_of_ble_eq_true rfl) ?_
  intro p e s m args below meth c ls A G hP hD hl
  have G : GC p s m args meth c cX8_isFull 1 RX8 (some .boolean) A D (TYS cA) ST := G
  have hx := G.1
  have hb := G.2.1
  have hS : va_S A s.heap s.heap [] := va_S.rf
  have hl : lv_has ls 1 [(0, .ref (a 214))] := hl
  unfold fX8_isFull at h
  refine lv_aload_n hx hb dX8_isFull_0 rfl (lv_at hl 0 rfl) ?_
  refine gfX8_15 G hP dX8_isFull_1 ?_
  refine lv_bipush (v := 60) hx hb dX8_isFull_4 (by decide) ?_
  refine lv_icmp_lt (tgt := 13) hx hb dX8_isFull_6 (by decide) (fun c1 => ?_) (fun c1 => ?_)
  · replace h := it_t c1 h
    refine lv_iconst (v := 0) hx hb dX8_isFull_13 (by decide) ?_
    exact g_ret G hP hD hS h rfl dX8_isFull_14
  · replace h := it_f c1 h
    refine lv_iconst (v := 1) hx hb dX8_isFull_9 (by decide) ?_
    refine lv_goto (tgt := 14) hx hb dX8_isFull_10 (by decide) ?_
    exact g_ret G hP hD hS h rfl dX8_isFull_14
noncomputable def fX8_append (p1 : Int32) (s0 : St) : Option (Int32 × St) :=
  OB (fX8_isFull s0) fun r1 s2 =>
  if r1 = 0 then
    BND (s2 214 1) 60 <|
    LET (u2 s2 215 (s2 214 1).toNatClampNeg (vp_nar .char p1)) fun s6 =>
    LET (u2 s6 214 1 ((s6 214 1) + 1)) fun s7 =>
    some (s7 214 1, s7)
  else
    some (s2 214 1, s2)
set_option maxHeartbeats 4000000 in
set_option maxRecDepth 100000 in
theorem mX8_append (l : Launch) (D : va_G) (cA : Nat → ClassId) (ad adF adW tt a : Nat → Nat) (fr : va_W) (ST : gST) (hT : STE ad adF adW tt ST) (p1 : Int32) (s0 : St) (r : Int32) (s' : St) (h : fX8_append p1 s0 = some (r, s')) : gMet l yX8_append cX8_append 2 (some .int) 1 D (TYS cA) ST (wc cA ad a fr s0) [.ref (a 214), .int p1] (fun A => gQi D (TYS cA) A (wc cA ad a fr) r s') := by
  refine g_ofW hT.1 (by decide +kernel) (Nat.le_of_ble_eq_true rfl) ?_
  intro p e s m args below meth c ls A G hP hD hl
  have G : GC p s m args meth c cX8_append 2 RX8 (some .int) A D (TYS cA) ST := G
  have hx := G.1
  have hb := G.2.1
  have hS : va_S A s.heap s.heap [] := va_S.rf
  have hl : lv_has ls 2 [(0, .ref (a 214)), (1, .int p1)] := hl
  unfold fX8_append at h
  refine lv_aload_n hx hb dX8_append_0 rfl (lv_at hl 0 rfl) ?_
  obtain ⟨r1, s2, g3, h⟩ := ob_e h
  refine g_callVi (nA := 0) (mX8_isFull l D cA ad adF adW tt a fr ST hT s0 r1 s2 g3) G hP hD hS (g_good q5_137 q5_129 q5_130 q1_8 q5_131) (by decide +kernel) (by decide) (by decide) sc_214 rfl rfl hl.1 [] rfl (Nat.le_of_ble_eq_true rfl) dX8_append_1 (fun H locs hP hD hS => ?_)
  refine lv_if_ne (tgt := 27) hx hb dX8_append_4 (by decide) (fun c4 => ?_) (fun c4 => ?_)
  · replace h := it_f c4 h
    refine lv_aload_n hx hb dX8_append_27 rfl (lv_at hl 0 rfl) ?_
    refine gfX8_15 G hP dX8_append_28 ?_
    exact g_ret G hP hD hS h rfl dX8_append_31
  · replace h := it_t c4 h
    refine lv_aload_n hx hb dX8_append_7 rfl (lv_at hl 0 rfl) ?_
    refine gfX8_9 G hP dX8_append_8 ?_
    refine lv_aload_n hx hb dX8_append_11 rfl (lv_at hl 0 rfl) ?_
    refine gfX8_15 G hP dX8_append_12 ?_
    refine lv_iload_n hx hb dX8_append_15 rfl (lv_at hl 1 rfl) ?_
    obtain ⟨b5, h⟩ := bnd_e h
    refine g_ast (t := 1) (ty := .char) (Or.inr (Or.inl rfl)) G hP hD hS 215 (by decide) sc_215 rfl b5 dX8_append_16 (fun s6 es6 H locs hP hD hS => ?_)
    replace h := let_e es6 h
    refine lv_aload_n hx hb dX8_append_17 rfl (lv_at hl 0 rfl) ?_
    refine lv_dup hx hb dX8_append_18 rfl ?_
    refine gfX8_15 G hP dX8_append_19 ?_
    refine lv_iconst (v := 1) hx hb dX8_append_22 (by decide) ?_
    refine lv_iadd hx hb dX8_append_23 ?_
    refine pfX8_15 G hP hD hS dX8_append_24 (fun s7 es7 H locs hP hD hS => ?_)
    replace h := let_e es7 h
    refine lv_aload_n hx hb dX8_append_27 rfl (lv_at hl 0 rfl) ?_
    refine gfX8_15 G hP dX8_append_28 ?_
    exact g_ret G hP hD hS h rfl dX8_append_31
noncomputable def fX11_waitingCount (s0 : St) : Option (Int32 × St) :=
  some (s0 (0 + 1) 5, s0)
set_option maxHeartbeats 4000000 in
set_option maxRecDepth 100000 in
theorem mX11_waitingCount (l : Launch) (D : va_G) (cA : Nat → ClassId) (ad adF adW tt a : Nat → Nat) (fr : va_W) (ST : gST) (hT : STE ad adF adW tt ST) (s0 : St) (r : Int32) (s' : St) (h : fX11_waitingCount s0 = some (r, s')) : gMet l yX11_waitingCount cX11_waitingCount 1 (some .int) 0 D (TYS cA) ST (wc cA ad a fr s0) [.ref (a 209)] (fun A => gQi D (TYS cA) A (wc cA ad a fr) r s') := by
  refine g_ofW hT.1 (by decide +kernel) (Nat.le_of_ble_eq_true rfl) ?_
  intro p e s m args below meth c ls A G hP hD hl
  have G : GC p s m args meth c cX11_waitingCount 1 RX11 (some .int) A D (TYS cA) ST := G
  have hx := G.1
  have hb := G.2.1
  have hS : va_S A s.heap s.heap [] := va_S.rf
  have hl : lv_has ls 1 [(0, .ref (a 209))] := hl
  unfold fX11_waitingCount at h
  refine lv_aload_n hx hb dX11_waitingCount_0 rfl (lv_at hl 0 rfl) ?_
  refine gfX11_10 G hP dX11_waitingCount_1 ?_
  refine gfX11_126 isM_0 G hP dX11_waitingCount_4 ?_
  refine gfX11_130 (mN isM_0) G hP dX11_waitingCount_7 ?_
  exact g_ret G hP hD hS h rfl dX11_waitingCount_10
noncomputable def fX11_slotAtRank_L36b (nF : Nat) (K36 : Int32 → Int32 → St → Option (Int32 × St)) (x1 : Int32) (x2 : Int32) (s1 : St) : Option (Int32 × St) :=
  if x1 ≤ x2 then
    OB (fX10_take nF (0 + 1) s1) fun r2 s3 =>
    some (r2, s3)
  else
    OB (fX10_take nF (0 + 1) s1) fun r5 s6 =>
    LET (x2 + 1) fun y8 =>
    K36 x1 y8 s6
noncomputable def fX11_slotAtRank_L36 (nF : Nat) : Nat → Int32 → Int32 → St → Option (Int32 × St) := fun k_ => Nat.rec (fun _ _ _ => none) (fun _ K => fX11_slotAtRank_L36b nF K) k_
theorem fX11_slotAtRank_L36_s (nF : Nat) (k_ : Nat) : fX11_slotAtRank_L36 nF (k_ + 1) = fX11_slotAtRank_L36b nF (fX11_slotAtRank_L36 nF k_) := rfl
noncomputable def fX11_slotAtRank (nF : Nat) (p1 : Int32) (s0 : St) : Option (Int32 × St) :=
  if p1 < 0 then
    some ((-1), s0)
  else
    if p1 < (s0 (0 + 1) 5) then
      OB (fX10_fill nF (0 + 1) s0) fun r11 s12 =>
      fX11_slotAtRank_L36 nF nF p1 0 s12
    else
      some ((-1), s0)
set_option maxHeartbeats 4000000 in
set_option maxRecDepth 100000 in
theorem mX11_slotAtRank (l : Launch) (D : va_G) (cA : Nat → ClassId) (ad adF adW tt a : Nat → Nat) (fr : va_W) (ST : gST) (hT : STE ad adF adW tt ST) (nF : Nat) (p1 : Int32) (s0 : St) (r : Int32) (s' : St) (h : fX11_slotAtRank nF p1 s0 = some (r, s')) : gMet l yX11_slotAtRank cX11_slotAtRank 3 (some .int) 2 D (TYS cA) ST (wc cA ad a fr s0) [.ref (a 209), .int p1] (fun A => gQi D (TYS cA) A (wc cA ad a fr) r s') := by
  refine g_ofW hT.1 (by decide +kernel) (Nat.le_of_ble_eq_true rfl) ?_
  intro p e s m args below meth c ls A G hP hD hl
  have G : GC p s m args meth c cX11_slotAtRank 3 RX11 (some .int) A D (TYS cA) ST := G
  have hx := G.1
  have hb := G.2.1
  have hS : va_S A s.heap s.heap [] := va_S.rf
  have hl : lv_has ls 3 [(0, .ref (a 209)), (1, .int p1)] := hl
  have hB36 : ∀ (K36 : Int32 → Int32 → St → Option (Int32 × St)), (∀ (x1 : Int32) (x2 : Int32) (s1 : St), K36 x1 x2 s1 = some (r, s') → ∀ (H : Heap) (locs : List Loc) (ls : Array Slot), va_P D vwCl (wc cA ad a fr s1) H → va_D A (wc cA ad a fr s1) → va_S A s.heap H locs → lv_has ls 3 [(0, .ref (a 209)), (1, .int x1), (2, .int x2)] → W p l e (RM 2) s m args below meth c H locs 0 0 (MQ below (gQi D (TYS cA) A (wc cA ad a fr) r s') args s 0 0 A) (F0 m 36 ls [])) → ∀ (x1 : Int32) (x2 : Int32) (s1 : St), fX11_slotAtRank_L36b nF K36 x1 x2 s1 = some (r, s') → ∀ (H : Heap) (locs : List Loc) (ls : Array Slot), va_P D vwCl (wc cA ad a fr s1) H → va_D A (wc cA ad a fr s1) → va_S A s.heap H locs → lv_has ls 3 [(0, .ref (a 209)), (1, .int x1), (2, .int x2)] → W p l e (RM 2) s m args below meth c H locs 0 0 (MQ below (gQi D (TYS cA) A (wc cA ad a fr) r s') args s 0 0 A) (F0 m 36 ls []) := by
    intro K36 hK36 x1 x2 s1 h H locs ls hP hD hS hl
    unfold fX11_slotAtRank_L36b at h
    refine lv_iload_n hx hb dX11_slotAtRank_36 rfl (lv_at hl 2 rfl) ?_
    refine lv_iload_n hx hb dX11_slotAtRank_37 rfl (lv_at hl 1 rfl) ?_
    refine lv_icmp_ge (tgt := 62) hx hb dX11_slotAtRank_38 (by decide) (fun c1 => ?_) (fun c1 => ?_)
    · replace h := it_t c1 h
      refine lv_aload_n hx hb dX11_slotAtRank_62 rfl (lv_at hl 0 rfl) ?_
      refine gfX11_36 G hP dX11_slotAtRank_63 ?_
      refine lv_aload_n hx hb dX11_slotAtRank_66 rfl (lv_at hl 0 rfl) ?_
      refine gfX11_10 G hP dX11_slotAtRank_67 ?_
      refine gfX11_126 isM_0 G hP dX11_slotAtRank_70 ?_
      obtain ⟨r2, s3, g4, h⟩ := ob_e h
      refine g_callVi (nA := 1) (mX10_take l D cA ad adF adW tt a fr ST hT nF (0 + 1) (mN isM_0) s1 r2 s3 g4) G hP hD hS (g_good q3_174 q3_175 q3_176 q1_7 q3_177) (by decide +kernel) (by decide) (by decide) sc_212 rfl rfl hl.1 [] rfl (Nat.le_of_ble_eq_true rfl) dX11_slotAtRank_73 (fun H locs hP hD hS => ?_)
      exact g_ret G hP hD hS h rfl dX11_slotAtRank_76
    · replace h := it_f c1 h
      refine lv_aload_n hx hb dX11_slotAtRank_41 rfl (lv_at hl 0 rfl) ?_
      refine gfX11_36 G hP dX11_slotAtRank_42 ?_
      refine lv_aload_n hx hb dX11_slotAtRank_45 rfl (lv_at hl 0 rfl) ?_
      refine gfX11_10 G hP dX11_slotAtRank_46 ?_
      refine gfX11_126 isM_0 G hP dX11_slotAtRank_49 ?_
      obtain ⟨r5, s6, g7, h⟩ := ob_e h
      refine g_callVi (nA := 1) (mX10_take l D cA ad adF adW tt a fr ST hT nF (0 + 1) (mN isM_0) s1 r5 s6 g7) G hP hD hS (g_good q3_174 q3_175 q3_176 q1_7 q3_177) (by decide +kernel) (by decide) (by decide) sc_212 rfl rfl hl.1 [] rfl (Nat.le_of_ble_eq_true rfl) dX11_slotAtRank_52 (fun H locs hP hD hS => ?_)
      refine lv_pop hx hb dX11_slotAtRank_55 rfl ?_
      obtain ⟨y8, ey8⟩ : ∃ y : Int32, y = x2 + 1 := ⟨_, rfl⟩
      replace h := let_e ey8 h
      refine lv_iinc (v := y8) (lv' := [(2, .int y8), (0, .ref (a 209)), (1, .int x1)]) hx hb dX11_slotAtRank_56 hl (k := 2) rfl (by rw [ey8]; rfl) (by decide) rfl (fun ls hl => ?_)
      refine lv_goto (tgt := 36) hx hb dX11_slotAtRank_59 (by decide) ?_
      exact hK36 x1 y8 s6 h _ _ ls hP hD hS (lv_sub hl [1, 2, 0] rfl)
  have hL36 : ∀ k_ : Nat, ∀ (x1 : Int32) (x2 : Int32) (s1 : St), fX11_slotAtRank_L36 nF k_ x1 x2 s1 = some (r, s') → ∀ (H : Heap) (locs : List Loc) (ls : Array Slot), va_P D vwCl (wc cA ad a fr s1) H → va_D A (wc cA ad a fr s1) → va_S A s.heap H locs → lv_has ls 3 [(0, .ref (a 209)), (1, .int x1), (2, .int x2)] → W p l e (RM 2) s m args below meth c H locs 0 0 (MQ below (gQi D (TYS cA) A (wc cA ad a fr) r s') args s 0 0 A) (F0 m 36 ls []) := by
    intro k_
    induction k_ with
    | zero => intro x1 x2 s1 h; cases h
    | succ k_ ih => exact hB36 (fX11_slotAtRank_L36 nF k_) ih
  unfold fX11_slotAtRank at h
  refine lv_iload_n hx hb dX11_slotAtRank_0 rfl (lv_at hl 1 rfl) ?_
  refine lv_if_lt (tgt := 18) hx hb dX11_slotAtRank_1 (by decide) (fun c9 => ?_) (fun c9 => ?_)
  · replace h := it_t c9 h
    refine lv_iconst (v := (-1)) hx hb dX11_slotAtRank_18 (by decide) ?_
    exact g_ret G hP hD hS h rfl dX11_slotAtRank_19
  · replace h := it_f c9 h
    refine lv_iload_n hx hb dX11_slotAtRank_4 rfl (lv_at hl 1 rfl) ?_
    refine lv_aload_n hx hb dX11_slotAtRank_5 rfl (lv_at hl 0 rfl) ?_
    refine gfX11_10 G hP dX11_slotAtRank_6 ?_
    refine gfX11_126 isM_0 G hP dX11_slotAtRank_9 ?_
    refine gfX11_130 (mN isM_0) G hP dX11_slotAtRank_12 ?_
    refine lv_icmp_lt (tgt := 20) hx hb dX11_slotAtRank_15 (by decide) (fun c10 => ?_) (fun c10 => ?_)
    · replace h := it_t c10 h
      refine lv_aload_n hx hb dX11_slotAtRank_20 rfl (lv_at hl 0 rfl) ?_
      refine gfX11_36 G hP dX11_slotAtRank_21 ?_
      refine lv_aload_n hx hb dX11_slotAtRank_24 rfl (lv_at hl 0 rfl) ?_
      refine gfX11_10 G hP dX11_slotAtRank_25 ?_
      refine gfX11_126 isM_0 G hP dX11_slotAtRank_28 ?_
      obtain ⟨r11, s12, g13, h⟩ := ob_e h
      refine g_callVv (nA := 1) (mX10_fill l D cA ad adF adW tt a fr ST hT nF (0 + 1) (mN isM_0) s0 r11 s12 g13) G hP hD hS (g_good q3_169 q3_170 q3_171 q1_7 q3_172) (by decide +kernel) (by decide) (by decide) sc_212 rfl rfl hl.1 [] rfl (Nat.le_of_ble_eq_true rfl) dX11_slotAtRank_31 (fun H locs hP hD hS => ?_)
      refine lv_iconst (v := 0) hx hb dX11_slotAtRank_34 (by decide) ?_
      refine lv_istore_n (lv' := [(2, .int 0), (0, .ref (a 209)), (1, .int p1)]) hx hb dX11_slotAtRank_35 rfl hl (by decide) rfl (fun ls hl => ?_)
      exact hL36 nF p1 0 s12 h _ _ ls hP hD hS (lv_sub hl [1, 2, 0] rfl)
    · replace h := it_f c10 h
      refine lv_iconst (v := (-1)) hx hb dX11_slotAtRank_18 (by decide) ?_
      exact g_ret G hP hD hS h rfl dX11_slotAtRank_19
noncomputable def fX11_exists (nF : Nat) (p1 : Int32) (s0 : St) : Option (Int32 × St) :=
  OB (fX7_slotOf nF (0 + 1) p1 s0) fun r1 s2 =>
  if r1 = (-1) then
    some (0, s2)
  else
    some (1, s2)
set_option maxHeartbeats 4000000 in
set_option maxRecDepth 100000 in
theorem mX11_exists (l : Launch) (D : va_G) (cA : Nat → ClassId) (ad adF adW tt a : Nat → Nat) (fr : va_W) (ST : gST) (hT : STE ad adF adW tt ST) (nF : Nat) (p1 : Int32) (s0 : St) (r : Int32) (s' : St) (h : fX11_exists nF p1 s0 = some (r, s')) : gMet l yX11_exists cX11_exists 2 (some .boolean) 2 D (TYS cA) ST (wc cA ad a fr s0) [.ref (a 209), .int p1] (fun A => gQi D (TYS cA) A (wc cA ad a fr) r s') := by
  refine g_ofW hT.1 (by decide +kernel) (Nat.le_of_ble_eq_true rfl) ?_
  intro p e s m args below meth c ls A G hP hD hl
  have G : GC p s m args meth c cX11_exists 2 RX11 (some .boolean) A D (TYS cA) ST := G
  have hx := G.1
  have hb := G.2.1
  have hS : va_S A s.heap s.heap [] := va_S.rf
  have hl : lv_has ls 2 [(0, .ref (a 209)), (1, .int p1)] := hl
  unfold fX11_exists at h
  refine lv_aload_n hx hb dX11_exists_0 rfl (lv_at hl 0 rfl) ?_
  refine gfX11_10 G hP dX11_exists_1 ?_
  refine gfX11_126 isM_0 G hP dX11_exists_4 ?_
  refine lv_iload_n hx hb dX11_exists_7 rfl (lv_at hl 1 rfl) ?_
  obtain ⟨r1, s2, g3, h⟩ := ob_e h
  refine g_callVi (nA := 1) (mX7_slotOf l D cA ad adF adW tt a fr ST hT nF (0 + 1) (mN isM_0) p1 s0 r1 s2 g3) G hP hD hS (g_good q3_188 q3_189 q3_190 q1_3 q3_191) (by decide +kernel) (by decide) (ltN_0 (mN isM_0)) (sN_0 (mN isM_0)) rfl rfl hl.1 [] rfl (Nat.le_of_ble_eq_true rfl) dX11_exists_8 (fun H locs hP hD hS => ?_)
  refine lv_iconst (v := (-1)) hx hb dX11_exists_11 (by decide) ?_
  refine lv_icmp_eq (tgt := 19) hx hb dX11_exists_12 (by decide) (fun c4 => ?_) (fun c4 => ?_)
  · replace h := it_t c4 h
    refine lv_iconst (v := 0) hx hb dX11_exists_19 (by decide) ?_
    exact g_ret G hP hD hS h rfl dX11_exists_20
  · replace h := it_f c4 h
    refine lv_iconst (v := 1) hx hb dX11_exists_15 (by decide) ?_
    refine lv_goto (tgt := 20) hx hb dX11_exists_16 (by decide) ?_
    exact g_ret G hP hD hS h rfl dX11_exists_20
noncomputable def fX11_groundTotal (s0 : St) : Option (Int32 × St) :=
  some (s0 (0 + 7) 4, s0)
set_option maxHeartbeats 4000000 in
set_option maxRecDepth 100000 in
theorem mX11_groundTotal (l : Launch) (D : va_G) (cA : Nat → ClassId) (ad adF adW tt a : Nat → Nat) (fr : va_W) (ST : gST) (hT : STE ad adF adW tt ST) (s0 : St) (r : Int32) (s' : St) (h : fX11_groundTotal s0 = some (r, s')) : gMet l yX11_groundTotal cX11_groundTotal 1 (some .int) 0 D (TYS cA) ST (wc cA ad a fr s0) [.ref (a 209)] (fun A => gQi D (TYS cA) A (wc cA ad a fr) r s') := by
  refine g_ofW hT.1 (by decide +kernel) (Nat.le_of_ble_eq_true rfl) ?_
  intro p e s m args below meth c ls A G hP hD hl
  have G : GC p s m args meth c cX11_groundTotal 1 RX11 (some .int) A D (TYS cA) ST := G
  have hx := G.1
  have hb := G.2.1
  have hS : va_S A s.heap s.heap [] := va_S.rf
  have hl : lv_has ls 1 [(0, .ref (a 209))] := hl
  unfold fX11_groundTotal at h
  refine lv_aload_n hx hb dX11_groundTotal_0 rfl (lv_at hl 0 rfl) ?_
  refine gfX11_10 G hP dX11_groundTotal_1 ?_
  refine gfX11_208 isM_0 G hP dX11_groundTotal_4 ?_
  refine gfX11_246 (mS isM_0) G hP dX11_groundTotal_7 ?_
  exact g_ret G hP hD hS h rfl dX11_groundTotal_10
noncomputable def fX11_groundByParts (nF : Nat) (s0 : St) : Option (Int32 × St) :=
  OB (fX9_recordedAndLost nF (0 + 7) s0) fun r1 s2 =>
  some (r1, s2)
set_option maxHeartbeats 4000000 in
set_option maxRecDepth 100000 in
theorem mX11_groundByParts (l : Launch) (D : va_G) (cA : Nat → ClassId) (ad adF adW tt a : Nat → Nat) (fr : va_W) (ST : gST) (hT : STE ad adF adW tt ST) (nF : Nat) (s0 : St) (r : Int32) (s' : St) (h : fX11_groundByParts nF s0 = some (r, s')) : gMet l yX11_groundByParts cX11_groundByParts 1 (some .int) 2 D (TYS cA) ST (wc cA ad a fr s0) [.ref (a 209)] (fun A => gQi D (TYS cA) A (wc cA ad a fr) r s') := by
  refine g_ofW hT.1 (by decide +kernel) (Nat.le_of_ble_eq_true rfl) ?_
  intro p e s m args below meth c ls A G hP hD hl
  have G : GC p s m args meth c cX11_groundByParts 1 RX11 (some .int) A D (TYS cA) ST := G
  have hx := G.1
  have hb := G.2.1
  have hS : va_S A s.heap s.heap [] := va_S.rf
  have hl : lv_has ls 1 [(0, .ref (a 209))] := hl
  unfold fX11_groundByParts at h
  refine lv_aload_n hx hb dX11_groundByParts_0 rfl (lv_at hl 0 rfl) ?_
  refine gfX11_10 G hP dX11_groundByParts_1 ?_
  refine gfX11_208 isM_0 G hP dX11_groundByParts_4 ?_
  obtain ⟨r1, s2, g3, h⟩ := ob_e h
  refine g_callVi (nA := 0) (mX9_recordedAndLost l D cA ad adF adW tt a fr ST hT nF (0 + 7) (mS isM_0) s0 r1 s2 g3) G hP hD hS (g_good q4_45 q4_46 q4_47 q1_4 q4_48) (by decide +kernel) (by decide) (ltS_0 (mS isM_0)) (sS_0 (mS isM_0)) rfl rfl hl.1 [] rfl (Nat.le_of_ble_eq_true rfl) dX11_groundByParts_7 (fun H locs hP hD hS => ?_)
  exact g_ret G hP hD hS h rfl dX11_groundByParts_10
noncomputable def fX11_lostInSieves (s0 : St) : Option (Int32 × St) :=
  some (s0 (0 + 7) 5, s0)
set_option maxHeartbeats 4000000 in
set_option maxRecDepth 100000 in
theorem mX11_lostInSieves (l : Launch) (D : va_G) (cA : Nat → ClassId) (ad adF adW tt a : Nat → Nat) (fr : va_W) (ST : gST) (hT : STE ad adF adW tt ST) (s0 : St) (r : Int32) (s' : St) (h : fX11_lostInSieves s0 = some (r, s')) : gMet l yX11_lostInSieves cX11_lostInSieves 1 (some .int) 0 D (TYS cA) ST (wc cA ad a fr s0) [.ref (a 209)] (fun A => gQi D (TYS cA) A (wc cA ad a fr) r s') := by
  refine g_ofW hT.1 (by decide +kernel) (Nat.le_of_ble_eq_true rfl) ?_
  intro p e s m args below meth c ls A G hP hD hl
  have G : GC p s m args meth c cX11_lostInSieves 1 RX11 (some .int) A D (TYS cA) ST := G
  have hx := G.1
  have hb := G.2.1
  have hS : va_S A s.heap s.heap [] := va_S.rf
  have hl : lv_has ls 1 [(0, .ref (a 209))] := hl
  unfold fX11_lostInSieves at h
  refine lv_aload_n hx hb dX11_lostInSieves_0 rfl (lv_at hl 0 rfl) ?_
  refine gfX11_10 G hP dX11_lostInSieves_1 ?_
  refine gfX11_208 isM_0 G hP dX11_lostInSieves_4 ?_
  refine gfX11_252 (mS isM_0) G hP dX11_lostInSieves_7 ?_
  exact g_ret G hP hD hS h rfl dX11_lostInSieves_10
noncomputable def fX11_simulateJam_L13b (nF : Nat) (K13 : Int32 → Int32 → St → Option (Int32 × St)) (x1 : Int32) (x2 : Int32) (s1 : St) : Option (Int32 × St) :=
  if 60 < x2 then
    some ((-1), s1)
  else
    OB (fX6_isStuck 19 x1 s1) fun r2 s3 =>
    if r2 = 0 then
      OB (fX6_pass nF 19 1 s3) fun r6 s7 =>
      LET (x2 + 1) fun y9 =>
      K13 x1 y9 s7
    else
      some (x2, s3)
noncomputable def fX11_simulateJam_L13 (nF : Nat) : Nat → Int32 → Int32 → St → Option (Int32 × St) := fun k_ => Nat.rec (fun _ _ _ => none) (fun _ K => fX11_simulateJam_L13b nF K) k_
theorem fX11_simulateJam_L13_s (nF : Nat) (k_ : Nat) : fX11_simulateJam_L13 nF (k_ + 1) = fX11_simulateJam_L13b nF (fX11_simulateJam_L13 nF k_) := rfl
noncomputable def fX11_simulateJam (nF : Nat) (p1 : Int32) (s0 : St) : Option (Int32 × St) :=
  OB (fX6_copyFrom nF 19 0 s0) fun r10 s11 =>
  fX11_simulateJam_L13 nF nF p1 0 s11
set_option maxHeartbeats 4000000 in
set_option maxRecDepth 100000 in
theorem mX11_simulateJam (l : Launch) (D : va_G) (cA : Nat → ClassId) (ad adF adW tt a : Nat → Nat) (fr : va_W) (ST : gST) (hT : STE ad adF adW tt ST) (nF : Nat) (p1 : Int32) (s0 : St) (r : Int32) (s' : St) (h : fX11_simulateJam nF p1 s0 = some (r, s')) : gMet l yX11_simulateJam cX11_simulateJam 3 (some .int) 4 D (TYS cA) ST (wc cA ad a fr s0) [.ref (a 209), .int p1] (fun A => gQi D (TYS cA) A (wc cA ad a fr) r s') := by
  refine g_ofW hT.1 (by decide +kernel) (Nat.le_of_ble_eq_true rfl) ?_
  intro p e s m args below meth c ls A G hP hD hl
  have G : GC p s m args meth c cX11_simulateJam 3 RX11 (some .int) A D (TYS cA) ST := G
  have hx := G.1
  have hb := G.2.1
  have hS : va_S A s.heap s.heap [] := va_S.rf
  have hl : lv_has ls 3 [(0, .ref (a 209)), (1, .int p1)] := hl
  have hB13 : ∀ (K13 : Int32 → Int32 → St → Option (Int32 × St)), (∀ (x1 : Int32) (x2 : Int32) (s1 : St), K13 x1 x2 s1 = some (r, s') → ∀ (H : Heap) (locs : List Loc) (ls : Array Slot), va_P D vwCl (wc cA ad a fr s1) H → va_D A (wc cA ad a fr s1) → va_S A s.heap H locs → lv_has ls 3 [(0, .ref (a 209)), (1, .int x1), (2, .int x2)] → W p l e (RM 4) s m args below meth c H locs 0 0 (MQ below (gQi D (TYS cA) A (wc cA ad a fr) r s') args s 0 0 A) (F0 m 13 ls [])) → ∀ (x1 : Int32) (x2 : Int32) (s1 : St), fX11_simulateJam_L13b nF K13 x1 x2 s1 = some (r, s') → ∀ (H : Heap) (locs : List Loc) (ls : Array Slot), va_P D vwCl (wc cA ad a fr s1) H → va_D A (wc cA ad a fr s1) → va_S A s.heap H locs → lv_has ls 3 [(0, .ref (a 209)), (1, .int x1), (2, .int x2)] → W p l e (RM 4) s m args below meth c H locs 0 0 (MQ below (gQi D (TYS cA) A (wc cA ad a fr) r s') args s 0 0 A) (F0 m 13 ls []) := by
    intro K13 hK13 x1 x2 s1 h H locs ls hP hD hS hl
    unfold fX11_simulateJam_L13b at h
    refine lv_iload_n hx hb dX11_simulateJam_13 rfl (lv_at hl 2 rfl) ?_
    refine lv_bipush (v := 60) hx hb dX11_simulateJam_14 (by decide) ?_
    refine lv_icmp_gt (tgt := 47) hx hb dX11_simulateJam_16 (by decide) (fun c1 => ?_) (fun c1 => ?_)
    · replace h := it_t c1 h
      refine lv_iconst (v := (-1)) hx hb dX11_simulateJam_47 (by decide) ?_
      exact g_ret G hP hD hS h rfl dX11_simulateJam_48
    · replace h := it_f c1 h
      refine lv_aload_n hx hb dX11_simulateJam_19 rfl (lv_at hl 0 rfl) ?_
      refine gfX11_16 G hP dX11_simulateJam_20 ?_
      refine lv_iload_n hx hb dX11_simulateJam_23 rfl (lv_at hl 1 rfl) ?_
      obtain ⟨r2, s3, g4, h⟩ := ob_e h
      refine g_callVi (nA := 1) (mX6_isStuck l D cA ad adF adW tt a fr ST hT 19 isM_19 x1 s1 r2 s3 g4) G hP hD hS (g_good q4_3 q3_115 q3_116 q1_2 q3_117) (by decide +kernel) (by decide) (ltM_0 isM_19) (sM_0 isM_19) rfl rfl hl.1 [] rfl (Nat.le_of_ble_eq_true rfl) dX11_simulateJam_24 (fun H locs hP hD hS => ?_)
      refine lv_if_eq (tgt := 32) hx hb dX11_simulateJam_27 (by decide) (fun c5 => ?_) (fun c5 => ?_)
      · replace h := it_t c5 h
        refine lv_aload_n hx hb dX11_simulateJam_32 rfl (lv_at hl 0 rfl) ?_
        refine gfX11_16 G hP dX11_simulateJam_33 ?_
        refine lv_iconst (v := 1) hx hb dX11_simulateJam_36 (by decide) ?_
        obtain ⟨r6, s7, g8, h⟩ := ob_e h
        refine g_callVi (nA := 1) (mX6_pass l D cA ad adF adW tt a fr ST hT nF 19 isM_19 1 s3 r6 s7 g8) G hP hD hS (g_good q3_110 q3_111 q3_112 q1_2 q3_113) (by decide +kernel) (by decide) (ltM_0 isM_19) (sM_0 isM_19) rfl rfl hl.1 [] rfl (Nat.le_of_ble_eq_true rfl) dX11_simulateJam_37 (fun H locs hP hD hS => ?_)
        refine lv_pop hx hb dX11_simulateJam_40 rfl ?_
        obtain ⟨y9, ey9⟩ : ∃ y : Int32, y = x2 + 1 := ⟨_, rfl⟩
        replace h := let_e ey9 h
        refine lv_iinc (v := y9) (lv' := [(2, .int y9), (0, .ref (a 209)), (1, .int x1)]) hx hb dX11_simulateJam_41 hl (k := 2) rfl (by rw [ey9]; rfl) (by decide) rfl (fun ls hl => ?_)
        refine lv_goto (tgt := 13) hx hb dX11_simulateJam_44 (by decide) ?_
        exact hK13 x1 y9 s7 h _ _ ls hP hD hS (lv_sub hl [1, 2, 0] rfl)
      · replace h := it_f c5 h
        refine lv_iload_n hx hb dX11_simulateJam_30 rfl (lv_at hl 2 rfl) ?_
        exact g_ret G hP hD hS h rfl dX11_simulateJam_31
  have hL13 : ∀ k_ : Nat, ∀ (x1 : Int32) (x2 : Int32) (s1 : St), fX11_simulateJam_L13 nF k_ x1 x2 s1 = some (r, s') → ∀ (H : Heap) (locs : List Loc) (ls : Array Slot), va_P D vwCl (wc cA ad a fr s1) H → va_D A (wc cA ad a fr s1) → va_S A s.heap H locs → lv_has ls 3 [(0, .ref (a 209)), (1, .int x1), (2, .int x2)] → W p l e (RM 4) s m args below meth c H locs 0 0 (MQ below (gQi D (TYS cA) A (wc cA ad a fr) r s') args s 0 0 A) (F0 m 13 ls []) := by
    intro k_
    induction k_ with
    | zero => intro x1 x2 s1 h; cases h
    | succ k_ ih => exact hB13 (fX11_simulateJam_L13 nF k_) ih
  unfold fX11_simulateJam at h
  refine lv_aload_n hx hb dX11_simulateJam_0 rfl (lv_at hl 0 rfl) ?_
  refine gfX11_16 G hP dX11_simulateJam_1 ?_
  refine lv_aload_n hx hb dX11_simulateJam_4 rfl (lv_at hl 0 rfl) ?_
  refine gfX11_10 G hP dX11_simulateJam_5 ?_
  obtain ⟨r10, s11, g12, h⟩ := ob_e h
  refine g_callVv (nA := 1) (mX6_copyFrom l D cA ad adF adW tt a fr ST hT nF 19 0 isM_19 isM_0 s0 r10 s11 g12) G hP hD hS (g_good q4_65 q3_11 q3_12 q1_2 q3_13) (by decide +kernel) (by decide) (ltM_0 isM_19) (sM_0 isM_19) rfl rfl hl.1 [] rfl (Nat.le_of_ble_eq_true rfl) dX11_simulateJam_8 (fun H locs hP hD hS => ?_)
  refine lv_iconst (v := 0) hx hb dX11_simulateJam_11 (by decide) ?_
  refine lv_istore_n (lv' := [(2, .int 0), (0, .ref (a 209)), (1, .int p1)]) hx hb dX11_simulateJam_12 rfl hl (by decide) rfl (fun ls hl => ?_)
  exact hL13 nF p1 0 s11 h _ _ ls hP hD hS (lv_sub hl [1, 2, 0] rfl)
noncomputable def fX11_doneCount (s0 : St) : Option (Int32 × St) :=
  some (s0 (0 + 12) 3, s0)
set_option maxHeartbeats 4000000 in
set_option maxRecDepth 100000 in
theorem mX11_doneCount (l : Launch) (D : va_G) (cA : Nat → ClassId) (ad adF adW tt a : Nat → Nat) (fr : va_W) (ST : gST) (hT : STE ad adF adW tt ST) (s0 : St) (r : Int32) (s' : St) (h : fX11_doneCount s0 = some (r, s')) : gMet l yX11_doneCount cX11_doneCount 1 (some .int) 0 D (TYS cA) ST (wc cA ad a fr s0) [.ref (a 209)] (fun A => gQi D (TYS cA) A (wc cA ad a fr) r s') := by
  refine g_ofW hT.1 (by decide +kernel) (Nat.le_of_ble_eq_true rfl) ?_
  intro p e s m args below meth c ls A G hP hD hl
  have G : GC p s m args meth c cX11_doneCount 1 RX11 (some .int) A D (TYS cA) ST := G
  have hx := G.1
  have hb := G.2.1
  have hS : va_S A s.heap s.heap [] := va_S.rf
  have hl : lv_has ls 1 [(0, .ref (a 209))] := hl
  unfold fX11_doneCount at h
  refine lv_aload_n hx hb dX11_doneCount_0 rfl (lv_at hl 0 rfl) ?_
  refine gfX11_10 G hP dX11_doneCount_1 ?_
  refine gfX11_278 isM_0 G hP dX11_doneCount_4 ?_
  refine gfX11_282 (mL isM_0) G hP dX11_doneCount_7 ?_
  exact g_ret G hP hD hS h rfl dX11_doneCount_10
noncomputable def fX11_flourAgrees_L2b (nF : Nat) (K2 : Int32 → St → Option (Int32 × St)) (x1 : Int32) (s1 : St) : Option (Int32 × St) :=
  if 4 ≤ x1 then
    some (1, s1)
  else
    BND x1 4 <|
    OB (fX9_recordedLessShipped nF (0 + 7) x1 s1) fun r3 s4 =>
    if (s1 ((0 + 7) + 1) x1.toNatClampNeg) = r3 then
      LET (x1 + 1) fun y7 =>
      K2 y7 s4
    else
      some (0, s4)
noncomputable def fX11_flourAgrees_L2 (nF : Nat) : Nat → Int32 → St → Option (Int32 × St) := fun k_ => Nat.rec (fun _ _ => none) (fun _ K => fX11_flourAgrees_L2b nF K) k_
theorem fX11_flourAgrees_L2_s (nF : Nat) (k_ : Nat) : fX11_flourAgrees_L2 nF (k_ + 1) = fX11_flourAgrees_L2b nF (fX11_flourAgrees_L2 nF k_) := rfl
noncomputable def fX11_flourAgrees (nF : Nat) (s0 : St) : Option (Int32 × St) :=
  fX11_flourAgrees_L2 nF nF 0 s0
set_option maxHeartbeats 4000000 in
set_option maxRecDepth 100000 in
theorem mX11_flourAgrees (l : Launch) (D : va_G) (cA : Nat → ClassId) (ad adF adW tt a : Nat → Nat) (fr : va_W) (ST : gST) (hT : STE ad adF adW tt ST) (nF : Nat) (s0 : St) (r : Int32) (s' : St) (h : fX11_flourAgrees nF s0 = some (r, s')) : gMet l yX11_flourAgrees cX11_flourAgrees 2 (some .boolean) 2 D (TYS cA) ST (wc cA ad a fr s0) [.ref (a 209)] (fun A => gQi D (TYS cA) A (wc cA ad a fr) r s') := by
  refine g_ofW hT.1 (by decide +kernel) (Nat.le_of_ble_eq_true rfl) ?_
  intro p e s m args below meth c ls A G hP hD hl
  have G : GC p s m args meth c cX11_flourAgrees 2 RX11 (some .boolean) A D (TYS cA) ST := G
  have hx := G.1
  have hb := G.2.1
  have hS : va_S A s.heap s.heap [] := va_S.rf
  have hl : lv_has ls 2 [(0, .ref (a 209))] := hl
  have hB2 : ∀ (K2 : Int32 → St → Option (Int32 × St)), (∀ (x1 : Int32) (s1 : St), K2 x1 s1 = some (r, s') → ∀ (H : Heap) (locs : List Loc) (ls : Array Slot), va_P D vwCl (wc cA ad a fr s1) H → va_D A (wc cA ad a fr s1) → va_S A s.heap H locs → lv_has ls 2 [(0, .ref (a 209)), (1, .int x1)] → W p l e (RM 2) s m args below meth c H locs 0 0 (MQ below (gQi D (TYS cA) A (wc cA ad a fr) r s') args s 0 0 A) (F0 m 2 ls [])) → ∀ (x1 : Int32) (s1 : St), fX11_flourAgrees_L2b nF K2 x1 s1 = some (r, s') → ∀ (H : Heap) (locs : List Loc) (ls : Array Slot), va_P D vwCl (wc cA ad a fr s1) H → va_D A (wc cA ad a fr s1) → va_S A s.heap H locs → lv_has ls 2 [(0, .ref (a 209)), (1, .int x1)] → W p l e (RM 2) s m args below meth c H locs 0 0 (MQ below (gQi D (TYS cA) A (wc cA ad a fr) r s') args s 0 0 A) (F0 m 2 ls []) := by
    intro K2 hK2 x1 s1 h H locs ls hP hD hS hl
    unfold fX11_flourAgrees_L2b at h
    refine lv_iload_n hx hb dX11_flourAgrees_2 rfl (lv_at hl 1 rfl) ?_
    refine lv_iconst (v := 4) hx hb dX11_flourAgrees_3 (by decide) ?_
    refine lv_icmp_ge (tgt := 41) hx hb dX11_flourAgrees_4 (by decide) (fun c1 => ?_) (fun c1 => ?_)
    · replace h := it_t c1 h
      refine lv_iconst (v := 1) hx hb dX11_flourAgrees_41 (by decide) ?_
      exact g_ret G hP hD hS h rfl dX11_flourAgrees_42
    · replace h := it_f c1 h
      refine lv_aload_n hx hb dX11_flourAgrees_7 rfl (lv_at hl 0 rfl) ?_
      refine gfX11_10 G hP dX11_flourAgrees_8 ?_
      refine gfX11_208 isM_0 G hP dX11_flourAgrees_11 ?_
      refine gfX11_225 (mS isM_0) G hP dX11_flourAgrees_14 ?_
      refine lv_iload_n hx hb dX11_flourAgrees_17 rfl (lv_at hl 1 rfl) ?_
      obtain ⟨b2, h⟩ := bnd_e h
      refine g_ald (t := 0) (ty := .int) (Or.inl rfl) G hP ((0 + 7) + 1) (ltS_1 (mS isM_0)) (sS_1 (mS isM_0)) rfl b2 dX11_flourAgrees_18 ?_
      refine lv_aload_n hx hb dX11_flourAgrees_19 rfl (lv_at hl 0 rfl) ?_
      refine gfX11_10 G hP dX11_flourAgrees_20 ?_
      refine gfX11_208 isM_0 G hP dX11_flourAgrees_23 ?_
      refine lv_iload_n hx hb dX11_flourAgrees_26 rfl (lv_at hl 1 rfl) ?_
      obtain ⟨r3, s4, g5, h⟩ := ob_e h
      refine g_callVi (nA := 1) (mX9_recordedLessShipped l D cA ad adF adW tt a fr ST hT nF (0 + 7) (mS isM_0) x1 s1 r3 s4 g5) G hP hD hS (g_good q4_28 q4_29 q4_30 q1_4 q4_31) (by decide +kernel) (by decide) (ltS_0 (mS isM_0)) (sS_0 (mS isM_0)) rfl rfl hl.1 [.int (s1 ((0 + 7) + 1) x1.toNatClampNeg)] rfl (Nat.le_of_ble_eq_true rfl) dX11_flourAgrees_27 (fun H locs hP hD hS => ?_)
      refine lv_icmp_eq (tgt := 35) hx hb dX11_flourAgrees_30 (by decide) (fun c6 => ?_) (fun c6 => ?_)
      · replace h := it_t c6 h
        obtain ⟨y7, ey7⟩ : ∃ y : Int32, y = x1 + 1 := ⟨_, rfl⟩
        replace h := let_e ey7 h
        refine lv_iinc (v := y7) (lv' := [(1, .int y7), (0, .ref (a 209))]) hx hb dX11_flourAgrees_35 hl (k := 1) rfl (by rw [ey7]; rfl) (by decide) rfl (fun ls hl => ?_)
        refine lv_goto (tgt := 2) hx hb dX11_flourAgrees_38 (by decide) ?_
        exact hK2 y7 s4 h _ _ ls hP hD hS (lv_sub hl [1, 0] rfl)
      · replace h := it_f c6 h
        refine lv_iconst (v := 0) hx hb dX11_flourAgrees_33 (by decide) ?_
        exact g_ret G hP hD hS h rfl dX11_flourAgrees_34
  have hL2 : ∀ k_ : Nat, ∀ (x1 : Int32) (s1 : St), fX11_flourAgrees_L2 nF k_ x1 s1 = some (r, s') → ∀ (H : Heap) (locs : List Loc) (ls : Array Slot), va_P D vwCl (wc cA ad a fr s1) H → va_D A (wc cA ad a fr s1) → va_S A s.heap H locs → lv_has ls 2 [(0, .ref (a 209)), (1, .int x1)] → W p l e (RM 2) s m args below meth c H locs 0 0 (MQ below (gQi D (TYS cA) A (wc cA ad a fr) r s') args s 0 0 A) (F0 m 2 ls []) := by
    intro k_
    induction k_ with
    | zero => intro x1 s1 h; cases h
    | succ k_ ih => exact hB2 (fX11_flourAgrees_L2 nF k_) ih
  unfold fX11_flourAgrees at h
  refine lv_iconst (v := 0) hx hb dX11_flourAgrees_0 (by decide) ?_
  refine lv_istore_n (lv' := [(1, .int 0), (0, .ref (a 209))]) hx hb dX11_flourAgrees_1 rfl hl (by decide) rfl (fun ls hl => ?_)
  exact hL2 nF 0 s0 h _ _ ls hP hD hS (lv_sub hl [1, 0] rfl)
noncomputable def fX11_simulateDone_L29b (nF : Nat) (K29 : Int32 → Int32 → St → Option (Int32 × St)) (x1 : Int32) (x2 : Int32) (s1 : St) : Option (Int32 × St) :=
  if 60 < x2 then
    some ((-1), s1)
  else
    OB (fX6_isStuck 19 x1 s1) fun r2 s3 =>
    if r2 = 0 then
      OB (fX6_pass nF 19 1 s3) fun r6 s7 =>
      OB (fX7_isHeld (19 + 1) x1 s7) fun r9 s10 =>
      if r9 = 0 then
        some (x2, s10)
      else
        LET (x2 + 1) fun y13 =>
        K29 x1 y13 s10
    else
      some ((-1), s3)
noncomputable def fX11_simulateDone_L29 (nF : Nat) : Nat → Int32 → Int32 → St → Option (Int32 × St) := fun k_ => Nat.rec (fun _ _ _ => none) (fun _ K => fX11_simulateDone_L29b nF K) k_
theorem fX11_simulateDone_L29_s (nF : Nat) (k_ : Nat) : fX11_simulateDone_L29 nF (k_ + 1) = fX11_simulateDone_L29b nF (fX11_simulateDone_L29 nF k_) := rfl
noncomputable def fX11_simulateDone (nF : Nat) (p1 : Int32) (s0 : St) : Option (Int32 × St) :=
  OB (fX7_isHeld (0 + 1) p1 s0) fun r14 s15 =>
  if r14 = 0 then
    some ((-1), s15)
  else
    OB (fX6_copyFrom nF 19 0 s15) fun r18 s19 =>
    fX11_simulateDone_L29 nF nF p1 1 s19
set_option maxHeartbeats 4000000 in
set_option maxRecDepth 100000 in
theorem mX11_simulateDone (l : Launch) (D : va_G) (cA : Nat → ClassId) (ad adF adW tt a : Nat → Nat) (fr : va_W) (ST : gST) (hT : STE ad adF adW tt ST) (nF : Nat) (p1 : Int32) (s0 : St) (r : Int32) (s' : St) (h : fX11_simulateDone nF p1 s0 = some (r, s')) : gMet l yX11_simulateDone cX11_simulateDone 3 (some .int) 4 D (TYS cA) ST (wc cA ad a fr s0) [.ref (a 209), .int p1] (fun A => gQi D (TYS cA) A (wc cA ad a fr) r s') := by
  refine g_ofW hT.1 (by decide +kernel) (Nat.le_of_ble_eq_true rfl) ?_
  intro p e s m args below meth c ls A G hP hD hl
  have G : GC p s m args meth c cX11_simulateDone 3 RX11 (some .int) A D (TYS cA) ST := G
  have hx := G.1
  have hb := G.2.1
  have hS : va_S A s.heap s.heap [] := va_S.rf
  have hl : lv_has ls 3 [(0, .ref (a 209)), (1, .int p1)] := hl
  have hB29 : ∀ (K29 : Int32 → Int32 → St → Option (Int32 × St)), (∀ (x1 : Int32) (x2 : Int32) (s1 : St), K29 x1 x2 s1 = some (r, s') → ∀ (H : Heap) (locs : List Loc) (ls : Array Slot), va_P D vwCl (wc cA ad a fr s1) H → va_D A (wc cA ad a fr s1) → va_S A s.heap H locs → lv_has ls 3 [(0, .ref (a 209)), (1, .int x1), (2, .int x2)] → W p l e (RM 4) s m args below meth c H locs 0 0 (MQ below (gQi D (TYS cA) A (wc cA ad a fr) r s') args s 0 0 A) (F0 m 29 ls [])) → ∀ (x1 : Int32) (x2 : Int32) (s1 : St), fX11_simulateDone_L29b nF K29 x1 x2 s1 = some (r, s') → ∀ (H : Heap) (locs : List Loc) (ls : Array Slot), va_P D vwCl (wc cA ad a fr s1) H → va_D A (wc cA ad a fr s1) → va_S A s.heap H locs → lv_has ls 3 [(0, .ref (a 209)), (1, .int x1), (2, .int x2)] → W p l e (RM 4) s m args below meth c H locs 0 0 (MQ below (gQi D (TYS cA) A (wc cA ad a fr) r s') args s 0 0 A) (F0 m 29 ls []) := by
    intro K29 hK29 x1 x2 s1 h H locs ls hP hD hS hl
    unfold fX11_simulateDone_L29b at h
    refine lv_iload_n hx hb dX11_simulateDone_29 rfl (lv_at hl 2 rfl) ?_
    refine lv_bipush (v := 60) hx hb dX11_simulateDone_30 (by decide) ?_
    refine lv_icmp_gt (tgt := 79) hx hb dX11_simulateDone_32 (by decide) (fun c1 => ?_) (fun c1 => ?_)
    · replace h := it_t c1 h
      refine lv_iconst (v := (-1)) hx hb dX11_simulateDone_79 (by decide) ?_
      exact g_ret G hP hD hS h rfl dX11_simulateDone_80
    · replace h := it_f c1 h
      refine lv_aload_n hx hb dX11_simulateDone_35 rfl (lv_at hl 0 rfl) ?_
      refine gfX11_16 G hP dX11_simulateDone_36 ?_
      refine lv_iload_n hx hb dX11_simulateDone_39 rfl (lv_at hl 1 rfl) ?_
      obtain ⟨r2, s3, g4, h⟩ := ob_e h
      refine g_callVi (nA := 1) (mX6_isStuck l D cA ad adF adW tt a fr ST hT 19 isM_19 x1 s1 r2 s3 g4) G hP hD hS (g_good q4_3 q3_115 q3_116 q1_2 q3_117) (by decide +kernel) (by decide) (ltM_0 isM_19) (sM_0 isM_19) rfl rfl hl.1 [] rfl (Nat.le_of_ble_eq_true rfl) dX11_simulateDone_40 (fun H locs hP hD hS => ?_)
      refine lv_if_eq (tgt := 48) hx hb dX11_simulateDone_43 (by decide) (fun c5 => ?_) (fun c5 => ?_)
      · replace h := it_t c5 h
        refine lv_aload_n hx hb dX11_simulateDone_48 rfl (lv_at hl 0 rfl) ?_
        refine gfX11_16 G hP dX11_simulateDone_49 ?_
        refine lv_iconst (v := 1) hx hb dX11_simulateDone_52 (by decide) ?_
        obtain ⟨r6, s7, g8, h⟩ := ob_e h
        refine g_callVi (nA := 1) (mX6_pass l D cA ad adF adW tt a fr ST hT nF 19 isM_19 1 s3 r6 s7 g8) G hP hD hS (g_good q3_110 q3_111 q3_112 q1_2 q3_113) (by decide +kernel) (by decide) (ltM_0 isM_19) (sM_0 isM_19) rfl rfl hl.1 [] rfl (Nat.le_of_ble_eq_true rfl) dX11_simulateDone_53 (fun H locs hP hD hS => ?_)
        refine lv_pop hx hb dX11_simulateDone_56 rfl ?_
        refine lv_aload_n hx hb dX11_simulateDone_57 rfl (lv_at hl 0 rfl) ?_
        refine gfX11_16 G hP dX11_simulateDone_58 ?_
        refine gfX11_126 isM_19 G hP dX11_simulateDone_61 ?_
        refine lv_iload_n hx hb dX11_simulateDone_64 rfl (lv_at hl 1 rfl) ?_
        obtain ⟨r9, s10, g11, h⟩ := ob_e h
        refine g_callVi (nA := 1) (mX7_isHeld l D cA ad adF adW tt a fr ST hT (19 + 1) (mN isM_19) x1 s7 r9 s10 g11) G hP hD hS (g_good q3_228 q3_76 q3_77 q1_3 q3_78) (by decide +kernel) (by decide) (ltN_0 (mN isM_19)) (sN_0 (mN isM_19)) rfl rfl hl.1 [] rfl (Nat.le_of_ble_eq_true rfl) dX11_simulateDone_65 (fun H locs hP hD hS => ?_)
        refine lv_if_ne (tgt := 73) hx hb dX11_simulateDone_68 (by decide) (fun c12 => ?_) (fun c12 => ?_)
        · replace h := it_f c12 h
          obtain ⟨y13, ey13⟩ : ∃ y : Int32, y = x2 + 1 := ⟨_, rfl⟩
          replace h := let_e ey13 h
          refine lv_iinc (v := y13) (lv' := [(2, .int y13), (0, .ref (a 209)), (1, .int x1)]) hx hb dX11_simulateDone_73 hl (k := 2) rfl (by rw [ey13]; rfl) (by decide) rfl (fun ls hl => ?_)
          refine lv_goto (tgt := 29) hx hb dX11_simulateDone_76 (by decide) ?_
          exact hK29 x1 y13 s10 h _ _ ls hP hD hS (lv_sub hl [1, 2, 0] rfl)
        · replace h := it_t c12 h
          refine lv_iload_n hx hb dX11_simulateDone_71 rfl (lv_at hl 2 rfl) ?_
          exact g_ret G hP hD hS h rfl dX11_simulateDone_72
      · replace h := it_f c5 h
        refine lv_iconst (v := (-1)) hx hb dX11_simulateDone_46 (by decide) ?_
        exact g_ret G hP hD hS h rfl dX11_simulateDone_47
  have hL29 : ∀ k_ : Nat, ∀ (x1 : Int32) (x2 : Int32) (s1 : St), fX11_simulateDone_L29 nF k_ x1 x2 s1 = some (r, s') → ∀ (H : Heap) (locs : List Loc) (ls : Array Slot), va_P D vwCl (wc cA ad a fr s1) H → va_D A (wc cA ad a fr s1) → va_S A s.heap H locs → lv_has ls 3 [(0, .ref (a 209)), (1, .int x1), (2, .int x2)] → W p l e (RM 4) s m args below meth c H locs 0 0 (MQ below (gQi D (TYS cA) A (wc cA ad a fr) r s') args s 0 0 A) (F0 m 29 ls []) := by
    intro k_
    induction k_ with
    | zero => intro x1 x2 s1 h; cases h
    | succ k_ ih => exact hB29 (fX11_simulateDone_L29 nF k_) ih
  unfold fX11_simulateDone at h
  refine lv_aload_n hx hb dX11_simulateDone_0 rfl (lv_at hl 0 rfl) ?_
  refine gfX11_10 G hP dX11_simulateDone_1 ?_
  refine gfX11_126 isM_0 G hP dX11_simulateDone_4 ?_
  refine lv_iload_n hx hb dX11_simulateDone_7 rfl (lv_at hl 1 rfl) ?_
  obtain ⟨r14, s15, g16, h⟩ := ob_e h
  refine g_callVi (nA := 1) (mX7_isHeld l D cA ad adF adW tt a fr ST hT (0 + 1) (mN isM_0) p1 s0 r14 s15 g16) G hP hD hS (g_good q3_228 q3_76 q3_77 q1_3 q3_78) (by decide +kernel) (by decide) (ltN_0 (mN isM_0)) (sN_0 (mN isM_0)) rfl rfl hl.1 [] rfl (Nat.le_of_ble_eq_true rfl) dX11_simulateDone_8 (fun H locs hP hD hS => ?_)
  refine lv_if_ne (tgt := 16) hx hb dX11_simulateDone_11 (by decide) (fun c17 => ?_) (fun c17 => ?_)
  · replace h := it_f c17 h
    refine lv_aload_n hx hb dX11_simulateDone_16 rfl (lv_at hl 0 rfl) ?_
    refine gfX11_16 G hP dX11_simulateDone_17 ?_
    refine lv_aload_n hx hb dX11_simulateDone_20 rfl (lv_at hl 0 rfl) ?_
    refine gfX11_10 G hP dX11_simulateDone_21 ?_
    obtain ⟨r18, s19, g20, h⟩ := ob_e h
    refine g_callVv (nA := 1) (mX6_copyFrom l D cA ad adF adW tt a fr ST hT nF 19 0 isM_19 isM_0 s15 r18 s19 g20) G hP hD hS (g_good q4_65 q3_11 q3_12 q1_2 q3_13) (by decide +kernel) (by decide) (ltM_0 isM_19) (sM_0 isM_19) rfl rfl hl.1 [] rfl (Nat.le_of_ble_eq_true rfl) dX11_simulateDone_24 (fun H locs hP hD hS => ?_)
    refine lv_iconst (v := 1) hx hb dX11_simulateDone_27 (by decide) ?_
    refine lv_istore_n (lv' := [(2, .int 1), (0, .ref (a 209)), (1, .int p1)]) hx hb dX11_simulateDone_28 rfl hl (by decide) rfl (fun ls hl => ?_)
    exact hL29 nF p1 1 s19 h _ _ ls hP hD hS (lv_sub hl [1, 2, 0] rfl)
  · replace h := it_t c17 h
    refine lv_iconst (v := (-1)) hx hb dX11_simulateDone_14 (by decide) ?_
    exact g_ret G hP hD hS h rfl dX11_simulateDone_15
noncomputable def fX11_predictionsAgree_L2b (nF : Nat) (K2 : Int32 → St → Option (Int32 × St)) (x1 : Int32) (s1 : St) : Option (Int32 × St) :=
  if 3 ≤ x1 then
    some (1, s1)
  else
    OB (fX11_simulateDone nF x1 s1) fun r2 s3 =>
    OB (fX6_stepsByRate 0 x1 s3) fun r5 s6 =>
    if r2 = r5 then
      LET (x1 + 1) fun y9 =>
      K2 y9 s6
    else
      some (0, s6)
noncomputable def fX11_predictionsAgree_L2 (nF : Nat) : Nat → Int32 → St → Option (Int32 × St) := fun k_ => Nat.rec (fun _ _ => none) (fun _ K => fX11_predictionsAgree_L2b nF K) k_
theorem fX11_predictionsAgree_L2_s (nF : Nat) (k_ : Nat) : fX11_predictionsAgree_L2 nF (k_ + 1) = fX11_predictionsAgree_L2b nF (fX11_predictionsAgree_L2 nF k_) := rfl
noncomputable def fX11_predictionsAgree (nF : Nat) (s0 : St) : Option (Int32 × St) :=
  fX11_predictionsAgree_L2 nF nF 0 s0
set_option maxHeartbeats 4000000 in
set_option maxRecDepth 100000 in
theorem mX11_predictionsAgree (l : Launch) (D : va_G) (cA : Nat → ClassId) (ad adF adW tt a : Nat → Nat) (fr : va_W) (ST : gST) (hT : STE ad adF adW tt ST) (nF : Nat) (s0 : St) (r : Int32) (s' : St) (h : fX11_predictionsAgree nF s0 = some (r, s')) : gMet l yX11_predictionsAgree cX11_predictionsAgree 2 (some .boolean) 5 D (TYS cA) ST (wc cA ad a fr s0) [.ref (a 209)] (fun A => gQi D (TYS cA) A (wc cA ad a fr) r s') := by
  refine g_ofW hT.1 (by decide +kernel) (Nat.le_of_ble_eq_true rfl) ?_
  intro p e s m args below meth c ls A G hP hD hl
  have G : GC p s m args meth c cX11_predictionsAgree 2 RX11 (some .boolean) A D (TYS cA) ST := G
  have hx := G.1
  have hb := G.2.1
  have hS : va_S A s.heap s.heap [] := va_S.rf
  have hl : lv_has ls 2 [(0, .ref (a 209))] := hl
  have hB2 : ∀ (K2 : Int32 → St → Option (Int32 × St)), (∀ (x1 : Int32) (s1 : St), K2 x1 s1 = some (r, s') → ∀ (H : Heap) (locs : List Loc) (ls : Array Slot), va_P D vwCl (wc cA ad a fr s1) H → va_D A (wc cA ad a fr s1) → va_S A s.heap H locs → lv_has ls 2 [(0, .ref (a 209)), (1, .int x1)] → W p l e (RM 5) s m args below meth c H locs 0 0 (MQ below (gQi D (TYS cA) A (wc cA ad a fr) r s') args s 0 0 A) (F0 m 2 ls [])) → ∀ (x1 : Int32) (s1 : St), fX11_predictionsAgree_L2b nF K2 x1 s1 = some (r, s') → ∀ (H : Heap) (locs : List Loc) (ls : Array Slot), va_P D vwCl (wc cA ad a fr s1) H → va_D A (wc cA ad a fr s1) → va_S A s.heap H locs → lv_has ls 2 [(0, .ref (a 209)), (1, .int x1)] → W p l e (RM 5) s m args below meth c H locs 0 0 (MQ below (gQi D (TYS cA) A (wc cA ad a fr) r s') args s 0 0 A) (F0 m 2 ls []) := by
    intro K2 hK2 x1 s1 h H locs ls hP hD hS hl
    unfold fX11_predictionsAgree_L2b at h
    refine lv_iload_n hx hb dX11_predictionsAgree_2 rfl (lv_at hl 1 rfl) ?_
    refine lv_iconst (v := 3) hx hb dX11_predictionsAgree_3 (by decide) ?_
    refine lv_icmp_ge (tgt := 31) hx hb dX11_predictionsAgree_4 (by decide) (fun c1 => ?_) (fun c1 => ?_)
    · replace h := it_t c1 h
      refine lv_iconst (v := 1) hx hb dX11_predictionsAgree_31 (by decide) ?_
      exact g_ret G hP hD hS h rfl dX11_predictionsAgree_32
    · replace h := it_f c1 h
      refine lv_aload_n hx hb dX11_predictionsAgree_7 rfl (lv_at hl 0 rfl) ?_
      refine lv_iload_n hx hb dX11_predictionsAgree_8 rfl (lv_at hl 1 rfl) ?_
      obtain ⟨r2, s3, g4, h⟩ := ob_e h
      refine g_callVi (nA := 1) (mX11_simulateDone l D cA ad adF adW tt a fr ST hT nF x1 s1 r2 s3 g4) G hP hD hS (g_good q4_164 q4_166 qs_12 q1_1 q4_167) (by decide +kernel) (by decide) (by decide) sc_209 rfl rfl hl.1 [] rfl (Nat.le_of_ble_eq_true rfl) dX11_predictionsAgree_9 (fun H locs hP hD hS => ?_)
      refine lv_aload_n hx hb dX11_predictionsAgree_12 rfl (lv_at hl 0 rfl) ?_
      refine gfX11_10 G hP dX11_predictionsAgree_13 ?_
      refine lv_iload_n hx hb dX11_predictionsAgree_16 rfl (lv_at hl 1 rfl) ?_
      obtain ⟨r5, s6, g7, h⟩ := ob_e h
      refine g_callVi (nA := 1) (mX6_stepsByRate l D cA ad adF adW tt a fr ST hT 0 isM_0 x1 s3 r5 s6 g7) G hP hD hS (g_good q4_168 q4_169 q4_170 q1_2 q4_171) (by decide +kernel) (by decide) (ltM_0 isM_0) (sM_0 isM_0) rfl rfl hl.1 [.int r2] rfl (Nat.le_of_ble_eq_true rfl) dX11_predictionsAgree_17 (fun H locs hP hD hS => ?_)
      refine lv_icmp_eq (tgt := 25) hx hb dX11_predictionsAgree_20 (by decide) (fun c8 => ?_) (fun c8 => ?_)
      · replace h := it_t c8 h
        obtain ⟨y9, ey9⟩ : ∃ y : Int32, y = x1 + 1 := ⟨_, rfl⟩
        replace h := let_e ey9 h
        refine lv_iinc (v := y9) (lv' := [(1, .int y9), (0, .ref (a 209))]) hx hb dX11_predictionsAgree_25 hl (k := 1) rfl (by rw [ey9]; rfl) (by decide) rfl (fun ls hl => ?_)
        refine lv_goto (tgt := 2) hx hb dX11_predictionsAgree_28 (by decide) ?_
        exact hK2 y9 s6 h _ _ ls hP hD hS (lv_sub hl [1, 0] rfl)
      · replace h := it_f c8 h
        refine lv_iconst (v := 0) hx hb dX11_predictionsAgree_23 (by decide) ?_
        exact g_ret G hP hD hS h rfl dX11_predictionsAgree_24
  have hL2 : ∀ k_ : Nat, ∀ (x1 : Int32) (s1 : St), fX11_predictionsAgree_L2 nF k_ x1 s1 = some (r, s') → ∀ (H : Heap) (locs : List Loc) (ls : Array Slot), va_P D vwCl (wc cA ad a fr s1) H → va_D A (wc cA ad a fr s1) → va_S A s.heap H locs → lv_has ls 2 [(0, .ref (a 209)), (1, .int x1)] → W p l e (RM 5) s m args below meth c H locs 0 0 (MQ below (gQi D (TYS cA) A (wc cA ad a fr) r s') args s 0 0 A) (F0 m 2 ls []) := by
    intro k_
    induction k_ with
    | zero => intro x1 s1 h; cases h
    | succ k_ ih => exact hB2 (fX11_predictionsAgree_L2 nF k_) ih
  unfold fX11_predictionsAgree at h
  refine lv_iconst (v := 0) hx hb dX11_predictionsAgree_0 (by decide) ?_
  refine lv_istore_n (lv' := [(1, .int 0), (0, .ref (a 209))]) hx hb dX11_predictionsAgree_1 rfl hl (by decide) rfl (fun ls hl => ?_)
  exact hL2 nF 0 s0 h _ _ ls hP hD hS (lv_sub hl [1, 0] rfl)
noncomputable def fX11_ranksAgree_L2b (nF : Nat) (K2 : Int32 → St → Option (Int32 × St)) (x1 : Int32) (s1 : St) : Option (Int32 × St) :=
  if (s1 (0 + 1) 5) ≤ x1 then
    some (1, s1)
  else
    OB (fX11_slotAtRank nF x1 s1) fun r2 s3 =>
    OB (fX7_countBefore nF (0 + 1) r2 s3) fun r5 s6 =>
    if r5 = x1 then
      LET (x1 + 1) fun y9 =>
      K2 y9 s6
    else
      some (0, s6)
noncomputable def fX11_ranksAgree_L2 (nF : Nat) : Nat → Int32 → St → Option (Int32 × St) := fun k_ => Nat.rec (fun _ _ => none) (fun _ K => fX11_ranksAgree_L2b nF K) k_
theorem fX11_ranksAgree_L2_s (nF : Nat) (k_ : Nat) : fX11_ranksAgree_L2 nF (k_ + 1) = fX11_ranksAgree_L2b nF (fX11_ranksAgree_L2 nF k_) := rfl
noncomputable def fX11_ranksAgree (nF : Nat) (s0 : St) : Option (Int32 × St) :=
  fX11_ranksAgree_L2 nF nF 0 s0
set_option maxHeartbeats 4000000 in
set_option maxRecDepth 100000 in
theorem mX11_ranksAgree (l : Launch) (D : va_G) (cA : Nat → ClassId) (ad adF adW tt a : Nat → Nat) (fr : va_W) (ST : gST) (hT : STE ad adF adW tt ST) (nF : Nat) (s0 : St) (r : Int32) (s' : St) (h : fX11_ranksAgree nF s0 = some (r, s')) : gMet l yX11_ranksAgree cX11_ranksAgree 2 (some .boolean) 3 D (TYS cA) ST (wc cA ad a fr s0) [.ref (a 209)] (fun A => gQi D (TYS cA) A (wc cA ad a fr) r s') := by
  refine g_ofW hT.1 (by decide +kernel) (Nat.le_of_ble_eq_true rfl) ?_
  intro p e s m args below meth c ls A G hP hD hl
  have G : GC p s m args meth c cX11_ranksAgree 2 RX11 (some .boolean) A D (TYS cA) ST := G
  have hx := G.1
  have hb := G.2.1
  have hS : va_S A s.heap s.heap [] := va_S.rf
  have hl : lv_has ls 2 [(0, .ref (a 209))] := hl
  have hB2 : ∀ (K2 : Int32 → St → Option (Int32 × St)), (∀ (x1 : Int32) (s1 : St), K2 x1 s1 = some (r, s') → ∀ (H : Heap) (locs : List Loc) (ls : Array Slot), va_P D vwCl (wc cA ad a fr s1) H → va_D A (wc cA ad a fr s1) → va_S A s.heap H locs → lv_has ls 2 [(0, .ref (a 209)), (1, .int x1)] → W p l e (RM 3) s m args below meth c H locs 0 0 (MQ below (gQi D (TYS cA) A (wc cA ad a fr) r s') args s 0 0 A) (F0 m 2 ls [])) → ∀ (x1 : Int32) (s1 : St), fX11_ranksAgree_L2b nF K2 x1 s1 = some (r, s') → ∀ (H : Heap) (locs : List Loc) (ls : Array Slot), va_P D vwCl (wc cA ad a fr s1) H → va_D A (wc cA ad a fr s1) → va_S A s.heap H locs → lv_has ls 2 [(0, .ref (a 209)), (1, .int x1)] → W p l e (RM 3) s m args below meth c H locs 0 0 (MQ below (gQi D (TYS cA) A (wc cA ad a fr) r s') args s 0 0 A) (F0 m 2 ls []) := by
    intro K2 hK2 x1 s1 h H locs ls hP hD hS hl
    unfold fX11_ranksAgree_L2b at h
    refine lv_iload_n hx hb dX11_ranksAgree_2 rfl (lv_at hl 1 rfl) ?_
    refine lv_aload_n hx hb dX11_ranksAgree_3 rfl (lv_at hl 0 rfl) ?_
    refine gfX11_10 G hP dX11_ranksAgree_4 ?_
    refine gfX11_126 isM_0 G hP dX11_ranksAgree_7 ?_
    refine gfX11_130 (mN isM_0) G hP dX11_ranksAgree_10 ?_
    refine lv_icmp_ge (tgt := 43) hx hb dX11_ranksAgree_13 (by decide) (fun c1 => ?_) (fun c1 => ?_)
    · replace h := it_t c1 h
      refine lv_iconst (v := 1) hx hb dX11_ranksAgree_43 (by decide) ?_
      exact g_ret G hP hD hS h rfl dX11_ranksAgree_44
    · replace h := it_f c1 h
      refine lv_aload_n hx hb dX11_ranksAgree_16 rfl (lv_at hl 0 rfl) ?_
      refine gfX11_10 G hP dX11_ranksAgree_17 ?_
      refine gfX11_126 isM_0 G hP dX11_ranksAgree_20 ?_
      refine lv_aload_n hx hb dX11_ranksAgree_23 rfl (lv_at hl 0 rfl) ?_
      refine lv_iload_n hx hb dX11_ranksAgree_24 rfl (lv_at hl 1 rfl) ?_
      obtain ⟨r2, s3, g4, h⟩ := ob_e h
      refine g_callVi (nA := 1) (mX11_slotAtRank l D cA ad adF adW tt a fr ST hT nF x1 s1 r2 s3 g4) G hP hD hS (g_good q3_165 q3_167 qs_4 q1_1 q3_168) (by decide +kernel) (by decide) (by decide) sc_209 rfl rfl hl.1 [.ref (a (0 + 1))] rfl (Nat.le_of_ble_eq_true rfl) dX11_ranksAgree_25 (fun H locs hP hD hS => ?_)
      obtain ⟨r5, s6, g7, h⟩ := ob_e h
      refine g_callVi (nA := 1) (mX7_countBefore l D cA ad adF adW tt a fr ST hT nF (0 + 1) (mN isM_0) r2 s3 r5 s6 g7) G hP hD hS (g_good q3_196 q3_197 q3_198 q1_3 q3_199) (by decide +kernel) (by decide) (ltN_0 (mN isM_0)) (sN_0 (mN isM_0)) rfl rfl hl.1 [] rfl (Nat.le_of_ble_eq_true rfl) dX11_ranksAgree_28 (fun H locs hP hD hS => ?_)
      refine lv_iload_n hx hb dX11_ranksAgree_31 rfl (lv_at hl 1 rfl) ?_
      refine lv_icmp_eq (tgt := 37) hx hb dX11_ranksAgree_32 (by decide) (fun c8 => ?_) (fun c8 => ?_)
      · replace h := it_t c8 h
        obtain ⟨y9, ey9⟩ : ∃ y : Int32, y = x1 + 1 := ⟨_, rfl⟩
        replace h := let_e ey9 h
        refine lv_iinc (v := y9) (lv' := [(1, .int y9), (0, .ref (a 209))]) hx hb dX11_ranksAgree_37 hl (k := 1) rfl (by rw [ey9]; rfl) (by decide) rfl (fun ls hl => ?_)
        refine lv_goto (tgt := 2) hx hb dX11_ranksAgree_40 (by decide) ?_
        exact hK2 y9 s6 h _ _ ls hP hD hS (lv_sub hl [1, 0] rfl)
      · replace h := it_f c8 h
        refine lv_iconst (v := 0) hx hb dX11_ranksAgree_35 (by decide) ?_
        exact g_ret G hP hD hS h rfl dX11_ranksAgree_36
  have hL2 : ∀ k_ : Nat, ∀ (x1 : Int32) (s1 : St), fX11_ranksAgree_L2 nF k_ x1 s1 = some (r, s') → ∀ (H : Heap) (locs : List Loc) (ls : Array Slot), va_P D vwCl (wc cA ad a fr s1) H → va_D A (wc cA ad a fr s1) → va_S A s.heap H locs → lv_has ls 2 [(0, .ref (a 209)), (1, .int x1)] → W p l e (RM 3) s m args below meth c H locs 0 0 (MQ below (gQi D (TYS cA) A (wc cA ad a fr) r s') args s 0 0 A) (F0 m 2 ls []) := by
    intro k_
    induction k_ with
    | zero => intro x1 s1 h; cases h
    | succ k_ ih => exact hB2 (fX11_ranksAgree_L2 nF k_) ih
  unfold fX11_ranksAgree at h
  refine lv_iconst (v := 0) hx hb dX11_ranksAgree_0 (by decide) ?_
  refine lv_istore_n (lv' := [(1, .int 0), (0, .ref (a 209))]) hx hb dX11_ranksAgree_1 rfl hl (by decide) rfl (fun ls hl => ?_)
  exact hL2 nF 0 s0 h _ _ ls hP hD hS (lv_sub hl [1, 0] rfl)
noncomputable def fX11_isConsistent (nF : Nat) (s0 : St) : Option (Int32 × St) :=
  OB (fX9_recordedAndLost nF (0 + 7) s0) fun r1 s2 =>
  if (s0 (0 + 7) 4) = r1 then
    OB (fX11_flourAgrees nF s2) fun r5 s6 =>
    if r5 = 0 then
      some (0, s6)
    else
      OB (fX11_predictionsAgree nF s6) fun r9 s10 =>
      if r9 = 0 then
        some (0, s10)
      else
        OB (fX11_ranksAgree nF s10) fun r13 s14 =>
        if r13 = 0 then
          some (0, s14)
        else
          some (1, s14)
  else
    some (0, s2)
set_option maxHeartbeats 4000000 in
set_option maxRecDepth 100000 in
theorem mX11_isConsistent (l : Launch) (D : va_G) (cA : Nat → ClassId) (ad adF adW tt a : Nat → Nat) (fr : va_W) (ST : gST) (hT : STE ad adF adW tt ST) (nF : Nat) (s0 : St) (r : Int32) (s' : St) (h : fX11_isConsistent nF s0 = some (r, s')) : gMet l yX11_isConsistent cX11_isConsistent 1 (some .boolean) 6 D (TYS cA) ST (wc cA ad a fr s0) [.ref (a 209)] (fun A => gQi D (TYS cA) A (wc cA ad a fr) r s') := by
  refine g_ofW hT.1 (by decide +kernel) (Nat.le_of_ble_eq_true rfl) ?_
  intro p e s m args below meth c ls A G hP hD hl
  have G : GC p s m args meth c cX11_isConsistent 1 RX11 (some .boolean) A D (TYS cA) ST := G
  have hx := G.1
  have hb := G.2.1
  have hS : va_S A s.heap s.heap [] := va_S.rf
  have hl : lv_has ls 1 [(0, .ref (a 209))] := hl
  unfold fX11_isConsistent at h
  refine lv_aload_n hx hb dX11_isConsistent_0 rfl (lv_at hl 0 rfl) ?_
  refine gfX11_10 G hP dX11_isConsistent_1 ?_
  refine gfX11_208 isM_0 G hP dX11_isConsistent_4 ?_
  refine gfX11_246 (mS isM_0) G hP dX11_isConsistent_7 ?_
  refine lv_aload_n hx hb dX11_isConsistent_10 rfl (lv_at hl 0 rfl) ?_
  refine gfX11_10 G hP dX11_isConsistent_11 ?_
  refine gfX11_208 isM_0 G hP dX11_isConsistent_14 ?_
  obtain ⟨r1, s2, g3, h⟩ := ob_e h
  refine g_callVi (nA := 0) (mX9_recordedAndLost l D cA ad adF adW tt a fr ST hT nF (0 + 7) (mS isM_0) s0 r1 s2 g3) G hP hD hS (g_good q4_45 q4_46 q4_47 q1_4 q4_48) (by decide +kernel) (by decide) (ltS_0 (mS isM_0)) (sS_0 (mS isM_0)) rfl rfl hl.1 [.int (s0 (0 + 7) 4)] rfl (Nat.le_of_ble_eq_true rfl) dX11_isConsistent_17 (fun H locs hP hD hS => ?_)
  refine lv_icmp_ne (tgt := 48) hx hb dX11_isConsistent_20 (by decide) (fun c4 => ?_) (fun c4 => ?_)
  · replace h := it_f c4 h
    refine lv_iconst (v := 0) hx hb dX11_isConsistent_48 (by decide) ?_
    exact g_ret G hP hD hS h rfl dX11_isConsistent_49
  · replace h := it_t c4 h
    refine lv_aload_n hx hb dX11_isConsistent_23 rfl (lv_at hl 0 rfl) ?_
    obtain ⟨r5, s6, g7, h⟩ := ob_e h
    refine g_callVi (nA := 0) (mX11_flourAgrees l D cA ad adF adW tt a fr ST hT nF s2 r5 s6 g7) G hP hD hS (g_good q4_156 q4_158 qs_10 q1_1 q4_159) (by decide +kernel) (by decide) (by decide) sc_209 rfl rfl hl.1 [] rfl (Nat.le_of_ble_eq_true rfl) dX11_isConsistent_24 (fun H locs hP hD hS => ?_)
    refine lv_if_eq (tgt := 48) hx hb dX11_isConsistent_27 (by decide) (fun c8 => ?_) (fun c8 => ?_)
    · replace h := it_t c8 h
      refine lv_iconst (v := 0) hx hb dX11_isConsistent_48 (by decide) ?_
      exact g_ret G hP hD hS h rfl dX11_isConsistent_49
    · replace h := it_f c8 h
      refine lv_aload_n hx hb dX11_isConsistent_30 rfl (lv_at hl 0 rfl) ?_
      obtain ⟨r9, s10, g11, h⟩ := ob_e h
      refine g_callVi (nA := 0) (mX11_predictionsAgree l D cA ad adF adW tt a fr ST hT nF s6 r9 s10 g11) G hP hD hS (g_good q4_160 q4_162 qs_11 q1_1 q4_163) (by decide +kernel) (by decide) (by decide) sc_209 rfl rfl hl.1 [] rfl (Nat.le_of_ble_eq_true rfl) dX11_isConsistent_31 (fun H locs hP hD hS => ?_)
      refine lv_if_eq (tgt := 48) hx hb dX11_isConsistent_34 (by decide) (fun c12 => ?_) (fun c12 => ?_)
      · replace h := it_t c12 h
        refine lv_iconst (v := 0) hx hb dX11_isConsistent_48 (by decide) ?_
        exact g_ret G hP hD hS h rfl dX11_isConsistent_49
      · replace h := it_f c12 h
        refine lv_aload_n hx hb dX11_isConsistent_37 rfl (lv_at hl 0 rfl) ?_
        obtain ⟨r13, s14, g15, h⟩ := ob_e h
        refine g_callVi (nA := 0) (mX11_ranksAgree l D cA ad adF adW tt a fr ST hT nF s10 r13 s14 g15) G hP hD hS (g_good q4_172 q4_174 qs_13 q1_1 q4_175) (by decide +kernel) (by decide) (by decide) sc_209 rfl rfl hl.1 [] rfl (Nat.le_of_ble_eq_true rfl) dX11_isConsistent_38 (fun H locs hP hD hS => ?_)
        refine lv_if_eq (tgt := 48) hx hb dX11_isConsistent_41 (by decide) (fun c16 => ?_) (fun c16 => ?_)
        · replace h := it_t c16 h
          refine lv_iconst (v := 0) hx hb dX11_isConsistent_48 (by decide) ?_
          exact g_ret G hP hD hS h rfl dX11_isConsistent_49
        · replace h := it_f c16 h
          refine lv_iconst (v := 1) hx hb dX11_isConsistent_44 (by decide) ?_
          refine lv_goto (tgt := 49) hx hb dX11_isConsistent_45 (by decide) ?_
          exact g_ret G hP hD hS h rfl dX11_isConsistent_49
noncomputable def fX11_faultOfCommand (nF : Nat) (k1 : Nat) (k2 : Nat) (s0 : St) : Option (Int32 × St) :=
  BND 0 3 <|
  LET (s0 (k2 + 1) (0 : Int32).toNatClampNeg) fun y2 =>
  BND 1 3 <|
  LET (s0 (k2 + 1) (1 : Int32).toNatClampNeg) fun y4 =>
  BND 2 3 <|
  LET (s0 (k2 + 1) (2 : Int32).toNatClampNeg) fun y6 =>
  BND (s0 k2 0) 8 <|
  BND ((kOrd : List Int32).getD (s0 k2 0).toNatClampNeg 0) 8 <|
  if (swK.getD ((kOrd : List Int32).getD (s0 k2 0).toNatClampNeg 0).toNatClampNeg 0) = 1 then
    OB (fX6_faultOfAdding k1 y2 y4 y6 s0) fun r10 s11 =>
    BND r10 6 <|
    some (r10, s11)
  else
  if (swK.getD ((kOrd : List Int32).getD (s0 k2 0).toNatClampNeg 0).toNatClampNeg 0) = 2 then
    OB (fX6_faultOfRemoving nF k1 y2 s0) fun r15 s16 =>
    BND r15 6 <|
    some (r15, s16)
  else
  if (swK.getD ((kOrd : List Int32).getD (s0 k2 0).toNatClampNeg 0).toNatClampNeg 0) = 3 then
    OB (fX6_faultOfGear y2 y4 s0) fun r20 s21 =>
    BND r20 6 <|
    some (r20, s21)
  else
  if (swK.getD ((kOrd : List Int32).getD (s0 k2 0).toNatClampNeg 0).toNatClampNeg 0) = 4 then
    OB (fX6_faultOfMesh y2 y4 s0) fun r25 s26 =>
    BND r25 6 <|
    some (r25, s26)
  else
  if (swK.getD ((kOrd : List Int32).getD (s0 k2 0).toNatClampNeg 0).toNatClampNeg 0) = 5 then
    OB (fX6_faultOfClearing y2 s0) fun r30 s31 =>
    BND r30 6 <|
    some (r30, s31)
  else
  if (swK.getD ((kOrd : List Int32).getD (s0 k2 0).toNatClampNeg 0).toNatClampNeg 0) = 6 then
    OB (fX6_faultOfReleasing k1 y2 s0) fun r35 s36 =>
    BND r35 6 <|
    some (r35, s36)
  else
  if (swK.getD ((kOrd : List Int32).getD (s0 k2 0).toNatClampNeg 0).toNatClampNeg 0) = 7 then
    OB (fX6_faultOfShipping k1 y2 y4 s0) fun r40 s41 =>
    BND r40 6 <|
    some (r40, s41)
  else
  OB (fX6_faultOfAdvancing y2 s0) fun r44 s45 =>
  BND r44 6 <|
  some (r44, s45)
set_option maxHeartbeats 4000000 in
set_option maxRecDepth 100000 in
theorem mX11_faultOfCommand (l : Launch) (D : va_G) (cA : Nat → ClassId) (ad adF adW tt a : Nat → Nat) (fr : va_W) (ST : gST) (hT : STE ad adF adW tt ST) (nF : Nat) (k1 : Nat) (k2 : Nat) (hk1 : isM k1) (hk2 : isC k2) (s0 : St) (r : Int32) (s' : St) (h : fX11_faultOfCommand nF k1 k2 s0 = some (r, s')) : gMet l yX11_faultOfCommand cX11_faultOfCommand 5 (some (.object "NoiseMill$Fault")) 3 D (TYS cA) ST (wc cA ad a fr s0) [.ref (a k1), .ref (a k2)] (fun A => gQe adF D (TYS cA) A (wc cA ad a fr) r s') := by
  refine g_ofW hT.1 (by decide +kernel) (Nat.le_of_ble_eq_true rfl) ?_
  intro p e s m args below meth c ls A G hP hD hl
  have G : GC p s m args meth c cX11_faultOfCommand 5 RX11 (some (.object "NoiseMill$Fault")) A D (TYS cA) ST := G
  have hx := G.1
  have hb := G.2.1
  have hS : va_S A s.heap s.heap [] := va_S.rf
  have hl : lv_has ls 5 [(0, .ref (a k1)), (1, .ref (a k2))] := hl
  unfold fX11_faultOfCommand at h
  refine lv_aload_n hx hb dX11_faultOfCommand_0 rfl (lv_at hl 1 rfl) ?_
  refine gfX11_457 hk2 G hP dX11_faultOfCommand_1 ?_
  refine lv_iconst (v := 0) hx hb dX11_faultOfCommand_4 (by decide) ?_
  obtain ⟨b1, h⟩ := bnd_e h
  refine g_ald (t := 0) (ty := .int) (Or.inl rfl) G hP (k2 + 1) (ltC_1 hk2) (sC_1 hk2) rfl b1 dX11_faultOfCommand_5 ?_
  refine lv_topi (fun y2 ey2 => ?_)
  replace h := let_e ey2 h
  refine lv_istore_n (lv' := [(2, .int y2), (0, .ref (a k1)), (1, .ref (a k2))]) hx hb dX11_faultOfCommand_6 rfl hl (by decide) rfl (fun ls hl => ?_)
  refine lv_aload_n hx hb dX11_faultOfCommand_7 rfl (lv_at hl 2 rfl) ?_
  refine gfX11_457 hk2 G hP dX11_faultOfCommand_8 ?_
  refine lv_iconst (v := 1) hx hb dX11_faultOfCommand_11 (by decide) ?_
  obtain ⟨b3, h⟩ := bnd_e h
  refine g_ald (t := 0) (ty := .int) (Or.inl rfl) G hP (k2 + 1) (ltC_1 hk2) (sC_1 hk2) rfl b3 dX11_faultOfCommand_12 ?_
  refine lv_topi (fun y4 ey4 => ?_)
  replace h := let_e ey4 h
  refine lv_istore_n (lv' := [(3, .int y4), (2, .int y2), (0, .ref (a k1)), (1, .ref (a k2))]) hx hb dX11_faultOfCommand_13 rfl hl (by decide) rfl (fun ls hl => ?_)
  refine lv_aload_n hx hb dX11_faultOfCommand_14 rfl (lv_at hl 3 rfl) ?_
  refine gfX11_457 hk2 G hP dX11_faultOfCommand_15 ?_
  refine lv_iconst (v := 2) hx hb dX11_faultOfCommand_18 (by decide) ?_
  obtain ⟨b5, h⟩ := bnd_e h
  refine g_ald (t := 0) (ty := .int) (Or.inl rfl) G hP (k2 + 1) (ltC_1 hk2) (sC_1 hk2) rfl b5 dX11_faultOfCommand_19 ?_
  refine lv_topi (fun y6 ey6 => ?_)
  replace h := let_e ey6 h
  refine lv_istore (lv' := [(4, .int y6), (3, .int y4), (2, .int y2), (0, .ref (a k1)), (1, .ref (a k2))]) hx hb dX11_faultOfCommand_20 hl (by decide) rfl (fun ls hl => ?_)
  refine va_gets hx hb (hT.2 _ _ G.2.2.2.2.2.2.2.2.2.2.1).2.2.2.2.2.1 hS G.2.2.2.1 (G.2.2.2.2.1 _ q5_36) (fun _ h9 => h9) dX11_faultOfCommand_22 ?_
  refine lv_aload_n hx hb dX11_faultOfCommand_25 rfl (lv_at hl 4 rfl) ?_
  refine gfX11_465 hk2 G hP dX11_faultOfCommand_26 ?_
  obtain ⟨b7, h⟩ := bnd_e h
  refine g_ord (L := kOrd) (fun A U q => (hT.2 A U q).2.1) (by decide) _ (vp_lt b7) G hP hD hS (g_goodU q5_38 q5_39 q5_40 q2_109 q1_10 q2_110) (by decide) hl.1 (Nat.le_of_ble_eq_true rfl) dX11_faultOfCommand_29 (fun H locs hP hD hS => ?_)
  obtain ⟨b8, h⟩ := bnd_e h
  refine va_ti hx hb (hT.2 _ _ G.2.2.2.2.2.2.2.2.2.2.1).2.2.2.2.2.2 hS b8 rfl dX11_faultOfCommand_32 ?_
  have htab := dX11_faultOfCommand_33
  by_cases c9 : (swK.getD ((kOrd : List Int32).getD (s0 k2 0).toNatClampNeg 0).toNatClampNeg 0) = 1
  · replace h := it_t c9 h
    refine g_tabk (off := 43) (tgt := 76) hx hb 1 c9 htab (by decide +kernel) (by decide +kernel) (by decide) ?_
    refine lv_aload_n hx hb dX11_faultOfCommand_76 rfl (lv_at hl 3 rfl) ?_
    refine lv_iload_n hx hb dX11_faultOfCommand_77 rfl (lv_at hl 2 rfl) ?_
    refine lv_iload_n hx hb dX11_faultOfCommand_78 rfl (lv_at hl 1 rfl) ?_
    refine lv_iload hx hb dX11_faultOfCommand_79 (lv_at hl 0 rfl) ?_
    obtain ⟨r10, s11, g12, h⟩ := ob_e h
    refine g_callVe (nA := 3) (mX6_faultOfAdding l D cA ad adF adW tt a fr ST hT k1 hk1 y2 y4 y6 s0 r10 s11 g12) G hP hD hS (g_good q5_41 q5_42 q5_43 q1_2 q5_44) (by decide +kernel) (by decide) (ltM_0 hk1) (sM_0 hk1) rfl rfl hl.1 [] rfl (Nat.le_of_ble_eq_true rfl) dX11_faultOfCommand_81 (fun H locs hP hD hS => ?_)
    obtain ⟨b13, h⟩ := bnd_e h
    rw [re_some _ (fun q => b13 (Or.inl q))]
    exact g_eret (v := r10) (fun q => b13 (Or.inl q)) G hP hD hS h dX11_faultOfCommand_84
  replace h := it_f c9 h
  by_cases c14 : (swK.getD ((kOrd : List Int32).getD (s0 k2 0).toNatClampNeg 0).toNatClampNeg 0) = 2
  · replace h := it_t c14 h
    refine g_tabk (off := 52) (tgt := 85) hx hb 2 c14 htab (by decide +kernel) (by decide +kernel) (by decide) ?_
    refine lv_aload_n hx hb dX11_faultOfCommand_85 rfl (lv_at hl 3 rfl) ?_
    refine lv_iload_n hx hb dX11_faultOfCommand_86 rfl (lv_at hl 2 rfl) ?_
    obtain ⟨r15, s16, g17, h⟩ := ob_e h
    refine g_callVe (nA := 1) (mX6_faultOfRemoving l D cA ad adF adW tt a fr ST hT nF k1 hk1 y2 s0 r15 s16 g17) G hP hD hS (g_good q5_45 q5_46 q5_47 q1_2 q5_48) (by decide +kernel) (by decide) (ltM_0 hk1) (sM_0 hk1) rfl rfl hl.1 [] rfl (Nat.le_of_ble_eq_true rfl) dX11_faultOfCommand_87 (fun H locs hP hD hS => ?_)
    obtain ⟨b18, h⟩ := bnd_e h
    rw [re_some _ (fun q => b18 (Or.inl q))]
    exact g_eret (v := r15) (fun q => b18 (Or.inl q)) G hP hD hS h dX11_faultOfCommand_90
  replace h := it_f c14 h
  by_cases c19 : (swK.getD ((kOrd : List Int32).getD (s0 k2 0).toNatClampNeg 0).toNatClampNeg 0) = 3
  · replace h := it_t c19 h
    refine g_tabk (off := 58) (tgt := 91) hx hb 3 c19 htab (by decide +kernel) (by decide +kernel) (by decide) ?_
    refine lv_iload_n hx hb dX11_faultOfCommand_91 rfl (lv_at hl 2 rfl) ?_
    refine lv_iload_n hx hb dX11_faultOfCommand_92 rfl (lv_at hl 1 rfl) ?_
    obtain ⟨r20, s21, g22, h⟩ := ob_e h
    refine g_callSXe (nA := 2) (mX6_faultOfGear l D cA ad adF adW tt a fr ST hT y2 y4 s0 r20 s21 g22) G hP hD hS (g_goodSX q2_85 q2_86 q1_2 q2_87) (by decide +kernel) (by decide) rfl hl.1 [] rfl (Nat.le_of_ble_eq_true rfl) dX11_faultOfCommand_93 (fun H locs hP hD hS => ?_)
    obtain ⟨b23, h⟩ := bnd_e h
    rw [re_some _ (fun q => b23 (Or.inl q))]
    exact g_eret (v := r20) (fun q => b23 (Or.inl q)) G hP hD hS h dX11_faultOfCommand_96
  replace h := it_f c19 h
  by_cases c24 : (swK.getD ((kOrd : List Int32).getD (s0 k2 0).toNatClampNeg 0).toNatClampNeg 0) = 4
  · replace h := it_t c24 h
    refine g_tabk (off := 64) (tgt := 97) hx hb 4 c24 htab (by decide +kernel) (by decide +kernel) (by decide) ?_
    refine lv_iload_n hx hb dX11_faultOfCommand_97 rfl (lv_at hl 2 rfl) ?_
    refine lv_iload_n hx hb dX11_faultOfCommand_98 rfl (lv_at hl 1 rfl) ?_
    obtain ⟨r25, s26, g27, h⟩ := ob_e h
    refine g_callSXe (nA := 2) (mX6_faultOfMesh l D cA ad adF adW tt a fr ST hT y2 y4 s0 r25 s26 g27) G hP hD hS (g_goodSX q3_46 q3_47 q1_2 q3_48) (by decide +kernel) (by decide) rfl hl.1 [] rfl (Nat.le_of_ble_eq_true rfl) dX11_faultOfCommand_99 (fun H locs hP hD hS => ?_)
    obtain ⟨b28, h⟩ := bnd_e h
    rw [re_some _ (fun q => b28 (Or.inl q))]
    exact g_eret (v := r25) (fun q => b28 (Or.inl q)) G hP hD hS h dX11_faultOfCommand_102
  replace h := it_f c24 h
  by_cases c29 : (swK.getD ((kOrd : List Int32).getD (s0 k2 0).toNatClampNeg 0).toNatClampNeg 0) = 5
  · replace h := it_t c29 h
    refine g_tabk (off := 70) (tgt := 103) hx hb 5 c29 htab (by decide +kernel) (by decide +kernel) (by decide) ?_
    refine lv_iload_n hx hb dX11_faultOfCommand_103 rfl (lv_at hl 2 rfl) ?_
    obtain ⟨r30, s31, g32, h⟩ := ob_e h
    refine g_callSXe (nA := 1) (mX6_faultOfClearing l D cA ad adF adW tt a fr ST hT y2 s0 r30 s31 g32) G hP hD hS (g_goodSX q3_60 q3_61 q1_2 q3_62) (by decide +kernel) (by decide) rfl hl.1 [] rfl (Nat.le_of_ble_eq_true rfl) dX11_faultOfCommand_104 (fun H locs hP hD hS => ?_)
    obtain ⟨b33, h⟩ := bnd_e h
    rw [re_some _ (fun q => b33 (Or.inl q))]
    exact g_eret (v := r30) (fun q => b33 (Or.inl q)) G hP hD hS h dX11_faultOfCommand_107
  replace h := it_f c29 h
  by_cases c34 : (swK.getD ((kOrd : List Int32).getD (s0 k2 0).toNatClampNeg 0).toNatClampNeg 0) = 6
  · replace h := it_t c34 h
    refine g_tabk (off := 75) (tgt := 108) hx hb 6 c34 htab (by decide +kernel) (by decide +kernel) (by decide) ?_
    refine lv_aload_n hx hb dX11_faultOfCommand_108 rfl (lv_at hl 3 rfl) ?_
    refine lv_iload_n hx hb dX11_faultOfCommand_109 rfl (lv_at hl 2 rfl) ?_
    obtain ⟨r35, s36, g37, h⟩ := ob_e h
    refine g_callVe (nA := 1) (mX6_faultOfReleasing l D cA ad adF adW tt a fr ST hT k1 hk1 y2 s0 r35 s36 g37) G hP hD hS (g_good q3_71 q3_72 q3_73 q1_2 q3_74) (by decide +kernel) (by decide) (ltM_0 hk1) (sM_0 hk1) rfl rfl hl.1 [] rfl (Nat.le_of_ble_eq_true rfl) dX11_faultOfCommand_110 (fun H locs hP hD hS => ?_)
    obtain ⟨b38, h⟩ := bnd_e h
    rw [re_some _ (fun q => b38 (Or.inl q))]
    exact g_eret (v := r35) (fun q => b38 (Or.inl q)) G hP hD hS h dX11_faultOfCommand_113
  replace h := it_f c34 h
  by_cases c39 : (swK.getD ((kOrd : List Int32).getD (s0 k2 0).toNatClampNeg 0).toNatClampNeg 0) = 7
  · replace h := it_t c39 h
    refine g_tabk (off := 81) (tgt := 114) hx hb 7 c39 htab (by decide +kernel) (by decide +kernel) (by decide) ?_
    refine lv_aload_n hx hb dX11_faultOfCommand_114 rfl (lv_at hl 3 rfl) ?_
    refine lv_iload_n hx hb dX11_faultOfCommand_115 rfl (lv_at hl 2 rfl) ?_
    refine lv_iload_n hx hb dX11_faultOfCommand_116 rfl (lv_at hl 1 rfl) ?_
    obtain ⟨r40, s41, g42, h⟩ := ob_e h
    refine g_callVe (nA := 2) (mX6_faultOfShipping l D cA ad adF adW tt a fr ST hT k1 hk1 y2 y4 s0 r40 s41 g42) G hP hD hS (g_good q5_51 q5_52 q5_53 q1_2 q5_54) (by decide +kernel) (by decide) (ltM_0 hk1) (sM_0 hk1) rfl rfl hl.1 [] rfl (Nat.le_of_ble_eq_true rfl) dX11_faultOfCommand_117 (fun H locs hP hD hS => ?_)
    obtain ⟨b43, h⟩ := bnd_e h
    rw [re_some _ (fun q => b43 (Or.inl q))]
    exact g_eret (v := r40) (fun q => b43 (Or.inl q)) G hP hD hS h dX11_faultOfCommand_120
  replace h := it_f c39 h
  refine g_tabd (tgt := 121) hx hb [1, 2, 3, 4, 5, 6, 7] (List.forall_mem_cons.mpr ⟨fun q => c9 (i32_eqi q), List.forall_mem_cons.mpr ⟨fun q => c14 (i32_eqi q), List.forall_mem_cons.mpr ⟨fun q => c19 (i32_eqi q), List.forall_mem_cons.mpr ⟨fun q => c24 (i32_eqi q), List.forall_mem_cons.mpr ⟨fun q => c29 (i32_eqi q), List.forall_mem_cons.mpr ⟨fun q => c34 (i32_eqi q), List.forall_mem_cons.mpr ⟨fun q => c39 (i32_eqi q), List.forall_mem_nil _⟩⟩⟩⟩⟩⟩⟩) htab (by decide +kernel) (by decide +kernel) (by decide) ?_
  refine lv_iload_n hx hb dX11_faultOfCommand_121 rfl (lv_at hl 2 rfl) ?_
  obtain ⟨r44, s45, g46, h⟩ := ob_e h
  refine g_callSXe (nA := 1) (mX6_faultOfAdvancing l D cA ad adF adW tt a fr ST hT y2 s0 r44 s45 g46) G hP hD hS (g_goodSX q3_107 q3_108 q1_2 q3_109) (by decide +kernel) (by decide) rfl hl.1 [] rfl (Nat.le_of_ble_eq_true rfl) dX11_faultOfCommand_122 (fun H locs hP hD hS => ?_)
  obtain ⟨b47, h⟩ := bnd_e h
  rw [re_some _ (fun q => b47 (Or.inl q))]
  exact g_eret (v := r44) (fun q => b47 (Or.inl q)) G hP hD hS h dX11_faultOfCommand_125
noncomputable def fX11_perform (nF : Nat) (k1 : Nat) (k2 : Nat) (s0 : St) : Option (Int32 × St) :=
  BND 0 3 <|
  LET (s0 (k2 + 1) (0 : Int32).toNatClampNeg) fun y2 =>
  BND 1 3 <|
  LET (s0 (k2 + 1) (1 : Int32).toNatClampNeg) fun y4 =>
  BND 2 3 <|
  LET (s0 (k2 + 1) (2 : Int32).toNatClampNeg) fun y6 =>
  BND (s0 k2 0) 8 <|
  BND ((kOrd : List Int32).getD (s0 k2 0).toNatClampNeg 0) 8 <|
  if (swK.getD ((kOrd : List Int32).getD (s0 k2 0).toNatClampNeg 0).toNatClampNeg 0) = 1 then
    OB (fX6_add k1 y2 y4 y6 s0) fun r10 s11 =>
    some (r10, s11)
  else
  if (swK.getD ((kOrd : List Int32).getD (s0 k2 0).toNatClampNeg 0).toNatClampNeg 0) = 2 then
    OB (fX6_remove nF k1 y2 s0) fun r14 s15 =>
    some (r14, s15)
  else
  if (swK.getD ((kOrd : List Int32).getD (s0 k2 0).toNatClampNeg 0).toNatClampNeg 0) = 3 then
    OB (fX6_changeGear k1 y2 y4 s0) fun r18 s19 =>
    some (r18, s19)
  else
  if (swK.getD ((kOrd : List Int32).getD (s0 k2 0).toNatClampNeg 0).toNatClampNeg 0) = 4 then
    OB (fX6_changeMesh k1 y2 y4 s0) fun r22 s23 =>
    some (r22, s23)
  else
  if (swK.getD ((kOrd : List Int32).getD (s0 k2 0).toNatClampNeg 0).toNatClampNeg 0) = 5 then
    OB (fX6_clear k1 y2 s0) fun r26 s27 =>
    some (r26, s27)
  else
  if (swK.getD ((kOrd : List Int32).getD (s0 k2 0).toNatClampNeg 0).toNatClampNeg 0) = 6 then
    OB (fX6_release k1 y2 s0) fun r30 s31 =>
    some (r30, s31)
  else
  if (swK.getD ((kOrd : List Int32).getD (s0 k2 0).toNatClampNeg 0).toNatClampNeg 0) = 7 then
    OB (fX6_ship k1 y2 y4 s0) fun r34 s35 =>
    some (r34, s35)
  else
  OB (fX6_pass nF k1 y2 s0) fun r37 s38 =>
  some (r37, s38)
set_option maxHeartbeats 4000000 in
set_option maxRecDepth 100000 in
theorem mX11_perform (l : Launch) (D : va_G) (cA : Nat → ClassId) (ad adF adW tt a : Nat → Nat) (fr : va_W) (ST : gST) (hT : STE ad adF adW tt ST) (nF : Nat) (k1 : Nat) (k2 : Nat) (hk1 : isM k1) (hk2 : isC k2) (s0 : St) (r : Int32) (s' : St) (h : fX11_perform nF k1 k2 s0 = some (r, s')) : gMet l yX11_perform cX11_perform 5 (some .int) 4 D (TYS cA) ST (wc cA ad a fr s0) [.ref (a k1), .ref (a k2)] (fun A => gQi D (TYS cA) A (wc cA ad a fr) r s') := by
  refine g_ofW hT.1 (by decide +kernel) (Nat.le_of_ble_eq_true rfl) ?_
  intro p e s m args below meth c ls A G hP hD hl
  have G : GC p s m args meth c cX11_perform 5 RX11 (some .int) A D (TYS cA) ST := G
  have hx := G.1
  have hb := G.2.1
  have hS : va_S A s.heap s.heap [] := va_S.rf
  have hl : lv_has ls 5 [(0, .ref (a k1)), (1, .ref (a k2))] := hl
  unfold fX11_perform at h
  refine lv_aload_n hx hb dX11_perform_0 rfl (lv_at hl 1 rfl) ?_
  refine gfX11_457 hk2 G hP dX11_perform_1 ?_
  refine lv_iconst (v := 0) hx hb dX11_perform_4 (by decide) ?_
  obtain ⟨b1, h⟩ := bnd_e h
  refine g_ald (t := 0) (ty := .int) (Or.inl rfl) G hP (k2 + 1) (ltC_1 hk2) (sC_1 hk2) rfl b1 dX11_perform_5 ?_
  refine lv_topi (fun y2 ey2 => ?_)
  replace h := let_e ey2 h
  refine lv_istore_n (lv' := [(2, .int y2), (0, .ref (a k1)), (1, .ref (a k2))]) hx hb dX11_perform_6 rfl hl (by decide) rfl (fun ls hl => ?_)
  refine lv_aload_n hx hb dX11_perform_7 rfl (lv_at hl 2 rfl) ?_
  refine gfX11_457 hk2 G hP dX11_perform_8 ?_
  refine lv_iconst (v := 1) hx hb dX11_perform_11 (by decide) ?_
  obtain ⟨b3, h⟩ := bnd_e h
  refine g_ald (t := 0) (ty := .int) (Or.inl rfl) G hP (k2 + 1) (ltC_1 hk2) (sC_1 hk2) rfl b3 dX11_perform_12 ?_
  refine lv_topi (fun y4 ey4 => ?_)
  replace h := let_e ey4 h
  refine lv_istore_n (lv' := [(3, .int y4), (2, .int y2), (0, .ref (a k1)), (1, .ref (a k2))]) hx hb dX11_perform_13 rfl hl (by decide) rfl (fun ls hl => ?_)
  refine lv_aload_n hx hb dX11_perform_14 rfl (lv_at hl 3 rfl) ?_
  refine gfX11_457 hk2 G hP dX11_perform_15 ?_
  refine lv_iconst (v := 2) hx hb dX11_perform_18 (by decide) ?_
  obtain ⟨b5, h⟩ := bnd_e h
  refine g_ald (t := 0) (ty := .int) (Or.inl rfl) G hP (k2 + 1) (ltC_1 hk2) (sC_1 hk2) rfl b5 dX11_perform_19 ?_
  refine lv_topi (fun y6 ey6 => ?_)
  replace h := let_e ey6 h
  refine lv_istore (lv' := [(4, .int y6), (3, .int y4), (2, .int y2), (0, .ref (a k1)), (1, .ref (a k2))]) hx hb dX11_perform_20 hl (by decide) rfl (fun ls hl => ?_)
  refine va_gets hx hb (hT.2 _ _ G.2.2.2.2.2.2.2.2.2.2.1).2.2.2.2.2.1 hS G.2.2.2.1 (G.2.2.2.2.1 _ q5_36) (fun _ h9 => h9) dX11_perform_22 ?_
  refine lv_aload_n hx hb dX11_perform_25 rfl (lv_at hl 4 rfl) ?_
  refine gfX11_465 hk2 G hP dX11_perform_26 ?_
  obtain ⟨b7, h⟩ := bnd_e h
  refine g_ord (L := kOrd) (fun A U q => (hT.2 A U q).2.1) (by decide) _ (vp_lt b7) G hP hD hS (g_goodU q5_38 q5_39 q5_40 q2_109 q1_10 q2_110) (by decide) hl.1 (Nat.le_of_ble_eq_true rfl) dX11_perform_29 (fun H locs hP hD hS => ?_)
  obtain ⟨b8, h⟩ := bnd_e h
  refine va_ti hx hb (hT.2 _ _ G.2.2.2.2.2.2.2.2.2.2.1).2.2.2.2.2.2 hS b8 rfl dX11_perform_32 ?_
  have htab := dX11_perform_33
  by_cases c9 : (swK.getD ((kOrd : List Int32).getD (s0 k2 0).toNatClampNeg 0).toNatClampNeg 0) = 1
  · replace h := it_t c9 h
    refine g_tabk (off := 43) (tgt := 76) hx hb 1 c9 htab (by decide +kernel) (by decide +kernel) (by decide) ?_
    refine lv_aload_n hx hb dX11_perform_76 rfl (lv_at hl 3 rfl) ?_
    refine lv_iload_n hx hb dX11_perform_77 rfl (lv_at hl 2 rfl) ?_
    refine lv_iload_n hx hb dX11_perform_78 rfl (lv_at hl 1 rfl) ?_
    refine lv_iload hx hb dX11_perform_79 (lv_at hl 0 rfl) ?_
    obtain ⟨r10, s11, g12, h⟩ := ob_e h
    refine g_callVi (nA := 3) (mX6_add l D cA ad adF adW tt a fr ST hT k1 hk1 y2 y4 y6 s0 r10 s11 g12) G hP hD hS (g_good q5_66 q5_67 q5_68 q1_2 q5_69) (by decide +kernel) (by decide) (ltM_0 hk1) (sM_0 hk1) rfl rfl hl.1 [] rfl (Nat.le_of_ble_eq_true rfl) dX11_perform_81 (fun H locs hP hD hS => ?_)
    exact g_ret G hP hD hS h rfl dX11_perform_84
  replace h := it_f c9 h
  by_cases c13 : (swK.getD ((kOrd : List Int32).getD (s0 k2 0).toNatClampNeg 0).toNatClampNeg 0) = 2
  · replace h := it_t c13 h
    refine g_tabk (off := 52) (tgt := 85) hx hb 2 c13 htab (by decide +kernel) (by decide +kernel) (by decide) ?_
    refine lv_aload_n hx hb dX11_perform_85 rfl (lv_at hl 3 rfl) ?_
    refine lv_iload_n hx hb dX11_perform_86 rfl (lv_at hl 2 rfl) ?_
    obtain ⟨r14, s15, g16, h⟩ := ob_e h
    refine g_callVi (nA := 1) (mX6_remove l D cA ad adF adW tt a fr ST hT nF k1 hk1 y2 s0 r14 s15 g16) G hP hD hS (g_good q5_74 q5_75 q5_76 q1_2 q5_77) (by decide +kernel) (by decide) (ltM_0 hk1) (sM_0 hk1) rfl rfl hl.1 [] rfl (Nat.le_of_ble_eq_true rfl) dX11_perform_87 (fun H locs hP hD hS => ?_)
    exact g_ret G hP hD hS h rfl dX11_perform_90
  replace h := it_f c13 h
  by_cases c17 : (swK.getD ((kOrd : List Int32).getD (s0 k2 0).toNatClampNeg 0).toNatClampNeg 0) = 3
  · replace h := it_t c17 h
    refine g_tabk (off := 58) (tgt := 91) hx hb 3 c17 htab (by decide +kernel) (by decide +kernel) (by decide) ?_
    refine lv_aload_n hx hb dX11_perform_91 rfl (lv_at hl 3 rfl) ?_
    refine lv_iload_n hx hb dX11_perform_92 rfl (lv_at hl 2 rfl) ?_
    refine lv_iload_n hx hb dX11_perform_93 rfl (lv_at hl 1 rfl) ?_
    obtain ⟨r18, s19, g20, h⟩ := ob_e h
    refine g_callVi (nA := 2) (mX6_changeGear l D cA ad adF adW tt a fr ST hT k1 hk1 y2 y4 s0 r18 s19 g20) G hP hD hS (g_good q3_38 q3_39 q3_40 q1_2 q3_41) (by decide +kernel) (by decide) (ltM_0 hk1) (sM_0 hk1) rfl rfl hl.1 [] rfl (Nat.le_of_ble_eq_true rfl) dX11_perform_94 (fun H locs hP hD hS => ?_)
    exact g_ret G hP hD hS h rfl dX11_perform_97
  replace h := it_f c17 h
  by_cases c21 : (swK.getD ((kOrd : List Int32).getD (s0 k2 0).toNatClampNeg 0).toNatClampNeg 0) = 4
  · replace h := it_t c21 h
    refine g_tabk (off := 65) (tgt := 98) hx hb 4 c21 htab (by decide +kernel) (by decide +kernel) (by decide) ?_
    refine lv_aload_n hx hb dX11_perform_98 rfl (lv_at hl 3 rfl) ?_
    refine lv_iload_n hx hb dX11_perform_99 rfl (lv_at hl 2 rfl) ?_
    refine lv_iload_n hx hb dX11_perform_100 rfl (lv_at hl 1 rfl) ?_
    obtain ⟨r22, s23, g24, h⟩ := ob_e h
    refine g_callVi (nA := 2) (mX6_changeMesh l D cA ad adF adW tt a fr ST hT k1 hk1 y2 y4 s0 r22 s23 g24) G hP hD hS (g_good q3_52 q3_53 q3_54 q1_2 q3_55) (by decide +kernel) (by decide) (ltM_0 hk1) (sM_0 hk1) rfl rfl hl.1 [] rfl (Nat.le_of_ble_eq_true rfl) dX11_perform_101 (fun H locs hP hD hS => ?_)
    exact g_ret G hP hD hS h rfl dX11_perform_104
  replace h := it_f c21 h
  by_cases c25 : (swK.getD ((kOrd : List Int32).getD (s0 k2 0).toNatClampNeg 0).toNatClampNeg 0) = 5
  · replace h := it_t c25 h
    refine g_tabk (off := 72) (tgt := 105) hx hb 5 c25 htab (by decide +kernel) (by decide +kernel) (by decide) ?_
    refine lv_aload_n hx hb dX11_perform_105 rfl (lv_at hl 3 rfl) ?_
    refine lv_iload_n hx hb dX11_perform_106 rfl (lv_at hl 2 rfl) ?_
    obtain ⟨r26, s27, g28, h⟩ := ob_e h
    refine g_callVi (nA := 1) (mX6_clear l D cA ad adF adW tt a fr ST hT k1 hk1 y2 s0 r26 s27 g28) G hP hD hS (g_good q3_63 q3_64 q3_65 q1_2 q3_66) (by decide +kernel) (by decide) (ltM_0 hk1) (sM_0 hk1) rfl rfl hl.1 [] rfl (Nat.le_of_ble_eq_true rfl) dX11_perform_107 (fun H locs hP hD hS => ?_)
    exact g_ret G hP hD hS h rfl dX11_perform_110
  replace h := it_f c25 h
  by_cases c29 : (swK.getD ((kOrd : List Int32).getD (s0 k2 0).toNatClampNeg 0).toNatClampNeg 0) = 6
  · replace h := it_t c29 h
    refine g_tabk (off := 78) (tgt := 111) hx hb 6 c29 htab (by decide +kernel) (by decide +kernel) (by decide) ?_
    refine lv_aload_n hx hb dX11_perform_111 rfl (lv_at hl 3 rfl) ?_
    refine lv_iload_n hx hb dX11_perform_112 rfl (lv_at hl 2 rfl) ?_
    obtain ⟨r30, s31, g32, h⟩ := ob_e h
    refine g_callVi (nA := 1) (mX6_release l D cA ad adF adW tt a fr ST hT k1 hk1 y2 s0 r30 s31 g32) G hP hD hS (g_good q3_87 q3_88 q3_89 q1_2 q3_90) (by decide +kernel) (by decide) (ltM_0 hk1) (sM_0 hk1) rfl rfl hl.1 [] rfl (Nat.le_of_ble_eq_true rfl) dX11_perform_113 (fun H locs hP hD hS => ?_)
    exact g_ret G hP hD hS h rfl dX11_perform_116
  replace h := it_f c29 h
  by_cases c33 : (swK.getD ((kOrd : List Int32).getD (s0 k2 0).toNatClampNeg 0).toNatClampNeg 0) = 7
  · replace h := it_t c33 h
    refine g_tabk (off := 84) (tgt := 117) hx hb 7 c33 htab (by decide +kernel) (by decide +kernel) (by decide) ?_
    refine lv_aload_n hx hb dX11_perform_117 rfl (lv_at hl 3 rfl) ?_
    refine lv_iload_n hx hb dX11_perform_118 rfl (lv_at hl 2 rfl) ?_
    refine lv_iload_n hx hb dX11_perform_119 rfl (lv_at hl 1 rfl) ?_
    obtain ⟨r34, s35, g36, h⟩ := ob_e h
    refine g_callVi (nA := 2) (mX6_ship l D cA ad adF adW tt a fr ST hT k1 hk1 y2 y4 s0 r34 s35 g36) G hP hD hS (g_good q5_79 q5_80 q5_81 q1_2 q5_82) (by decide +kernel) (by decide) (ltM_0 hk1) (sM_0 hk1) rfl rfl hl.1 [] rfl (Nat.le_of_ble_eq_true rfl) dX11_perform_120 (fun H locs hP hD hS => ?_)
    exact g_ret G hP hD hS h rfl dX11_perform_123
  replace h := it_f c33 h
  refine g_tabd (tgt := 124) hx hb [1, 2, 3, 4, 5, 6, 7] (List.forall_mem_cons.mpr ⟨fun q => c9 (i32_eqi q), List.forall_mem_cons.mpr ⟨fun q => c13 (i32_eqi q), List.forall_mem_cons.mpr ⟨fun q => c17 (i32_eqi q), List.forall_mem_cons.mpr ⟨fun q => c21 (i32_eqi q), List.forall_mem_cons.mpr ⟨fun q => c25 (i32_eqi q), List.forall_mem_cons.mpr ⟨fun q => c29 (i32_eqi q), List.forall_mem_cons.mpr ⟨fun q => c33 (i32_eqi q), List.forall_mem_nil _⟩⟩⟩⟩⟩⟩⟩) htab (by decide +kernel) (by decide +kernel) (by decide) ?_
  refine lv_aload_n hx hb dX11_perform_124 rfl (lv_at hl 3 rfl) ?_
  refine lv_iload_n hx hb dX11_perform_125 rfl (lv_at hl 2 rfl) ?_
  obtain ⟨r37, s38, g39, h⟩ := ob_e h
  refine g_callVi (nA := 1) (mX6_pass l D cA ad adF adW tt a fr ST hT nF k1 hk1 y2 s0 r37 s38 g39) G hP hD hS (g_good q3_110 q3_111 q3_112 q1_2 q3_113) (by decide +kernel) (by decide) (ltM_0 hk1) (sM_0 hk1) rfl rfl hl.1 [] rfl (Nat.le_of_ble_eq_true rfl) dX11_perform_126 (fun H locs hP hD hS => ?_)
  exact g_ret G hP hD hS h rfl dX11_perform_129
noncomputable def fX11_tryCommands_L13b (nF : Nat) (K13 : Int32 → St → Option (Int32 × St)) (x1 : Int32) (s1 : St) : Option (Int32 × St) :=
  if (s1 214 4) ≤ x1 then
    some ((-1), s1)
  else
    BND x1 12 <|
    OB (fX11_faultOfCommand nF 19 (217 + 2 * x1.toNatClampNeg) s1) fun r3 s4 =>
    BND r3 6 <|
    if r3.toNatClampNeg = (0 : Int32).toNatClampNeg then
      OB (fX11_perform nF 19 (217 + 2 * x1.toNatClampNeg) s4) fun r8 s9 =>
      LET (x1 + 1) fun y11 =>
      K13 y11 s9
    else
      some (x1, s4)
noncomputable def fX11_tryCommands_L13 (nF : Nat) : Nat → Int32 → St → Option (Int32 × St) := fun k_ => Nat.rec (fun _ _ => none) (fun _ K => fX11_tryCommands_L13b nF K) k_
theorem fX11_tryCommands_L13_s (nF : Nat) (k_ : Nat) : fX11_tryCommands_L13 nF (k_ + 1) = fX11_tryCommands_L13b nF (fX11_tryCommands_L13 nF k_) := rfl
noncomputable def fX11_tryCommands (nF : Nat) (s0 : St) : Option (Int32 × St) :=
  OB (fX6_copyFrom nF 19 0 s0) fun r12 s13 =>
  fX11_tryCommands_L13 nF nF 0 s13
set_option maxHeartbeats 4000000 in
set_option maxRecDepth 100000 in
theorem mX11_tryCommands (l : Launch) (D : va_G) (cA : Nat → ClassId) (ad adF adW tt a : Nat → Nat) (fr : va_W) (ST : gST) (hT : STE ad adF adW tt ST) (nF : Nat) (s0 : St) (r : Int32) (s' : St) (h : fX11_tryCommands nF s0 = some (r, s')) : gMet l yX11_tryCommands cX11_tryCommands 3 (some .int) 5 D (TYS cA) ST (wc cA ad a fr s0) [.ref (a 209)] (fun A => gQi D (TYS cA) A (wc cA ad a fr) r s') := by
  refine g_ofW hT.1 (by decide +kernel) (Nat.le_of_ble_eq_true rfl) ?_
  intro p e s m args below meth c ls A G hP hD hl
  have G : GC p s m args meth c cX11_tryCommands 3 RX11 (some .int) A D (TYS cA) ST := G
  have hx := G.1
  have hb := G.2.1
  have hS : va_S A s.heap s.heap [] := va_S.rf
  have hl : lv_has ls 3 [(0, .ref (a 209))] := hl
  have hB13 : ∀ (K13 : Int32 → St → Option (Int32 × St)), (∀ (x1 : Int32) (s1 : St), K13 x1 s1 = some (r, s') → ∀ (H : Heap) (locs : List Loc) (ls : Array Slot), va_P D vwCl (wc cA ad a fr s1) H → va_D A (wc cA ad a fr s1) → va_S A s.heap H locs → lv_has ls 3 [(0, .ref (a 209)), (1, .int x1)] → W p l e (RM 5) s m args below meth c H locs 0 0 (MQ below (gQi D (TYS cA) A (wc cA ad a fr) r s') args s 0 0 A) (F0 m 13 ls [])) → ∀ (x1 : Int32) (s1 : St), fX11_tryCommands_L13b nF K13 x1 s1 = some (r, s') → ∀ (H : Heap) (locs : List Loc) (ls : Array Slot), va_P D vwCl (wc cA ad a fr s1) H → va_D A (wc cA ad a fr s1) → va_S A s.heap H locs → lv_has ls 3 [(0, .ref (a 209)), (1, .int x1)] → W p l e (RM 5) s m args below meth c H locs 0 0 (MQ below (gQi D (TYS cA) A (wc cA ad a fr) r s') args s 0 0 A) (F0 m 13 ls []) := by
    intro K13 hK13 x1 s1 h H locs ls hP hD hS hl
    unfold fX11_tryCommands_L13b at h
    refine lv_iload_n hx hb dX11_tryCommands_13 rfl (lv_at hl 1 rfl) ?_
    refine lv_aload_n hx hb dX11_tryCommands_14 rfl (lv_at hl 0 rfl) ?_
    refine gfX11_43 G hP dX11_tryCommands_15 ?_
    refine gfX11_374 G hP dX11_tryCommands_18 ?_
    refine lv_icmp_ge (tgt := 65) hx hb dX11_tryCommands_21 (by decide) (fun c1 => ?_) (fun c1 => ?_)
    · replace h := it_t c1 h
      refine lv_iconst (v := (-1)) hx hb dX11_tryCommands_65 (by decide) ?_
      exact g_ret G hP hD hS h rfl dX11_tryCommands_66
    · replace h := it_f c1 h
      refine lv_aload_n hx hb dX11_tryCommands_24 rfl (lv_at hl 0 rfl) ?_
      refine gfX11_43 G hP dX11_tryCommands_25 ?_
      refine gfX11_441 G hP dX11_tryCommands_28 ?_
      refine lv_iload_n hx hb dX11_tryCommands_31 rfl (lv_at hl 1 rfl) ?_
      obtain ⟨b2, h⟩ := bnd_e h
      refine g_aald (t := 3) G hP 216 (by decide) sc_216 rfl b2 dX11_tryCommands_32 ?_
      refine lv_astore_n (lv' := [(2, .ref (a (217 + 2 * x1.toNatClampNeg))), (0, .ref (a 209)), (1, .int x1)]) hx hb dX11_tryCommands_33 rfl hl (by decide) rfl (fun ls hl => ?_)
      refine lv_aload_n hx hb dX11_tryCommands_34 rfl (lv_at hl 1 rfl) ?_
      refine gfX11_16 G hP dX11_tryCommands_35 ?_
      refine lv_aload_n hx hb dX11_tryCommands_38 rfl (lv_at hl 0 rfl) ?_
      obtain ⟨r3, s4, g5, h⟩ := ob_e h
      refine g_callSXe (nA := 2) (mX11_faultOfCommand l D cA ad adF adW tt a fr ST hT nF 19 (217 + 2 * x1.toNatClampNeg) isM_19 (isC_j (vp_lt b2)) s1 r3 s4 g5) G hP hD hS (g_goodSX q5_33 q5_34 q1_1 q5_35) (by decide +kernel) (by decide) rfl hl.1 [] rfl (Nat.le_of_ble_eq_true rfl) dX11_tryCommands_39 (fun H locs hP hD hS => ?_)
      obtain ⟨b6, h⟩ := bnd_e h
      rw [re_some _ (fun q => b6 (Or.inl q))]
      refine g_getF (v := 0) 0 (by decide) rfl hT G hS q5_62 dX11_tryCommands_42 ?_
      refine lv_acmp_eq (rx := some (adF r3.toNatClampNeg)) (ry := some (adF ((0 : Int32).toNatClampNeg))) (tgt := 50) hx hb dX11_tryCommands_45 (by decide) (fun c7 => ?_) (fun c7 => ?_)
      · replace h := it_t (show r3.toNatClampNeg = (0 : Int32).toNatClampNeg from (hT.2 _ _ G.2.2.2.2.2.2.2.2.2.2.1).1.2 _ _ (vp_lt b6) (by decide) (Option.some.inj c7)) h
        refine lv_aload_n hx hb dX11_tryCommands_50 rfl (lv_at hl 1 rfl) ?_
        refine gfX11_16 G hP dX11_tryCommands_51 ?_
        refine lv_aload_n hx hb dX11_tryCommands_54 rfl (lv_at hl 0 rfl) ?_
        obtain ⟨r8, s9, g10, h⟩ := ob_e h
        refine g_callSXi (nA := 2) (mX11_perform l D cA ad adF adW tt a fr ST hT nF 19 (217 + 2 * x1.toNatClampNeg) isM_19 (isC_j (vp_lt b2)) s4 r8 s9 g10) G hP hD hS (g_goodSX q5_63 q5_64 q1_1 q5_65) (by decide +kernel) (by decide) rfl hl.1 [] rfl (Nat.le_of_ble_eq_true rfl) dX11_tryCommands_55 (fun H locs hP hD hS => ?_)
        refine lv_pop hx hb dX11_tryCommands_58 rfl ?_
        obtain ⟨y11, ey11⟩ : ∃ y : Int32, y = x1 + 1 := ⟨_, rfl⟩
        replace h := let_e ey11 h
        refine lv_iinc (v := y11) (lv' := [(1, .int y11), (2, .ref (a (217 + 2 * x1.toNatClampNeg))), (0, .ref (a 209))]) hx hb dX11_tryCommands_59 hl (k := 2) rfl (by rw [ey11]; rfl) (by decide) rfl (fun ls hl => ?_)
        refine lv_goto (tgt := 13) hx hb dX11_tryCommands_62 (by decide) ?_
        exact hK13 y11 s9 h _ _ ls hP hD hS (lv_sub hl [2, 0] rfl)
      · replace h := it_f (show ¬ r3.toNatClampNeg = (0 : Int32).toNatClampNeg from fun q => c7 (congrArg (fun z => some (adF z)) q)) h
        refine lv_iload_n hx hb dX11_tryCommands_48 rfl (lv_at hl 2 rfl) ?_
        exact g_ret G hP hD hS h rfl dX11_tryCommands_49
  have hL13 : ∀ k_ : Nat, ∀ (x1 : Int32) (s1 : St), fX11_tryCommands_L13 nF k_ x1 s1 = some (r, s') → ∀ (H : Heap) (locs : List Loc) (ls : Array Slot), va_P D vwCl (wc cA ad a fr s1) H → va_D A (wc cA ad a fr s1) → va_S A s.heap H locs → lv_has ls 3 [(0, .ref (a 209)), (1, .int x1)] → W p l e (RM 5) s m args below meth c H locs 0 0 (MQ below (gQi D (TYS cA) A (wc cA ad a fr) r s') args s 0 0 A) (F0 m 13 ls []) := by
    intro k_
    induction k_ with
    | zero => intro x1 s1 h; cases h
    | succ k_ ih => exact hB13 (fX11_tryCommands_L13 nF k_) ih
  unfold fX11_tryCommands at h
  refine lv_aload_n hx hb dX11_tryCommands_0 rfl (lv_at hl 0 rfl) ?_
  refine gfX11_16 G hP dX11_tryCommands_1 ?_
  refine lv_aload_n hx hb dX11_tryCommands_4 rfl (lv_at hl 0 rfl) ?_
  refine gfX11_10 G hP dX11_tryCommands_5 ?_
  obtain ⟨r12, s13, g14, h⟩ := ob_e h
  refine g_callVv (nA := 1) (mX6_copyFrom l D cA ad adF adW tt a fr ST hT nF 19 0 isM_19 isM_0 s0 r12 s13 g14) G hP hD hS (g_good q4_65 q3_11 q3_12 q1_2 q3_13) (by decide +kernel) (by decide) (ltM_0 isM_19) (sM_0 isM_19) rfl rfl hl.1 [] rfl (Nat.le_of_ble_eq_true rfl) dX11_tryCommands_8 (fun H locs hP hD hS => ?_)
  refine lv_iconst (v := 0) hx hb dX11_tryCommands_11 (by decide) ?_
  refine lv_istore_n (lv' := [(1, .int 0), (0, .ref (a 209))]) hx hb dX11_tryCommands_12 rfl hl (by decide) rfl (fun ls hl => ?_)
  exact hL13 nF 0 s13 h _ _ ls hP hD hS (lv_sub hl [1, 0] rfl)
noncomputable def fX11_save (nF : Nat) (s0 : St) : Option (Int32 × St) :=
  OB (fX6_copyFrom nF 38 0 s0) fun r1 s2 =>
  LET (u2 s2 209 3 1) fun s4 =>
  some (s4 (0 + 1) 5, s4)
set_option maxHeartbeats 4000000 in
set_option maxRecDepth 100000 in
theorem mX11_save (l : Launch) (D : va_G) (cA : Nat → ClassId) (ad adF adW tt a : Nat → Nat) (fr : va_W) (ST : gST) (hT : STE ad adF adW tt ST) (nF : Nat) (s0 : St) (r : Int32) (s' : St) (h : fX11_save nF s0 = some (r, s')) : gMet l yX11_save cX11_save 1 (some .int) 4 D (TYS cA) ST (wc cA ad a fr s0) [.ref (a 209)] (fun A => gQi D (TYS cA) A (wc cA ad a fr) r s') := by
  refine g_ofW hT.1 (by decide +kernel) (Nat.le_of_ble_eq_true rfl) ?_
  intro p e s m args below meth c ls A G hP hD hl
  have G : GC p s m args meth c cX11_save 1 RX11 (some .int) A D (TYS cA) ST := G
  have hx := G.1
  have hb := G.2.1
  have hS : va_S A s.heap s.heap [] := va_S.rf
  have hl : lv_has ls 1 [(0, .ref (a 209))] := hl
  unfold fX11_save at h
  refine lv_aload_n hx hb dX11_save_0 rfl (lv_at hl 0 rfl) ?_
  refine gfX11_19 G hP dX11_save_1 ?_
  refine lv_aload_n hx hb dX11_save_4 rfl (lv_at hl 0 rfl) ?_
  refine gfX11_10 G hP dX11_save_5 ?_
  obtain ⟨r1, s2, g3, h⟩ := ob_e h
  refine g_callVv (nA := 1) (mX6_copyFrom l D cA ad adF adW tt a fr ST hT nF 38 0 isM_38 isM_0 s0 r1 s2 g3) G hP hD hS (g_good q4_65 q3_11 q3_12 q1_2 q3_13) (by decide +kernel) (by decide) (ltM_0 isM_38) (sM_0 isM_38) rfl rfl hl.1 [] rfl (Nat.le_of_ble_eq_true rfl) dX11_save_8 (fun H locs hP hD hS => ?_)
  refine lv_aload_n hx hb dX11_save_11 rfl (lv_at hl 0 rfl) ?_
  refine lv_iconst (v := 1) hx hb dX11_save_12 (by decide) ?_
  refine pfX11_22 G hP hD hS (Or.inr rfl) dX11_save_13 (fun s4 es4 H locs hP hD hS => ?_)
  replace h := let_e es4 h
  refine lv_aload_n hx hb dX11_save_16 rfl (lv_at hl 0 rfl) ?_
  refine gfX11_10 G hP dX11_save_17 ?_
  refine gfX11_126 isM_0 G hP dX11_save_20 ?_
  refine gfX11_130 (mN isM_0) G hP dX11_save_23 ?_
  exact g_ret G hP hD hS h rfl dX11_save_26
noncomputable def fX11_time (s0 : St) : Option (Int32 × St) :=
  some (s0 0 6, s0)
set_option maxHeartbeats 4000000 in
set_option maxRecDepth 100000 in
theorem mX11_time (l : Launch) (D : va_G) (cA : Nat → ClassId) (ad adF adW tt a : Nat → Nat) (fr : va_W) (ST : gST) (hT : STE ad adF adW tt ST) (s0 : St) (r : Int32) (s' : St) (h : fX11_time s0 = some (r, s')) : gMet l yX11_time cX11_time 1 (some .int) 0 D (TYS cA) ST (wc cA ad a fr s0) [.ref (a 209)] (fun A => gQi D (TYS cA) A (wc cA ad a fr) r s') := by
  refine g_ofW hT.1 (by decide +kernel) (Nat.le_of_ble_eq_true rfl) ?_
  intro p e s m args below meth c ls A G hP hD hl
  have G : GC p s m args meth c cX11_time 1 RX11 (some .int) A D (TYS cA) ST := G
  have hx := G.1
  have hb := G.2.1
  have hS : va_S A s.heap s.heap [] := va_S.rf
  have hl : lv_has ls 1 [(0, .ref (a 209))] := hl
  unfold fX11_time at h
  refine lv_aload_n hx hb dX11_time_0 rfl (lv_at hl 0 rfl) ?_
  refine gfX11_10 G hP dX11_time_1 ?_
  refine gfX11_123 isM_0 G hP dX11_time_4 ?_
  exact g_ret G hP hD hS h rfl dX11_time_7
noncomputable def fX11_lostForRoom (s0 : St) : Option (Int32 × St) :=
  some (s0 (0 + 7) 6, s0)
set_option maxHeartbeats 4000000 in
set_option maxRecDepth 100000 in
theorem mX11_lostForRoom (l : Launch) (D : va_G) (cA : Nat → ClassId) (ad adF adW tt a : Nat → Nat) (fr : va_W) (ST : gST) (hT : STE ad adF adW tt ST) (s0 : St) (r : Int32) (s' : St) (h : fX11_lostForRoom s0 = some (r, s')) : gMet l yX11_lostForRoom cX11_lostForRoom 1 (some .int) 0 D (TYS cA) ST (wc cA ad a fr s0) [.ref (a 209)] (fun A => gQi D (TYS cA) A (wc cA ad a fr) r s') := by
  refine g_ofW hT.1 (by decide +kernel) (Nat.le_of_ble_eq_true rfl) ?_
  intro p e s m args below meth c ls A G hP hD hl
  have G : GC p s m args meth c cX11_lostForRoom 1 RX11 (some .int) A D (TYS cA) ST := G
  have hx := G.1
  have hb := G.2.1
  have hS : va_S A s.heap s.heap [] := va_S.rf
  have hl : lv_has ls 1 [(0, .ref (a 209))] := hl
  unfold fX11_lostForRoom at h
  refine lv_aload_n hx hb dX11_lostForRoom_0 rfl (lv_at hl 0 rfl) ?_
  refine gfX11_10 G hP dX11_lostForRoom_1 ?_
  refine gfX11_208 isM_0 G hP dX11_lostForRoom_4 ?_
  refine gfX11_255 (mS isM_0) G hP dX11_lostForRoom_7 ?_
  exact g_ret G hP hD hS h rfl dX11_lostForRoom_10
