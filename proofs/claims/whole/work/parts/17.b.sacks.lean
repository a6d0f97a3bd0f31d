def txS (f0 o0 f1 o1 f2 o2 f3 o3 : Nat) : List Nat := [] ++ decL f0 ++ [43] ++ decL o0 ++ [32] ++ decL f1 ++ [43] ++ decL o1 ++ [32] ++ decL f2 ++ [43] ++ decL o2 ++ [32] ++ decL f3 ++ [43] ++ decL o3
set_option maxHeartbeats 8000000 in
set_option maxRecDepth 100000 in
theorem mX11_renderSacks (l : Launch) (D : va_G) (cA : Nat → ClassId) (ad adF adW tt a : Nat → Nat) (fr0 fr : va_W) (ST : gST) (hT : STE ad adF adW tt ST) (hW : STW adW tt ST) (hSP : STP ST) (hSD : STD tt ST) (T : List Nat) (b : SBb) (hok : SBT T b) (f0 o0 f1 o1 f2 o2 f3 o3 : Nat) (s0 : St) (hf0 : fX9_full (0 + 7) 0 s0 = some (nI f0, s0)) (ho0 : fX9_open (0 + 7) 0 s0 = some (nI o0, s0)) (hf1 : fX9_full (0 + 7) 1 s0 = some (nI f1, s0)) (ho1 : fX9_open (0 + 7) 1 s0 = some (nI o1, s0)) (hf2 : fX9_full (0 + 7) 2 s0 = some (nI f2, s0)) (ho2 : fX9_open (0 + 7) 2 s0 = some (nI o2, s0)) (hf3 : fX9_full (0 + 7) 3 s0 = some (nI f3, s0)) (ho3 : fX9_open (0 + 7) 3 s0 = some (nI o3, s0)) (hb9 : f0 < 10 ∧ f1 < 10 ∧ f2 < 10 ∧ f3 < 10 ∧ o0 < 100 ∧ o1 < 100 ∧ o2 < 100 ∧ o3 < 100) : gMetG l yX11_renderSacks cX11_renderSacks 2 (some .int) 10 20 680 D (TYS cA) ST (wc cA ad a (fr0 ++ (sbC cA (a 241) T.length b ++ fr)) s0) [.ref (a 209)] (fun A => gGi D (TYS cA) (fun r (b9 : SBb) => r = nI (txS f0 o0 f1 o1 f2 o2 f3 o3).length ∧ SBT (txS f0 o0 f1 o1 f2 o2 f3 o3) b9) (fun b9 => wc cA ad a (fr0 ++ (sbC cA (a 241) (txS f0 o0 f1 o1 f2 o2 f3 o3).length b9 ++ fr)) s0) A) := by
  obtain ⟨z0, z1, z2, z3, z4, z5, z6, z7⟩ := hb9
  have q0 : sb_dg f0 ≤ 1 := by unfold sb_dg; rw [if_pos z0]; decide
  have q1 : sb_dg f1 ≤ 1 := by unfold sb_dg; rw [if_pos z1]; decide
  have q2 : sb_dg f2 ≤ 1 := by unfold sb_dg; rw [if_pos z2]; decide
  have q3 : sb_dg f3 ≤ 1 := by unfold sb_dg; rw [if_pos z3]; decide
  have r0 := dg2 z4
  have r1 := dg2 z5
  have r2 := dg2 z6
  have r3 := dg2 z7
  refine g_ofWG hT.1 (by decide +kernel) (Nat.le_of_ble_eq_true rfl) ?_
  intro p e s m args below meth c ls A G hP hD hl
  have G : GC p s m args meth c cX11_renderSacks 2 RX11 (some .int) A D (TYS cA) ST := G
  have hx := G.1
  have hb := G.2.1
  have hS : va_S A s.heap s.heap [] := va_S.rf
  have hl : lv_has ls 2 [(0, .ref (a 209))] := hl
  refine lv_aload_n hx hb dX11_renderSacks_0 rfl (lv_at hl 0 rfl) ?_
  refine gfX11_50 G hP dX11_renderSacks_1 ?_
  refine lv_iconst (v := 0) hx hb dX11_renderSacks_4 (by decide) ?_
  refine sbr_0 hT hW hSP hSD hok G hP hD hS rfl (by decide) hl.1 (Nat.le_of_ble_eq_true rfl) dX11_renderSacks_5 (fun b1 H locs hok1 hP hD hS => ?_)
  refine lv_iconst (v := 0) hx hb dX11_renderSacks_8 (by decide) ?_
  refine lv_istore_n (lv' := [(1, .int 0), (0, .ref (a 209))]) hx hb dX11_renderSacks_9 rfl hl (by decide) rfl (fun ls hl => ?_)
  refine lv_iload_n hx hb dX11_renderSacks_10 rfl (lv_at hl 0 rfl) ?_
  refine lv_iconst (v := 4) hx hb dX11_renderSacks_11 (by decide) ?_
  refine lv_icmp_ge (tgt := 73) hx hb dX11_renderSacks_12 (by decide) (fun c9 => absurd c9 (by decide)) (fun c9 => ?_)
  refine lv_iload_n hx hb dX11_renderSacks_15 rfl (lv_at hl 0 rfl) ?_
  refine lv_if_le (tgt := 29) hx hb dX11_renderSacks_16 (by decide) (fun c9 => ?_) (fun c9 => absurd (by decide) c9)
  refine lv_aload_n hx hb dX11_renderSacks_29 rfl (lv_at hl 1 rfl) ?_
  refine gfX11_50 G hP dX11_renderSacks_30 ?_
  refine lv_aload_n hx hb dX11_renderSacks_33 rfl (lv_at hl 1 rfl) ?_
  refine gfX11_10 G hP dX11_renderSacks_34 ?_
  refine gfX11_208 isM_0 G hP dX11_renderSacks_37 ?_
  refine lv_iload_n hx hb dX11_renderSacks_40 rfl (lv_at hl 0 rfl) ?_
  refine gg_callVi (nA := 1) (mX9_full l D cA ad adF adW tt a (fr0 ++ (sbC cA (a 241) [].length b1 ++ fr)) ST hT (0 + 7) (mS isM_0) 0 s0 (nI f0) s0 hf0) G hP hD hS (g_good q4_154 q4_155 q4_156 q1_4 q4_157) (by decide +kernel) (by decide) (ltS_0 (mS isM_0)) (sS_0 (mS isM_0)) rfl rfl hl.1 [.ref (a 241)] rfl (Nat.le_of_ble_eq_true rfl) dX11_renderSacks_41 (fun H locs hP hD hS => ?_)
  refine sbr_I (v := f0) hT hW hSP hSD hok1 G hP hD hS (rfl) (by omega) (by simp only [List.length_append, List.length_cons, List.length_nil, decL_len]; omega) (by decide) hl.1 (Nat.le_of_ble_eq_true rfl) dX11_renderSacks_44 (fun b2 H locs hok2 hP hD hS => ?_)
  refine lv_bipush (v := 43) hx hb dX11_renderSacks_47 (by decide) ?_
  refine sbr_C (v := 43) hT hW hSP hSD hok2 G hP hD hS rfl (by decide) (by simp only [List.length_append, List.length_cons, List.length_nil, decL_len]; omega) (by decide) hl.1 (Nat.le_of_ble_eq_true rfl) dX11_renderSacks_49 (fun b3 H locs hok3 hP hD hS => ?_)
  refine lv_aload_n hx hb dX11_renderSacks_52 rfl (lv_at hl 1 rfl) ?_
  refine gfX11_10 G hP dX11_renderSacks_53 ?_
  refine gfX11_208 isM_0 G hP dX11_renderSacks_56 ?_
  refine lv_iload_n hx hb dX11_renderSacks_59 rfl (lv_at hl 0 rfl) ?_
  refine gg_callVi (nA := 1) (mX9_open l D cA ad adF adW tt a (fr0 ++ (sbC cA (a 241) ([] ++ decL f0 ++ [43]).length b3 ++ fr)) ST hT (0 + 7) (mS isM_0) 0 s0 (nI o0) s0 ho0) G hP hD hS (g_good q4_159 q4_160 q4_161 q1_4 q4_162) (by decide +kernel) (by decide) (ltS_0 (mS isM_0)) (sS_0 (mS isM_0)) rfl rfl hl.1 [.ref (a 241)] rfl (Nat.le_of_ble_eq_true rfl) dX11_renderSacks_60 (fun H locs hP hD hS => ?_)
  refine sbr_I (v := o0) hT hW hSP hSD hok3 G hP hD hS (rfl) (by omega) (by simp only [List.length_append, List.length_cons, List.length_nil, decL_len]; omega) (by decide) hl.1 (Nat.le_of_ble_eq_true rfl) dX11_renderSacks_63 (fun b4 H locs hok4 hP hD hS => ?_)
  refine lv_pop hx hb dX11_renderSacks_66 rfl ?_
  refine lv_iinc (v := 1) (lv' := [(1, .int 1), (0, .ref (a 209))]) hx hb dX11_renderSacks_67 hl (k := 0) rfl (by decide) (by decide) rfl (fun ls hl => ?_)
  refine lv_goto (tgt := 10) hx hb dX11_renderSacks_70 (by decide) ?_
  refine lv_iload_n hx hb dX11_renderSacks_10 rfl (lv_at hl 0 rfl) ?_
  refine lv_iconst (v := 4) hx hb dX11_renderSacks_11 (by decide) ?_
  refine lv_icmp_ge (tgt := 73) hx hb dX11_renderSacks_12 (by decide) (fun c9 => absurd c9 (by decide)) (fun c9 => ?_)
  refine lv_iload_n hx hb dX11_renderSacks_15 rfl (lv_at hl 0 rfl) ?_
  refine lv_if_le (tgt := 29) hx hb dX11_renderSacks_16 (by decide) (fun c9 => absurd c9 (by decide)) (fun c9 => ?_)
  refine lv_aload_n hx hb dX11_renderSacks_19 rfl (lv_at hl 1 rfl) ?_
  refine gfX11_50 G hP dX11_renderSacks_20 ?_
  refine lv_bipush (v := 32) hx hb dX11_renderSacks_23 (by decide) ?_
  refine sbr_C (v := 32) hT hW hSP hSD hok4 G hP hD hS rfl (by decide) (by simp only [List.length_append, List.length_cons, List.length_nil, decL_len]; omega) (by decide) hl.1 (Nat.le_of_ble_eq_true rfl) dX11_renderSacks_25 (fun b5 H locs hok5 hP hD hS => ?_)
  refine lv_pop hx hb dX11_renderSacks_28 rfl ?_
  refine lv_aload_n hx hb dX11_renderSacks_29 rfl (lv_at hl 1 rfl) ?_
  refine gfX11_50 G hP dX11_renderSacks_30 ?_
  refine lv_aload_n hx hb dX11_renderSacks_33 rfl (lv_at hl 1 rfl) ?_
  refine gfX11_10 G hP dX11_renderSacks_34 ?_
  refine gfX11_208 isM_0 G hP dX11_renderSacks_37 ?_
  refine lv_iload_n hx hb dX11_renderSacks_40 rfl (lv_at hl 0 rfl) ?_
  refine gg_callVi (nA := 1) (mX9_full l D cA ad adF adW tt a (fr0 ++ (sbC cA (a 241) ([] ++ decL f0 ++ [43] ++ decL o0 ++ [32]).length b5 ++ fr)) ST hT (0 + 7) (mS isM_0) 1 s0 (nI f1) s0 hf1) G hP hD hS (g_good q4_154 q4_155 q4_156 q1_4 q4_157) (by decide +kernel) (by decide) (ltS_0 (mS isM_0)) (sS_0 (mS isM_0)) rfl rfl hl.1 [.ref (a 241)] rfl (Nat.le_of_ble_eq_true rfl) dX11_renderSacks_41 (fun H locs hP hD hS => ?_)
  refine sbr_I (v := f1) hT hW hSP hSD hok5 G hP hD hS (rfl) (by omega) (by simp only [List.length_append, List.length_cons, List.length_nil, decL_len]; omega) (by decide) hl.1 (Nat.le_of_ble_eq_true rfl) dX11_renderSacks_44 (fun b6 H locs hok6 hP hD hS => ?_)
  refine lv_bipush (v := 43) hx hb dX11_renderSacks_47 (by decide) ?_
  refine sbr_C (v := 43) hT hW hSP hSD hok6 G hP hD hS rfl (by decide) (by simp only [List.length_append, List.length_cons, List.length_nil, decL_len]; omega) (by decide) hl.1 (Nat.le_of_ble_eq_true rfl) dX11_renderSacks_49 (fun b7 H locs hok7 hP hD hS => ?_)
  refine lv_aload_n hx hb dX11_renderSacks_52 rfl (lv_at hl 1 rfl) ?_
  refine gfX11_10 G hP dX11_renderSacks_53 ?_
  refine gfX11_208 isM_0 G hP dX11_renderSacks_56 ?_
  refine lv_iload_n hx hb dX11_renderSacks_59 rfl (lv_at hl 0 rfl) ?_
  refine gg_callVi (nA := 1) (mX9_open l D cA ad adF adW tt a (fr0 ++ (sbC cA (a 241) ([] ++ decL f0 ++ [43] ++ decL o0 ++ [32] ++ decL f1 ++ [43]).length b7 ++ fr)) ST hT (0 + 7) (mS isM_0) 1 s0 (nI o1) s0 ho1) G hP hD hS (g_good q4_159 q4_160 q4_161 q1_4 q4_162) (by decide +kernel) (by decide) (ltS_0 (mS isM_0)) (sS_0 (mS isM_0)) rfl rfl hl.1 [.ref (a 241)] rfl (Nat.le_of_ble_eq_true rfl) dX11_renderSacks_60 (fun H locs hP hD hS => ?_)
  refine sbr_I (v := o1) hT hW hSP hSD hok7 G hP hD hS (rfl) (by omega) (by simp only [List.length_append, List.length_cons, List.length_nil, decL_len]; omega) (by decide) hl.1 (Nat.le_of_ble_eq_true rfl) dX11_renderSacks_63 (fun b8 H locs hok8 hP hD hS => ?_)
  refine lv_pop hx hb dX11_renderSacks_66 rfl ?_
  refine lv_iinc (v := 2) (lv' := [(1, .int 2), (0, .ref (a 209))]) hx hb dX11_renderSacks_67 hl (k := 0) rfl (by decide) (by decide) rfl (fun ls hl => ?_)
  refine lv_goto (tgt := 10) hx hb dX11_renderSacks_70 (by decide) ?_
  refine lv_iload_n hx hb dX11_renderSacks_10 rfl (lv_at hl 0 rfl) ?_
  refine lv_iconst (v := 4) hx hb dX11_renderSacks_11 (by decide) ?_
  refine lv_icmp_ge (tgt := 73) hx hb dX11_renderSacks_12 (by decide) (fun c9 => absurd c9 (by decide)) (fun c9 => ?_)
  refine lv_iload_n hx hb dX11_renderSacks_15 rfl (lv_at hl 0 rfl) ?_
  refine lv_if_le (tgt := 29) hx hb dX11_renderSacks_16 (by decide) (fun c9 => absurd c9 (by decide)) (fun c9 => ?_)
  refine lv_aload_n hx hb dX11_renderSacks_19 rfl (lv_at hl 1 rfl) ?_
  refine gfX11_50 G hP dX11_renderSacks_20 ?_
  refine lv_bipush (v := 32) hx hb dX11_renderSacks_23 (by decide) ?_
  refine sbr_C (v := 32) hT hW hSP hSD hok8 G hP hD hS rfl (by decide) (by simp only [List.length_append, List.length_cons, List.length_nil, decL_len]; omega) (by decide) hl.1 (Nat.le_of_ble_eq_true rfl) dX11_renderSacks_25 (fun b9 H locs hok9 hP hD hS => ?_)
  refine lv_pop hx hb dX11_renderSacks_28 rfl ?_
  refine lv_aload_n hx hb dX11_renderSacks_29 rfl (lv_at hl 1 rfl) ?_
  refine gfX11_50 G hP dX11_renderSacks_30 ?_
  refine lv_aload_n hx hb dX11_renderSacks_33 rfl (lv_at hl 1 rfl) ?_
  refine gfX11_10 G hP dX11_renderSacks_34 ?_
  refine gfX11_208 isM_0 G hP dX11_renderSacks_37 ?_
  refine lv_iload_n hx hb dX11_renderSacks_40 rfl (lv_at hl 0 rfl) ?_
  refine gg_callVi (nA := 1) (mX9_full l D cA ad adF adW tt a (fr0 ++ (sbC cA (a 241) ([] ++ decL f0 ++ [43] ++ decL o0 ++ [32] ++ decL f1 ++ [43] ++ decL o1 ++ [32]).length b9 ++ fr)) ST hT (0 + 7) (mS isM_0) 2 s0 (nI f2) s0 hf2) G hP hD hS (g_good q4_154 q4_155 q4_156 q1_4 q4_157) (by decide +kernel) (by decide) (ltS_0 (mS isM_0)) (sS_0 (mS isM_0)) rfl rfl hl.1 [.ref (a 241)] rfl (Nat.le_of_ble_eq_true rfl) dX11_renderSacks_41 (fun H locs hP hD hS => ?_)
  refine sbr_I (v := f2) hT hW hSP hSD hok9 G hP hD hS (rfl) (by omega) (by simp only [List.length_append, List.length_cons, List.length_nil, decL_len]; omega) (by decide) hl.1 (Nat.le_of_ble_eq_true rfl) dX11_renderSacks_44 (fun b10 H locs hok10 hP hD hS => ?_)
  refine lv_bipush (v := 43) hx hb dX11_renderSacks_47 (by decide) ?_
  refine sbr_C (v := 43) hT hW hSP hSD hok10 G hP hD hS rfl (by decide) (by simp only [List.length_append, List.length_cons, List.length_nil, decL_len]; omega) (by decide) hl.1 (Nat.le_of_ble_eq_true rfl) dX11_renderSacks_49 (fun b11 H locs hok11 hP hD hS => ?_)
  refine lv_aload_n hx hb dX11_renderSacks_52 rfl (lv_at hl 1 rfl) ?_
  refine gfX11_10 G hP dX11_renderSacks_53 ?_
  refine gfX11_208 isM_0 G hP dX11_renderSacks_56 ?_
  refine lv_iload_n hx hb dX11_renderSacks_59 rfl (lv_at hl 0 rfl) ?_
  refine gg_callVi (nA := 1) (mX9_open l D cA ad adF adW tt a (fr0 ++ (sbC cA (a 241) ([] ++ decL f0 ++ [43] ++ decL o0 ++ [32] ++ decL f1 ++ [43] ++ decL o1 ++ [32] ++ decL f2 ++ [43]).length b11 ++ fr)) ST hT (0 + 7) (mS isM_0) 2 s0 (nI o2) s0 ho2) G hP hD hS (g_good q4_159 q4_160 q4_161 q1_4 q4_162) (by decide +kernel) (by decide) (ltS_0 (mS isM_0)) (sS_0 (mS isM_0)) rfl rfl hl.1 [.ref (a 241)] rfl (Nat.le_of_ble_eq_true rfl) dX11_renderSacks_60 (fun H locs hP hD hS => ?_)
  refine sbr_I (v := o2) hT hW hSP hSD hok11 G hP hD hS (rfl) (by omega) (by simp only [List.length_append, List.length_cons, List.length_nil, decL_len]; omega) (by decide) hl.1 (Nat.le_of_ble_eq_true rfl) dX11_renderSacks_63 (fun b12 H locs hok12 hP hD hS => ?_)
  refine lv_pop hx hb dX11_renderSacks_66 rfl ?_
  refine lv_iinc (v := 3) (lv' := [(1, .int 3), (0, .ref (a 209))]) hx hb dX11_renderSacks_67 hl (k := 0) rfl (by decide) (by decide) rfl (fun ls hl => ?_)
  refine lv_goto (tgt := 10) hx hb dX11_renderSacks_70 (by decide) ?_
  refine lv_iload_n hx hb dX11_renderSacks_10 rfl (lv_at hl 0 rfl) ?_
  refine lv_iconst (v := 4) hx hb dX11_renderSacks_11 (by decide) ?_
  refine lv_icmp_ge (tgt := 73) hx hb dX11_renderSacks_12 (by decide) (fun c9 => absurd c9 (by decide)) (fun c9 => ?_)
  refine lv_iload_n hx hb dX11_renderSacks_15 rfl (lv_at hl 0 rfl) ?_
  refine lv_if_le (tgt := 29) hx hb dX11_renderSacks_16 (by decide) (fun c9 => absurd c9 (by decide)) (fun c9 => ?_)
  refine lv_aload_n hx hb dX11_renderSacks_19 rfl (lv_at hl 1 rfl) ?_
  refine gfX11_50 G hP dX11_renderSacks_20 ?_
  refine lv_bipush (v := 32) hx hb dX11_renderSacks_23 (by decide) ?_
  refine sbr_C (v := 32) hT hW hSP hSD hok12 G hP hD hS rfl (by decide) (by simp only [List.length_append, List.length_cons, List.length_nil, decL_len]; omega) (by decide) hl.1 (Nat.le_of_ble_eq_true rfl) dX11_renderSacks_25 (fun b13 H locs hok13 hP hD hS => ?_)
  refine lv_pop hx hb dX11_renderSacks_28 rfl ?_
  refine lv_aload_n hx hb dX11_renderSacks_29 rfl (lv_at hl 1 rfl) ?_
  refine gfX11_50 G hP dX11_renderSacks_30 ?_
  refine lv_aload_n hx hb dX11_renderSacks_33 rfl (lv_at hl 1 rfl) ?_
  refine gfX11_10 G hP dX11_renderSacks_34 ?_
  refine gfX11_208 isM_0 G hP dX11_renderSacks_37 ?_
  refine lv_iload_n hx hb dX11_renderSacks_40 rfl (lv_at hl 0 rfl) ?_
  refine gg_callVi (nA := 1) (mX9_full l D cA ad adF adW tt a (fr0 ++ (sbC cA (a 241) ([] ++ decL f0 ++ [43] ++ decL o0 ++ [32] ++ decL f1 ++ [43] ++ decL o1 ++ [32] ++ decL f2 ++ [43] ++ decL o2 ++ [32]).length b13 ++ fr)) ST hT (0 + 7) (mS isM_0) 3 s0 (nI f3) s0 hf3) G hP hD hS (g_good q4_154 q4_155 q4_156 q1_4 q4_157) (by decide +kernel) (by decide) (ltS_0 (mS isM_0)) (sS_0 (mS isM_0)) rfl rfl hl.1 [.ref (a 241)] rfl (Nat.le_of_ble_eq_true rfl) dX11_renderSacks_41 (fun H locs hP hD hS => ?_)
  refine sbr_I (v := f3) hT hW hSP hSD hok13 G hP hD hS (rfl) (by omega) (by simp only [List.length_append, List.length_cons, List.length_nil, decL_len]; omega) (by decide) hl.1 (Nat.le_of_ble_eq_true rfl) dX11_renderSacks_44 (fun b14 H locs hok14 hP hD hS => ?_)
  refine lv_bipush (v := 43) hx hb dX11_renderSacks_47 (by decide) ?_
  refine sbr_C (v := 43) hT hW hSP hSD hok14 G hP hD hS rfl (by decide) (by simp only [List.length_append, List.length_cons, List.length_nil, decL_len]; omega) (by decide) hl.1 (Nat.le_of_ble_eq_true rfl) dX11_renderSacks_49 (fun b15 H locs hok15 hP hD hS => ?_)
  refine lv_aload_n hx hb dX11_renderSacks_52 rfl (lv_at hl 1 rfl) ?_
  refine gfX11_10 G hP dX11_renderSacks_53 ?_
  refine gfX11_208 isM_0 G hP dX11_renderSacks_56 ?_
  refine lv_iload_n hx hb dX11_renderSacks_59 rfl (lv_at hl 0 rfl) ?_
  refine gg_callVi (nA := 1) (mX9_open l D cA ad adF adW tt a (fr0 ++ (sbC cA (a 241) ([] ++ decL f0 ++ [43] ++ decL o0 ++ [32] ++ decL f1 ++ [43] ++ decL o1 ++ [32] ++ decL f2 ++ [43] ++ decL o2 ++ [32] ++ decL f3 ++ [43]).length b15 ++ fr)) ST hT (0 + 7) (mS isM_0) 3 s0 (nI o3) s0 ho3) G hP hD hS (g_good q4_159 q4_160 q4_161 q1_4 q4_162) (by decide +kernel) (by decide) (ltS_0 (mS isM_0)) (sS_0 (mS isM_0)) rfl rfl hl.1 [.ref (a 241)] rfl (Nat.le_of_ble_eq_true rfl) dX11_renderSacks_60 (fun H locs hP hD hS => ?_)
  refine sbr_I (v := o3) hT hW hSP hSD hok15 G hP hD hS (rfl) (by omega) (by simp only [List.length_append, List.length_cons, List.length_nil, decL_len]; omega) (by decide) hl.1 (Nat.le_of_ble_eq_true rfl) dX11_renderSacks_63 (fun b16 H locs hok16 hP hD hS => ?_)
  refine lv_pop hx hb dX11_renderSacks_66 rfl ?_
  refine lv_iinc (v := 4) (lv' := [(1, .int 4), (0, .ref (a 209))]) hx hb dX11_renderSacks_67 hl (k := 0) rfl (by decide) (by decide) rfl (fun ls hl => ?_)
  refine lv_goto (tgt := 10) hx hb dX11_renderSacks_70 (by decide) ?_
  refine lv_iload_n hx hb dX11_renderSacks_10 rfl (lv_at hl 0 rfl) ?_
  refine lv_iconst (v := 4) hx hb dX11_renderSacks_11 (by decide) ?_
  refine lv_icmp_ge (tgt := 73) hx hb dX11_renderSacks_12 (by decide) (fun c9 => ?_) (fun c9 => absurd (by decide) c9)
  refine lv_aload_n hx hb dX11_renderSacks_73 rfl (lv_at hl 1 rfl) ?_
  refine gfX11_50 G hP dX11_renderSacks_74 ?_
  refine sbr_len hT hW hSP hSD hok16 G hP hD hS (by decide) hl.1 (Nat.le_of_ble_eq_true rfl) dX11_renderSacks_77 (fun H locs hP hD hS => ?_)
  rw [show [] ++ decL f0 ++ [43] ++ decL o0 ++ [32] ++ decL f1 ++ [43] ++ decL o1 ++ [32] ++ decL f2 ++ [43] ++ decL o2 ++ [32] ++ decL f3 ++ [43] ++ decL o3 = txS f0 o0 f1 o1 f2 o2 f3 o3 from rfl] at hP hD hok16 ⊢
  exact c_reti b16 ⟨rfl, hok16⟩ rfl G hP hD hS (by decide) dX11_renderSacks_80
