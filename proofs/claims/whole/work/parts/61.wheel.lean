theorem cx_reti {p : Program} {l : Launch} {e : Env} {R : Room} {s : State} {m : MethodId} {args : Array Value} {below : List Frame} {meth : Method} {c : Code} {H : Heap} {locs : List Loc} {cells slots : Nat} {cc : ByteArray} {maxL : Nat} {pc : Nat} {ls : Array Slot} {D : va_G} {A : Nat → Prop} {cA : Nat → ClassId} {ST : gST} {own : String} {ty : FieldType} {β : Type} {ok : Int32 → β → Prop} {Wb : β → va_W} {n : Nat} {v : Int32} {XC : String → State → State → Prop} (b : β) (hok : ok v b) (hn : narrow ty (.int v) = .int v) (G : GC p s m args meth c cc maxL own (some ty) A D (TYS cA) ST) (hP : va_P D vwCl (Wb b) H) (hD : va_D A (Wb b)) (hS : va_S A s.heap H locs) (hc : cells ≤ n ∧ slots ≤ 6 * n) (hdg : decode cc pc = .ok (.ireturn, 1)) : W p l e R s m args below meth c H locs cells slots (vx_MQ below (gGi D (TYS cA) ok Wb A) XC args s n (6 * n) A) (F0 m pc ls [.int v]) := by
  obtain ⟨hx, hb, hml, hown, hts, hr, hlocks, hA, hK, hN, hX, hT⟩ := G
  refine W.widen (k := n) (n := 6 * n) hc.1 hc.2 (vx_ret ?_)
  exact W.zret hx hb hr hn (fun t ht hW => ⟨⟨v, b, rfl, hok, by rw [ht]; exact hP, va_K.moved hW.alike hK, hD⟩, hS.F ht⟩) hS.2.2 hdg
set_option maxHeartbeats 8000000 in
set_option maxRecDepth 100000 in
theorem mX11_renderWheel (l : Launch) (hlt : l.stackTraces = false) (D : va_G) (cA : Nat → ClassId) (ad adF adW tt a : Nat → Nat) (fr0 fr : va_W) (ST : gST) (hT : STE ad adF adW tt ST) (hW : STW adW tt ST) (hSP : STP ST) (hSD : STD tt ST) (hSX : STX ST) (T : List Nat) (b : SBb) (hok : SBT T b) (w gr we nm am : Nat) (st hd : Int32) (s0 : St) (hw3 : w < 3) (hreq : fX11_requireWheel (nI w) s0 = some ((0, 0), s0)) (hgr : s0 (0 + 16) w = nI gr) (hgr9 : gr < 100) (hwe : s0 (0 + 17) w = nI we) (hwe9 : we < 100) (hst : fX6_isStuck 0 (nI w) s0 = some (st, s0)) (hhd : fX7_isHeld (0 + 1) (nI w) s0 = some (hd, s0)) (hheld : ¬ hd = 0 → s0 (0 + 1 + 1) (12 + w) = nI nm ∧ s0 (0 + 1 + 4) (12 + w) = nI am) (hnm9 : nm < 2 ^ 31) (ham9 : am < 100) : gMetX l yX11_renderWheel cX11_renderWheel 3 (some .int) 70 10 D (TYS cA) ST (wc cA ad a (fr0 ++ (sbC cA (a 241) T.length b ++ fr)) s0) [.ref (a 209), .int (nI w)] (fun A => gGi D (TYS cA) (fun r (b9 : SBb) => 0 = 0 ∧ r = nI (txW w gr we st hd nm am).length ∧ SBT (txW w gr we st hd nm am) b9) (fun b9 => wc cA ad a (fr0 ++ (sbC cA (a 241) (txW w gr we st hd nm am).length b9 ++ fr)) s0) A) (fun A => gXC D (TYS cA) A (wc cA ad a (fr0 ++ (sbC cA (a 241) T.length b ++ fr))) 0 s0) := by
  have q1 := dg2 (show w < 100 by omega)
  have q2 := dg2 hgr9
  have q3 := dg2 hwe9
  have q4 := (sb_dg_in nm).2
  have q5 := dg2 ham9
  refine g_ofWX hT.1 (by decide +kernel) (Nat.le_of_ble_eq_true rfl) ?_
  intro p e s m args below meth c ls A G hnt hP hD hl
  have G : GC p s m args meth c cX11_renderWheel 3 RX11 (some .int) A D (TYS cA) ST := G
  have hx := G.1
  have hb := G.2.1
  have hS : va_S A s.heap s.heap [] := va_S.rf
  have hl : lv_has ls 3 [(0, .ref (a 209)), (1, .int (nI w))] := hl
  refine lv_iload_n hx hb dX11_renderWheel_0 rfl (lv_at hl 1 rfl) ?_
  refine gx_callSXv (nA := 1) (mX11_requireWheel l hlt D cA ad adF adW tt a (fr0 ++ (sbC cA (a 241) T.length b ++ fr)) ST hT hSX (nI w) s0 0 0 s0 hreq) G (X := some ((0, (0 : Int32)), s0)) (dv := 0) (cR := 0) (rR := 0) (σ' := s0) (if_pos rfl) hnt hP hD hS (g_goodSX q6_3 q6_4 q1_1 q6_5) (by decide +kernel) (by decide) rfl hl.1 [] rfl (Nat.le_of_ble_eq_true rfl) dX11_renderWheel_1 (fun _ H locs hP hD hS => ?_)
  refine lv_aload_n hx hb dX11_renderWheel_4 rfl (lv_at hl 0 rfl) ?_
  refine gfX11_50 G hP dX11_renderWheel_5 ?_
  refine lv_iconst (v := 0) hx hb dX11_renderWheel_8 (by decide) ?_
  refine sbq_0 hT hW hSP hSD hok G hP hD hS rfl (by decide) hl.1 (Nat.le_of_ble_eq_true rfl) dX11_renderWheel_9 (fun T1 b1 H locs hT1 hn1 hok1 hP hD hS => ?_)
  refine lv_aload_n hx hb dX11_renderWheel_12 rfl (lv_at hl 0 rfl) ?_
  refine gfX11_50 G hP dX11_renderWheel_13 ?_
  refine lv_iload_n hx hb dX11_renderWheel_16 rfl (lv_at hl 1 rfl) ?_
  refine sbq_I (v := w) hT hW hSP hSD hok1 G hP hD hS (rfl) (by omega) (by omega) (by decide) hl.1 (Nat.le_of_ble_eq_true rfl) dX11_renderWheel_17 (fun T2 b2 H locs hT2 hn2 hok2 hP hD hS => ?_)
  refine lv_bipush (v := 103) hx hb dX11_renderWheel_20 (by decide) ?_
  refine sbq_C (v := 103) hT hW hSP hSD hok2 G hP hD hS rfl (by decide) (by omega) (by decide) hl.1 (Nat.le_of_ble_eq_true rfl) dX11_renderWheel_22 (fun T3 b3 H locs hT3 hn3 hok3 hP hD hS => ?_)
  refine lv_aload_n hx hb dX11_renderWheel_25 rfl (lv_at hl 0 rfl) ?_
  refine gfX11_10 G hP dX11_renderWheel_26 ?_
  refine gfX11_193 isM_0 G hP dX11_renderWheel_29 ?_
  refine lv_iload_n hx hb dX11_renderWheel_32 rfl (lv_at hl 1 rfl) ?_
  refine g_ald (t := 0) (ty := .int) (Or.inl rfl) G hP (0 + 16) (ltM_16 isM_0) (sM_16 isM_0) rfl (vp_in_nI hw3 (by decide)) dX11_renderWheel_33 ?_
  rw [show s0 (0 + 16) (nI w).toNatClampNeg = nI gr from by rw [nI_clamp (by omega)]; exact hgr]
  refine sbq_I (v := gr) hT hW hSP hSD hok3 G hP hD hS (rfl) (by omega) (by omega) (by decide) hl.1 (Nat.le_of_ble_eq_true rfl) dX11_renderWheel_34 (fun T4 b4 H locs hT4 hn4 hok4 hP hD hS => ?_)
  refine lv_bipush (v := 119) hx hb dX11_renderWheel_37 (by decide) ?_
  refine sbq_C (v := 119) hT hW hSP hSD hok4 G hP hD hS rfl (by decide) (by omega) (by decide) hl.1 (Nat.le_of_ble_eq_true rfl) dX11_renderWheel_39 (fun T5 b5 H locs hT5 hn5 hok5 hP hD hS => ?_)
  refine lv_aload_n hx hb dX11_renderWheel_42 rfl (lv_at hl 0 rfl) ?_
  refine gfX11_10 G hP dX11_renderWheel_43 ?_
  refine gfX11_196 isM_0 G hP dX11_renderWheel_46 ?_
  refine lv_iload_n hx hb dX11_renderWheel_49 rfl (lv_at hl 1 rfl) ?_
  refine g_ald (t := 0) (ty := .int) (Or.inl rfl) G hP (0 + 17) (ltM_17 isM_0) (sM_17 isM_0) rfl (vp_in_nI hw3 (by decide)) dX11_renderWheel_50 ?_
  rw [show s0 (0 + 17) (nI w).toNatClampNeg = nI we from by rw [nI_clamp (by omega)]; exact hwe]
  refine sbq_I (v := we) hT hW hSP hSD hok5 G hP hD hS (rfl) (by omega) (by omega) (by decide) hl.1 (Nat.le_of_ble_eq_true rfl) dX11_renderWheel_51 (fun T6 b6 H locs hT6 hn6 hok6 hP hD hS => ?_)
  refine lv_pop hx hb dX11_renderWheel_54 rfl ?_
  refine lv_aload_n hx hb dX11_renderWheel_55 rfl (lv_at hl 0 rfl) ?_
  refine gfX11_10 G hP dX11_renderWheel_56 ?_
  refine lv_iload_n hx hb dX11_renderWheel_59 rfl (lv_at hl 1 rfl) ?_
  refine gg_callVi (nA := 1) (mX6_isStuck l D cA ad adF adW tt a (fr0 ++ (sbC cA (a 241) T6.length b6 ++ fr)) ST hT 0 isM_0 (nI w) s0 st s0 hst) G hP hD hS (g_good q2_185 q2_186 q2_187 q1_2 q2_188) (by decide +kernel) (by decide) (ltM_0 isM_0) (sM_0 isM_0) rfl rfl hl.1 [] rfl (Nat.le_of_ble_eq_true rfl) dX11_renderWheel_60 (fun H locs hP hD hS => ?_)
  by_cases hs9 : st = 0
  · skip
    refine lv_if_eq (tgt := 76) hx hb dX11_renderWheel_63 (by decide) (fun c9 => ?_) (fun c9 => absurd (hs9) c9)
    refine lv_aload_n hx hb dX11_renderWheel_76 rfl (lv_at hl 0 rfl) ?_
    refine gfX11_50 G hP dX11_renderWheel_77 ?_
    refine lv_bipush (v := 58) hx hb dX11_renderWheel_80 (by decide) ?_
    refine sbq_C (v := 58) hT hW hSP hSD hok6 G hP hD hS rfl (by decide) (by omega) (by decide) hl.1 (Nat.le_of_ble_eq_true rfl) dX11_renderWheel_82 (fun T7 b7 H locs hT7 hn7 hok7 hP hD hS => ?_)
    refine lv_pop hx hb dX11_renderWheel_85 rfl ?_
    refine lv_aload_n hx hb dX11_renderWheel_86 rfl (lv_at hl 0 rfl) ?_
    refine gfX11_10 G hP dX11_renderWheel_87 ?_
    refine gfX11_126 isM_0 G hP dX11_renderWheel_90 ?_
    refine lv_iload_n hx hb dX11_renderWheel_93 rfl (lv_at hl 1 rfl) ?_
    refine gg_callVi (nA := 1) (mX7_isHeld l D cA ad adF adW tt a (fr0 ++ (sbC cA (a 241) T7.length b7 ++ fr)) ST hT (0 + 1) (mN isM_0) (nI w) s0 hd s0 hhd) G hP hD hS (g_good q2_159 q2_160 q2_161 q1_3 q2_162) (by decide +kernel) (by decide) (ltN_0 (mN isM_0)) (sN_0 (mN isM_0)) rfl rfl hl.1 [] rfl (Nat.le_of_ble_eq_true rfl) dX11_renderWheel_94 (fun H locs hP hD hS => ?_)
    by_cases hh9 : hd = 0
    · skip
      refine lv_if_eq (tgt := 148) hx hb dX11_renderWheel_97 (by decide) (fun c9 => ?_) (fun c9 => absurd (hh9) c9)
      refine lv_aload_n hx hb dX11_renderWheel_148 rfl (lv_at hl 0 rfl) ?_
      refine gfX11_50 G hP dX11_renderWheel_149 ?_
      refine lv_bipush (v := 45) hx hb dX11_renderWheel_152 (by decide) ?_
      refine sbq_C (v := 45) hT hW hSP hSD hok7 G hP hD hS rfl (by decide) (by omega) (by decide) hl.1 (Nat.le_of_ble_eq_true rfl) dX11_renderWheel_154 (fun T8 b8 H locs hT8 hn8 hok8 hP hD hS => ?_)
      refine lv_pop hx hb dX11_renderWheel_157 rfl ?_
      refine lv_aload_n hx hb dX11_renderWheel_158 rfl (lv_at hl 0 rfl) ?_
      refine gfX11_50 G hP dX11_renderWheel_159 ?_
      refine sbr_len hT hW hSP hSD hok8 G hP hD hS (by decide) hl.1 (Nat.le_of_ble_eq_true rfl) dX11_renderWheel_162 (fun H locs hP hD hS => ?_)
      have eT : txW w gr we st hd nm am = T8 := by rw [hT8, hT7, hT6, hT5, hT4, hT3, hT2, hT1]; unfold txW; simp [hs9, hh9]
      rw [← eT] at hP hD hok8 ⊢
      exact cx_reti b8 ⟨rfl, rfl, hok8⟩ rfl G hP hD hS (by decide) dX11_renderWheel_165
    · skip
      refine lv_if_eq (tgt := 148) hx hb dX11_renderWheel_97 (by decide) (fun c9 => absurd c9 (hh9)) (fun c9 => ?_)
      refine lv_iload_n hx hb dX11_renderWheel_100 rfl (lv_at hl 1 rfl) ?_
      refine gg_callSXi (nA := 1) (mX7_slotOn l D cA ad adF adW tt a (fr0 ++ (sbC cA (a 241) T7.length b7 ++ fr)) ST hT (nI w) s0 (nI (12 + w)) s0 (by unfold fX7_slotOn; rw [show (12 : Int32) = nI 12 from rfl, nI_add])) G hP hD hS (g_goodSX q6_8 q2_98 q1_3 q2_99) (by decide +kernel) (by decide) rfl hl.1 [] rfl (Nat.le_of_ble_eq_true rfl) dX11_renderWheel_101 (fun H locs hP hD hS => ?_)
      refine lv_istore_n (lv' := [(2, .int (nI (12 + w))), (0, .ref (a 209)), (1, .int (nI w))]) hx hb dX11_renderWheel_104 rfl hl (by decide) rfl (fun ls hl => ?_)
      refine lv_aload_n hx hb dX11_renderWheel_105 rfl (lv_at hl 1 rfl) ?_
      refine gfX11_50 G hP dX11_renderWheel_106 ?_
      refine lv_aload_n hx hb dX11_renderWheel_109 rfl (lv_at hl 1 rfl) ?_
      refine gfX11_10 G hP dX11_renderWheel_110 ?_
      refine gfX11_126 isM_0 G hP dX11_renderWheel_113 ?_
      refine gfX11_145 (mN isM_0) G hP dX11_renderWheel_116 ?_
      refine lv_iload_n hx hb dX11_renderWheel_119 rfl (lv_at hl 0 rfl) ?_
      refine g_ald (t := 0) (ty := .int) (Or.inl rfl) G hP (0 + 1 + 1) (ltN_1 (mN isM_0)) (sN_1 (mN isM_0)) rfl (vp_in_nI (by omega) (by decide)) dX11_renderWheel_120 ?_
      rw [show s0 (0 + 1 + 1) (nI (12 + w)).toNatClampNeg = nI nm from by rw [nI_clamp (by omega)]; exact (hheld hh9).1]
      refine sbq_I (v := nm) hT hW hSP hSD hok7 G hP hD hS (rfl) (hnm9) (by omega) (by decide) hl.1 (Nat.le_of_ble_eq_true rfl) dX11_renderWheel_121 (fun T8 b8 H locs hT8 hn8 hok8 hP hD hS => ?_)
      refine lv_bipush (v := 120) hx hb dX11_renderWheel_124 (by decide) ?_
      refine sbq_C (v := 120) hT hW hSP hSD hok8 G hP hD hS rfl (by decide) (by omega) (by decide) hl.1 (Nat.le_of_ble_eq_true rfl) dX11_renderWheel_126 (fun T9 b9 H locs hT9 hn9 hok9 hP hD hS => ?_)
      refine lv_aload_n hx hb dX11_renderWheel_129 rfl (lv_at hl 1 rfl) ?_
      refine gfX11_10 G hP dX11_renderWheel_130 ?_
      refine gfX11_126 isM_0 G hP dX11_renderWheel_133 ?_
      refine gfX11_173 (mN isM_0) G hP dX11_renderWheel_136 ?_
      refine lv_iload_n hx hb dX11_renderWheel_139 rfl (lv_at hl 0 rfl) ?_
      refine g_ald (t := 0) (ty := .int) (Or.inl rfl) G hP (0 + 1 + 4) (ltN_4 (mN isM_0)) (sN_4 (mN isM_0)) rfl (vp_in_nI (by omega) (by decide)) dX11_renderWheel_140 ?_
      rw [show s0 (0 + 1 + 4) (nI (12 + w)).toNatClampNeg = nI am from by rw [nI_clamp (by omega)]; exact (hheld hh9).2]
      refine sbq_I (v := am) hT hW hSP hSD hok9 G hP hD hS (rfl) (by omega) (by omega) (by decide) hl.1 (Nat.le_of_ble_eq_true rfl) dX11_renderWheel_141 (fun T10 b10 H locs hT10 hn10 hok10 hP hD hS => ?_)
      refine lv_pop hx hb dX11_renderWheel_144 rfl ?_
      refine lv_goto (tgt := 158) hx hb dX11_renderWheel_145 (by decide) ?_
      refine lv_aload_n hx hb dX11_renderWheel_158 rfl (lv_at hl 1 rfl) ?_
      refine gfX11_50 G hP dX11_renderWheel_159 ?_
      refine sbr_len hT hW hSP hSD hok10 G hP hD hS (by decide) hl.1 (Nat.le_of_ble_eq_true rfl) dX11_renderWheel_162 (fun H locs hP hD hS => ?_)
      have eT : txW w gr we st hd nm am = T10 := by rw [hT10, hT9, hT8, hT7, hT6, hT5, hT4, hT3, hT2, hT1]; unfold txW; simp [hs9, hh9]
      rw [← eT] at hP hD hok10 ⊢
      exact cx_reti b10 ⟨rfl, rfl, hok10⟩ rfl G hP hD hS (by decide) dX11_renderWheel_165
  · skip
    refine lv_if_eq (tgt := 76) hx hb dX11_renderWheel_63 (by decide) (fun c9 => absurd c9 (hs9)) (fun c9 => ?_)
    refine lv_aload_n hx hb dX11_renderWheel_66 rfl (lv_at hl 0 rfl) ?_
    refine gfX11_50 G hP dX11_renderWheel_67 ?_
    refine lv_bipush (v := 33) hx hb dX11_renderWheel_70 (by decide) ?_
    refine sbq_C (v := 33) hT hW hSP hSD hok6 G hP hD hS rfl (by decide) (by omega) (by decide) hl.1 (Nat.le_of_ble_eq_true rfl) dX11_renderWheel_72 (fun T7 b7 H locs hT7 hn7 hok7 hP hD hS => ?_)
    refine lv_pop hx hb dX11_renderWheel_75 rfl ?_
    refine lv_aload_n hx hb dX11_renderWheel_76 rfl (lv_at hl 0 rfl) ?_
    refine gfX11_50 G hP dX11_renderWheel_77 ?_
    refine lv_bipush (v := 58) hx hb dX11_renderWheel_80 (by decide) ?_
    refine sbq_C (v := 58) hT hW hSP hSD hok7 G hP hD hS rfl (by decide) (by omega) (by decide) hl.1 (Nat.le_of_ble_eq_true rfl) dX11_renderWheel_82 (fun T8 b8 H locs hT8 hn8 hok8 hP hD hS => ?_)
    refine lv_pop hx hb dX11_renderWheel_85 rfl ?_
    refine lv_aload_n hx hb dX11_renderWheel_86 rfl (lv_at hl 0 rfl) ?_
    refine gfX11_10 G hP dX11_renderWheel_87 ?_
    refine gfX11_126 isM_0 G hP dX11_renderWheel_90 ?_
    refine lv_iload_n hx hb dX11_renderWheel_93 rfl (lv_at hl 1 rfl) ?_
    refine gg_callVi (nA := 1) (mX7_isHeld l D cA ad adF adW tt a (fr0 ++ (sbC cA (a 241) T8.length b8 ++ fr)) ST hT (0 + 1) (mN isM_0) (nI w) s0 hd s0 hhd) G hP hD hS (g_good q2_159 q2_160 q2_161 q1_3 q2_162) (by decide +kernel) (by decide) (ltN_0 (mN isM_0)) (sN_0 (mN isM_0)) rfl rfl hl.1 [] rfl (Nat.le_of_ble_eq_true rfl) dX11_renderWheel_94 (fun H locs hP hD hS => ?_)
    by_cases hh9 : hd = 0
    · skip
      refine lv_if_eq (tgt := 148) hx hb dX11_renderWheel_97 (by decide) (fun c9 => ?_) (fun c9 => absurd (hh9) c9)
      refine lv_aload_n hx hb dX11_renderWheel_148 rfl (lv_at hl 0 rfl) ?_
      refine gfX11_50 G hP dX11_renderWheel_149 ?_
      refine lv_bipush (v := 45) hx hb dX11_renderWheel_152 (by decide) ?_
      refine sbq_C (v := 45) hT hW hSP hSD hok8 G hP hD hS rfl (by decide) (by omega) (by decide) hl.1 (Nat.le_of_ble_eq_true rfl) dX11_renderWheel_154 (fun T9 b9 H locs hT9 hn9 hok9 hP hD hS => ?_)
      refine lv_pop hx hb dX11_renderWheel_157 rfl ?_
      refine lv_aload_n hx hb dX11_renderWheel_158 rfl (lv_at hl 0 rfl) ?_
      refine gfX11_50 G hP dX11_renderWheel_159 ?_
      refine sbr_len hT hW hSP hSD hok9 G hP hD hS (by decide) hl.1 (Nat.le_of_ble_eq_true rfl) dX11_renderWheel_162 (fun H locs hP hD hS => ?_)
      have eT : txW w gr we st hd nm am = T9 := by rw [hT9, hT8, hT7, hT6, hT5, hT4, hT3, hT2, hT1]; unfold txW; simp [hs9, hh9]
      rw [← eT] at hP hD hok9 ⊢
      exact cx_reti b9 ⟨rfl, rfl, hok9⟩ rfl G hP hD hS (by decide) dX11_renderWheel_165
    · skip
      refine lv_if_eq (tgt := 148) hx hb dX11_renderWheel_97 (by decide) (fun c9 => absurd c9 (hh9)) (fun c9 => ?_)
      refine lv_iload_n hx hb dX11_renderWheel_100 rfl (lv_at hl 1 rfl) ?_
      refine gg_callSXi (nA := 1) (mX7_slotOn l D cA ad adF adW tt a (fr0 ++ (sbC cA (a 241) T8.length b8 ++ fr)) ST hT (nI w) s0 (nI (12 + w)) s0 (by unfold fX7_slotOn; rw [show (12 : Int32) = nI 12 from rfl, nI_add])) G hP hD hS (g_goodSX q6_8 q2_98 q1_3 q2_99) (by decide +kernel) (by decide) rfl hl.1 [] rfl (Nat.le_of_ble_eq_true rfl) dX11_renderWheel_101 (fun H locs hP hD hS => ?_)
      refine lv_istore_n (lv' := [(2, .int (nI (12 + w))), (0, .ref (a 209)), (1, .int (nI w))]) hx hb dX11_renderWheel_104 rfl hl (by decide) rfl (fun ls hl => ?_)
      refine lv_aload_n hx hb dX11_renderWheel_105 rfl (lv_at hl 1 rfl) ?_
      refine gfX11_50 G hP dX11_renderWheel_106 ?_
      refine lv_aload_n hx hb dX11_renderWheel_109 rfl (lv_at hl 1 rfl) ?_
      refine gfX11_10 G hP dX11_renderWheel_110 ?_
      refine gfX11_126 isM_0 G hP dX11_renderWheel_113 ?_
      refine gfX11_145 (mN isM_0) G hP dX11_renderWheel_116 ?_
      refine lv_iload_n hx hb dX11_renderWheel_119 rfl (lv_at hl 0 rfl) ?_
      refine g_ald (t := 0) (ty := .int) (Or.inl rfl) G hP (0 + 1 + 1) (ltN_1 (mN isM_0)) (sN_1 (mN isM_0)) rfl (vp_in_nI (by omega) (by decide)) dX11_renderWheel_120 ?_
      rw [show s0 (0 + 1 + 1) (nI (12 + w)).toNatClampNeg = nI nm from by rw [nI_clamp (by omega)]; exact (hheld hh9).1]
      refine sbq_I (v := nm) hT hW hSP hSD hok8 G hP hD hS (rfl) (hnm9) (by omega) (by decide) hl.1 (Nat.le_of_ble_eq_true rfl) dX11_renderWheel_121 (fun T9 b9 H locs hT9 hn9 hok9 hP hD hS => ?_)
      refine lv_bipush (v := 120) hx hb dX11_renderWheel_124 (by decide) ?_
      refine sbq_C (v := 120) hT hW hSP hSD hok9 G hP hD hS rfl (by decide) (by omega) (by decide) hl.1 (Nat.le_of_ble_eq_true rfl) dX11_renderWheel_126 (fun T10 b10 H locs hT10 hn10 hok10 hP hD hS => ?_)
      refine lv_aload_n hx hb dX11_renderWheel_129 rfl (lv_at hl 1 rfl) ?_
      refine gfX11_10 G hP dX11_renderWheel_130 ?_
      refine gfX11_126 isM_0 G hP dX11_renderWheel_133 ?_
      refine gfX11_173 (mN isM_0) G hP dX11_renderWheel_136 ?_
      refine lv_iload_n hx hb dX11_renderWheel_139 rfl (lv_at hl 0 rfl) ?_
      refine g_ald (t := 0) (ty := .int) (Or.inl rfl) G hP (0 + 1 + 4) (ltN_4 (mN isM_0)) (sN_4 (mN isM_0)) rfl (vp_in_nI (by omega) (by decide)) dX11_renderWheel_140 ?_
      rw [show s0 (0 + 1 + 4) (nI (12 + w)).toNatClampNeg = nI am from by rw [nI_clamp (by omega)]; exact (hheld hh9).2]
      refine sbq_I (v := am) hT hW hSP hSD hok10 G hP hD hS (rfl) (by omega) (by omega) (by decide) hl.1 (Nat.le_of_ble_eq_true rfl) dX11_renderWheel_141 (fun T11 b11 H locs hT11 hn11 hok11 hP hD hS => ?_)
      refine lv_pop hx hb dX11_renderWheel_144 rfl ?_
      refine lv_goto (tgt := 158) hx hb dX11_renderWheel_145 (by decide) ?_
      refine lv_aload_n hx hb dX11_renderWheel_158 rfl (lv_at hl 1 rfl) ?_
      refine gfX11_50 G hP dX11_renderWheel_159 ?_
      refine sbr_len hT hW hSP hSD hok11 G hP hD hS (by decide) hl.1 (Nat.le_of_ble_eq_true rfl) dX11_renderWheel_162 (fun H locs hP hD hS => ?_)
      have eT : txW w gr we st hd nm am = T11 := by rw [hT11, hT10, hT9, hT8, hT7, hT6, hT5, hT4, hT3, hT2, hT1]; unfold txW; simp [hs9, hh9]
      rw [← eT] at hP hD hok11 ⊢
      exact cx_reti b11 ⟨rfl, rfl, hok11⟩ rfl G hP hD hS (by decide) dX11_renderWheel_165
set_option maxHeartbeats 4000000 in
theorem mX11_renderWheel_x (l : Launch) (hlt : l.stackTraces = false) (D : va_G) (cA : Nat → ClassId) (ad adF adW tt a : Nat → Nat) (fr : va_W) (ST : gST) (hT : STE ad adF adW tt ST) (hW : STW adW tt ST) (hSP : STP ST) (hSD : STD tt ST) (hSX : STX ST) (p1 : Int32) (cR : Nat) (hc0 : ¬ cR = 0) (s0 : St) (hreq : fX11_requireWheel p1 s0 = some ((cR, 0), s0)) (Qc : (Nat → Prop) → Array Value → State → Outcome → State → Prop) : gMetX l yX11_renderWheel cX11_renderWheel 3 (some .int) 70 10 D (TYS cA) ST (wc cA ad a fr s0) [.ref (a 209), .int p1] Qc (fun A => gXC D (TYS cA) A (wc cA ad a fr) cR s0) := by
  refine g_ofWX hT.1 (by decide +kernel) (Nat.le_of_ble_eq_true rfl) ?_
  intro p e s m args below meth c ls A G hnt hP hD hl
  have G : GC p s m args meth c cX11_renderWheel 3 RX11 (some .int) A D (TYS cA) ST := G
  have hx := G.1
  have hb := G.2.1
  have hS : va_S A s.heap s.heap [] := va_S.rf
  have hl : lv_has ls 3 [(0, .ref (a 209)), (1, .int p1)] := hl
  refine lv_iload_n hx hb dX11_renderWheel_0 rfl (lv_at hl 1 rfl) ?_
  refine gx_callSXv (nA := 1) (mX11_requireWheel l hlt D cA ad adF adW tt a fr ST hT hSX p1 s0 cR 0 s0 hreq) G (X := none) (β := Int32) (dv := 0) (cR := cR) (rR := 0) (σ' := s0) (if_neg hc0) hnt hP hD hS (g_goodSX q6_3 q6_4 q1_1 q6_5) (by decide +kernel) (by decide) rfl hl.1 [] rfl (Nat.le_of_ble_eq_true rfl) dX11_renderWheel_1 (fun h9 H locs hP hD hS => by cases h9)


