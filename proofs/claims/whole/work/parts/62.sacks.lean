-- ===== renderSacks: one round of its loop, then the whole =====
def txN (F O : Nat → Nat) : Nat → List Nat
  | 0 => []
  | j + 1 => (if j = 0 then [] else txN F O j ++ [32]) ++ decL (F j) ++ [43] ++ decL (O j)
theorem txN_4 (f0 o0 f1 o1 f2 o2 f3 o3 : Nat) : txN (fun j => [f0, f1, f2, f3].getD j 0) (fun j => [o0, o1, o2, o3].getD j 0) 4 = txS f0 o0 f1 o1 f2 o2 f3 o3 := rfl
set_option maxHeartbeats 4000000 in
set_option maxRecDepth 100000 in
theorem sk_tail (l : Launch) (D : va_G) (cA : Nat → ClassId) (ad adF adW tt a : Nat → Nat) (fr0 fr : va_W) (ST : gST) (hT : STE ad adF adW tt ST) (hW : STW adW tt ST) (hSP : STP ST) (hSD : STD tt ST) {p : Program} {e : Env} {s : State} {m : MethodId} {args : Array Value} {below : List Frame} {meth : Method} {c : Code} {A : Nat → Prop} (G : GC p s m args meth c cX11_renderSacks 2 RX11 (some .int) A D (TYS cA) ST) {s0 : St} {j v w : Nat} (hf : fX9_full (0 + 7) (nI j) s0 = some (nI v, s0)) (ho : fX9_open (0 + 7) (nI j) s0 = some (nI w, s0)) (hv : v < 10) (hw : w < 100) {H : Heap} {locs : List Loc} {ls : Array Slot} {cells slots : Nat} {T : List Nat} {b : SBb} (hok : SBT T b) (hn : T.length ≤ 20) (hP : va_P D vwCl (wc cA ad a (fr0 ++ (sbC cA (a 241) T.length b ++ fr)) s0) H) (hD : va_D A (wc cA ad a (fr0 ++ (sbC cA (a 241) T.length b ++ fr)) s0)) (hS : va_S A s.heap H locs) (hl : lv_has ls 2 [(1, .int (nI j)), (0, .ref (a 209))]) (hc : cells + 3 ≤ 20 ∧ slots + 102 ≤ 680) {Q : State → Prop}
    (kk : ∀ (T1 : List Nat) (b1 : SBb) (H1 : Heap) (locs1 : List Loc) (ls1 : Array Slot), T1 = T ++ decL v ++ [43] ++ decL w → T1.length ≤ T.length + 4 → SBT T1 b1 → va_P D vwCl (wc cA ad a (fr0 ++ (sbC cA (a 241) T1.length b1 ++ fr)) s0) H1 → va_D A (wc cA ad a (fr0 ++ (sbC cA (a 241) T1.length b1 ++ fr)) s0) → va_S A s.heap H1 locs1 → lv_has ls1 2 [(1, .int (nI (j + 1))), (0, .ref (a 209))] → W p l e (RMC 10 20 680) s m args below meth c H1 locs1 (cells + 1 + 1 + 1) (slots + 34 + 34 + 34) Q (F0 m 10 ls1 [])) :
    W p l e (RMC 10 20 680) s m args below meth c H locs cells slots Q (F0 m 29 ls []) := by
  have q0 : sb_dg v ≤ 1 := by unfold sb_dg; rw [if_pos hv]; decide
  have q1 := dg2 hw
  have hx := G.1
  have hb := G.2.1
  have r1 : ∀ {x y : Nat}, x + 1 ≤ 20 → y + 34 ≤ 680 → 9 ≤ (RMC 10 20 680).frames ∧ 400 ≤ (RMC 10 20 680).locals ∧ x + 1 ≤ (RMC 10 20 680).cells ∧ y + 34 ≤ (RMC 10 20 680).slots := fun h1 h2 => ⟨by decide, by decide, h1, h2⟩
  refine lv_aload_n hx hb dX11_renderSacks_29 rfl (lv_at hl 1 rfl) ?_
  refine gfX11_50 G hP dX11_renderSacks_30 ?_
  refine lv_aload_n hx hb dX11_renderSacks_33 rfl (lv_at hl 1 rfl) ?_
  refine gfX11_10 G hP dX11_renderSacks_34 ?_
  refine gfX11_208 isM_0 G hP dX11_renderSacks_37 ?_
  refine lv_iload_n hx hb dX11_renderSacks_40 rfl (lv_at hl 0 rfl) ?_
  refine gg_callVi (nA := 1) (mX9_full l D cA ad adF adW tt a (fr0 ++ (sbC cA (a 241) T.length b ++ fr)) ST hT (0 + 7) (mS isM_0) (nI j) s0 (nI v) s0 hf) G hP hD hS (g_good q4_154 q4_155 q4_156 q1_4 q4_157) (by decide +kernel) ⟨by decide, by decide, by show cells ≤ 20; omega, by show slots ≤ 680; omega⟩ (ltS_0 (mS isM_0)) (sS_0 (mS isM_0)) rfl rfl hl.1 [.ref (a 241)] rfl (Nat.le_of_ble_eq_true rfl) dX11_renderSacks_41 (fun H locs hP hD hS => ?_)
  refine sbq_I (v := v) hT hW hSP hSD hok G hP hD hS rfl (by omega) (by omega) (r1 (by omega) (by omega)) hl.1 (Nat.le_of_ble_eq_true rfl) dX11_renderSacks_44 (fun T2 b2 H locs hT2 hn2 hok2 hP hD hS => ?_)
  refine lv_bipush (v := 43) hx hb dX11_renderSacks_47 (by decide) ?_
  refine sbq_C (v := 43) hT hW hSP hSD hok2 G hP hD hS rfl (by decide) (by omega) (r1 (by omega) (by omega)) hl.1 (Nat.le_of_ble_eq_true rfl) dX11_renderSacks_49 (fun T3 b3 H locs hT3 hn3 hok3 hP hD hS => ?_)
  refine lv_aload_n hx hb dX11_renderSacks_52 rfl (lv_at hl 1 rfl) ?_
  refine gfX11_10 G hP dX11_renderSacks_53 ?_
  refine gfX11_208 isM_0 G hP dX11_renderSacks_56 ?_
  refine lv_iload_n hx hb dX11_renderSacks_59 rfl (lv_at hl 0 rfl) ?_
  refine gg_callVi (nA := 1) (mX9_open l D cA ad adF adW tt a (fr0 ++ (sbC cA (a 241) T3.length b3 ++ fr)) ST hT (0 + 7) (mS isM_0) (nI j) s0 (nI w) s0 ho) G hP hD hS (g_good q4_159 q4_160 q4_161 q1_4 q4_162) (by decide +kernel) ⟨by decide, by decide, by show cells + 1 + 1 ≤ 20; omega, by show slots + 34 + 34 ≤ 680; omega⟩ (ltS_0 (mS isM_0)) (sS_0 (mS isM_0)) rfl rfl hl.1 [.ref (a 241)] rfl (Nat.le_of_ble_eq_true rfl) dX11_renderSacks_60 (fun H locs hP hD hS => ?_)
  refine sbq_I (v := w) hT hW hSP hSD hok3 G hP hD hS rfl (by omega) (by omega) (r1 (by omega) (by omega)) hl.1 (Nat.le_of_ble_eq_true rfl) dX11_renderSacks_63 (fun T4 b4 H locs hT4 hn4 hok4 hP hD hS => ?_)
  refine lv_pop hx hb dX11_renderSacks_66 rfl ?_
  refine lv_iinc (v := nI (j + 1)) (lv' := [(1, .int (nI (j + 1))), (0, .ref (a 209))]) hx hb dX11_renderSacks_67 hl (k := 0) rfl (by rw [← nI_add]; rfl) (by decide) rfl (fun ls hl => ?_)
  refine lv_goto (tgt := 10) hx hb dX11_renderSacks_70 (by decide) ?_
  exact kk T4 b4 H locs ls (by rw [hT4, hT3, hT2]) (by omega) hok4 hP hD hS hl
set_option maxHeartbeats 4000000 in
set_option maxRecDepth 100000 in
theorem mX11_renderSacks (l : Launch) (D : va_G) (cA : Nat → ClassId) (ad adF adW tt a : Nat → Nat) (fr0 fr : va_W) (ST : gST) (hT : STE ad adF adW tt ST) (hW : STW adW tt ST) (hSP : STP ST) (hSD : STD tt ST) (T : List Nat) (b : SBb) (hok : SBT T b) (F O : Nat → Nat) (s0 : St) (hF : ∀ j, j < 4 → fX9_full (0 + 7) (nI j) s0 = some (nI (F j), s0)) (hO : ∀ j, j < 4 → fX9_open (0 + 7) (nI j) s0 = some (nI (O j), s0)) (hFb : ∀ j, j < 4 → F j < 10) (hOb : ∀ j, j < 4 → O j < 100) : gMetG l yX11_renderSacks cX11_renderSacks 2 (some .int) 10 20 680 D (TYS cA) ST (wc cA ad a (fr0 ++ (sbC cA (a 241) T.length b ++ fr)) s0) [.ref (a 209)] (fun A => gGi D (TYS cA) (fun r (b9 : SBb) => r = nI (txN F O 4).length ∧ SBT (txN F O 4) b9) (fun b9 => wc cA ad a (fr0 ++ (sbC cA (a 241) (txN F O 4).length b9 ++ fr)) s0) A) := by
  refine g_ofWG hT.1 (by decide +kernel) (Nat.le_of_ble_eq_true rfl) ?_
  intro p e s m args below meth c ls A G hP hD hl
  have G : GC p s m args meth c cX11_renderSacks 2 RX11 (some .int) A D (TYS cA) ST := G
  have hx := G.1
  have hb := G.2.1
  have hS : va_S A s.heap s.heap [] := va_S.rf
  have hl : lv_has ls 2 [(0, .ref (a 209))] := hl
  have round : ∀ d j T b H locs (ls : Array Slot) cells slots, d + j = 4 → T = txN F O j → T.length ≤ 5 * j → cells ≤ 1 + 4 * j → slots ≤ 34 + 136 * j → SBT T b → va_P D vwCl (wc cA ad a (fr0 ++ (sbC cA (a 241) T.length b ++ fr)) s0) H → va_D A (wc cA ad a (fr0 ++ (sbC cA (a 241) T.length b ++ fr)) s0) → va_S A s.heap H locs → lv_has ls 2 [(1, .int (nI j)), (0, .ref (a 209))] → W p l e (RMC 10 20 680) s m args below meth c H locs cells slots (MQ below (gGi D (TYS cA) (fun r (b9 : SBb) => r = nI (txN F O 4).length ∧ SBT (txN F O 4) b9) (fun b9 => wc cA ad a (fr0 ++ (sbC cA (a 241) (txN F O 4).length b9 ++ fr)) s0) A) args s 20 680 A) (F0 m 10 ls []) := by
    intro d
    induction d with
    | zero =>
      intro j T b H locs ls cells slots h1 h2 h3 h4 h5 hok hP hD hS hl
      obtain rfl : j = 4 := by omega
      refine lv_iload_n hx hb dX11_renderSacks_10 rfl (lv_at hl 0 rfl) ?_
      refine lv_iconst (v := 4) hx hb dX11_renderSacks_11 (by decide) ?_
      refine lv_icmp_ge (tgt := 73) hx hb dX11_renderSacks_12 (by decide) (fun c9 => ?_) (fun c9 => absurd (by decide +kernel) c9)
      refine lv_aload_n hx hb dX11_renderSacks_73 rfl (lv_at hl 1 rfl) ?_
      refine gfX11_50 G hP dX11_renderSacks_74 ?_
      refine sbr_len hT hW hSP hSD hok G hP hD hS ⟨by decide, by decide, by show cells ≤ 20; omega, by show slots ≤ 680; omega⟩ hl.1 (Nat.le_of_ble_eq_true rfl) dX11_renderSacks_77 (fun H locs hP hD hS => ?_)
      rw [h2] at hP hD hok ⊢
      exact c_reti b ⟨rfl, hok⟩ rfl G hP hD hS (by omega) dX11_renderSacks_80
    | succ d ih =>
      intro j T b H locs ls cells slots h1 h2 h3 h4 h5 hok hP hD hS hl
      have hj : j < 4 := by omega
      refine lv_iload_n hx hb dX11_renderSacks_10 rfl (lv_at hl 0 rfl) ?_
      refine lv_iconst (v := 4) hx hb dX11_renderSacks_11 (by decide) ?_
      refine lv_icmp_ge (tgt := 73) hx hb dX11_renderSacks_12 (by decide) (fun c9 => absurd c9 (show ¬ nI 4 ≤ nI j from nI_ge hj (by decide))) (fun c9 => ?_)
      refine lv_iload_n hx hb dX11_renderSacks_15 rfl (lv_at hl 0 rfl) ?_
      by_cases hj0 : j = 0
      · subst hj0
        refine lv_if_le (tgt := 29) hx hb dX11_renderSacks_16 (by decide) (fun c9 => ?_) (fun c9 => absurd (by decide +kernel) c9)
        refine sk_tail l D cA ad adF adW tt a fr0 fr ST hT hW hSP hSD G (hF 0 hj) (hO 0 hj) (hFb 0 hj) (hOb 0 hj) hok (by omega) hP hD hS hl (by omega) (fun T1 b1 H1 locs1 ls1 e1 e2 hok1 hP hD hS hl => ?_)
        exact ih 1 T1 b1 H1 locs1 ls1 _ _ (by omega) (by rw [e1, h2]; rfl) (by omega) (by omega) (by omega) hok1 hP hD hS hl
      · refine lv_if_le (tgt := 29) hx hb dX11_renderSacks_16 (by decide) (fun c9 => absurd c9 (show ¬ nI j ≤ nI 0 from nI_ge (by omega) (by omega))) (fun c9 => ?_)
        refine lv_aload_n hx hb dX11_renderSacks_19 rfl (lv_at hl 1 rfl) ?_
        refine gfX11_50 G hP dX11_renderSacks_20 ?_
        refine lv_bipush (v := 32) hx hb dX11_renderSacks_23 (by decide) ?_
        refine sbq_C (v := 32) hT hW hSP hSD hok G hP hD hS rfl (by decide) (by omega) ⟨by decide, by decide, by show cells + 1 ≤ 20; omega, by show slots + 34 ≤ 680; omega⟩ hl.1 (Nat.le_of_ble_eq_true rfl) dX11_renderSacks_25 (fun T2 b2 H locs hT2 hn2 hok2 hP hD hS => ?_)
        refine lv_pop hx hb dX11_renderSacks_28 rfl ?_
        refine sk_tail l D cA ad adF adW tt a fr0 fr ST hT hW hSP hSD G (hF j hj) (hO j hj) (hFb j hj) (hOb j hj) hok2 (by omega) hP hD hS hl (by omega) (fun T1 b1 H1 locs1 ls1 e1 e2 hok1 hP hD hS hl => ?_)
        exact ih (j + 1) T1 b1 H1 locs1 ls1 _ _ (by omega) (by rw [e1, hT2, h2]; show _ = (if j = 0 then [] else txN F O j ++ [32]) ++ decL (F j) ++ [43] ++ decL (O j); rw [if_neg hj0]) (by omega) (by omega) (by omega) hok1 hP hD hS hl
  refine lv_aload_n hx hb dX11_renderSacks_0 rfl (lv_at hl 0 rfl) ?_
  refine gfX11_50 G hP dX11_renderSacks_1 ?_
  refine lv_iconst (v := 0) hx hb dX11_renderSacks_4 (by decide) ?_
  refine sbq_0 hT hW hSP hSD hok G hP hD hS rfl (by decide) hl.1 (Nat.le_of_ble_eq_true rfl) dX11_renderSacks_5 (fun T1 b1 H locs hT1 hn1 hok1 hP hD hS => ?_)
  refine lv_iconst (v := 0) hx hb dX11_renderSacks_8 (by decide) ?_
  refine lv_istore_n (lv' := [(1, .int 0), (0, .ref (a 209))]) hx hb dX11_renderSacks_9 rfl hl (by decide) rfl (fun ls hl => ?_)
  exact round 4 0 T1 b1 H locs ls _ _ rfl hT1 (by omega) (by omega) (by omega) hok1 hP hD hS hl
