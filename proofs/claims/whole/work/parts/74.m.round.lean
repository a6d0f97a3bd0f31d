-- ===== two rounds whose text grows =====
section C74
variable {p : Program} {l : Launch} {e : Env} {s : State} {m : MethodId} {args : Array Value} {below : List Frame} {meth : Method} {c : Code} {H : Heap} {locs : List Loc} {cells slots : Nat} {Q : State → Prop}
variable {ls : Array Slot} {D : va_G} {A : Nat → Prop} {cA : Nat → ClassId} {ad adF adW tt a : Nat → Nat} {ao ao2 : Nat} {ad2 a2 : Nat → Nat} {bb L : Nat} {xs : Nat → Int32}
variable {C : Nat} {b : SBb} {g : Nat → Int64} {gd : Nat → UInt64} {σ s' : St} {T : List Nat}
set_option maxHeartbeats 4000000 in
set_option maxRecDepth 100000 in
theorem lawc_48 (K : LC p l s m args meth c D A cA ad adF adW tt bb L xs) (hC : C < 512) (hi : 4 * C + 4 ≤ L) (Nx : LGo p l e s m args below meth c Q D A cA ad a ao ao2 ad2 a2 bb (C + 1)) (hG : GG σ s' C T) (hB : SBT T b) (hP : va_P D vwCl (LW cA ad a ao g T.length b ao2 gd ad2 a2 σ s') H) (hD : va_D A (LW cA ad a ao g T.length b ao2 gd ad2 a2 σ s')) (hS : va_S A s.heap H locs) (hc1 : cells ≤ 254 + 70 * C) (hc2 : slots ≤ 4842 + 680 * C) (hl : lv_has ls 9 (LL bb (a 209) (a2 0) ao ao2 (nI (4 * C)))) : W p l e room_1 s m args below meth c H locs cells slots Q (F0 m 2674 ls []) := by
  have hx := K.1.1
  have hb := K.1.2.1
  refine lv_aload_n hx hb dL_law_2674 rfl (lv_at hl 2 rfl) ?_
  refine la_ld (j := 1) (n := 1) K hS (lv_at hl 1 rfl) (lv_at hl 0 rfl) hi (by decide) rfl dL_law_2675 dL_law_2676 dL_law_2678 dL_law_2679 dL_law_2680 ?_
  refine lv_aload_n hx hb dL_law_2681 rfl (lv_at hl 4 rfl) ?_
  rcases rng0 (xs (4 * C + 1)) (n := 3) (by omega) with hp | ⟨w, hw, hp⟩
  · obtain ⟨e1, e2, hG2⟩ := ca_renderWheel_x (m := 2000) hG hp
    refine c_callLi (nA := 3) (As := [.ref (a 209), .int (xs (4 * C + 1)), .ref ao]) [] (wc cA ad a (ocL cA ao g :: (sbC cA (a 241) T.length b ++ (ocD cA ao2 gd :: wm cA ad2 a2 [] s'))) σ) (mL_renderWheel_x l K.2.1 D cA ad adF adW tt a _ _ stg_E stg_X stg_N stg_W stg_P stg_D (xs (4 * C + 1)) σ e1 ao g) K.1 hP hD hS (List.Perm.of_eq rfl) (g_goodL q6_235 q6_236 q1_0 q6_237) (by decide +kernel) ⟨by show 11 + 1 ≤ 2048; decide, by show 19 + 4 + 40 * 11 ≤ 94400; decide, by show cells + 70 ≤ 603072; omega, by show slots + 420 ≤ 7198826; omega⟩ rfl hl.1 [] rfl (Nat.le_of_ble_eq_true rfl) dL_law_2682 (fun r u H locs hok hP hD hS => ?_)
    subst hok
    have hP : va_P D vwCl (LW cA ad a ao g T.length b ao2 gd ad2 a2 σ s') H := hP
    have hD : va_D A (LW cA ad a ao g T.length b ao2 gd ad2 a2 σ s') := hD
    refine lv_istore (lv' := (6, .int (1 : Int32)) :: LL bb (a 209) (a2 0) ao ao2 (nI (4 * C))) hx hb dL_law_2685 hl (by decide) rfl (fun ls hl => ?_)
    refine lv_aload_n hx hb dL_law_2687 rfl (lv_at hl 4 rfl) ?_
    refine la_ld (j := 1) (n := 1) K hS (lv_at hl 2 rfl) (lv_at hl 1 rfl) hi (by decide) rfl dL_law_2688 dL_law_2689 dL_law_2691 dL_law_2692 dL_law_2693 ?_
    refine la_mi (nA := 1) (As := [.int (xs (4 * C + 1))]) K (mX12_renderWheel l D cA ad2 a2 [] 2000 (xs (4 * C + 1)) s' (nI 0) _ e2) hP hD hS q9_80 q9_81 q9_82 q1_16 q9_83 (by decide +kernel) (by decide) (by omega) (by omega) rfl hl.1 [] rfl (Nat.le_of_ble_eq_true rfl) dL_law_2694 (fun H locs hP hD hS => ?_)
    refine lv_istore (lv' := (7, .int (nI 0)) :: (6, .int (1 : Int32)) :: LL bb (a 209) (a2 0) ao ao2 (nI (4 * C))) hx hb dL_law_2697 hl (by decide) rfl (fun ls hl => ?_)
    exact la_tail K hC Nx hG2 hB (pu_u2e ⟨rfl, rfl⟩) (fun h => absurd h (by decide)) hP hD hS (by omega) (by omega) hl dL_law_2699 dL_law_2700 dL_law_2703 dL_law_2705 dL_law_2710 dL_law_2712 dL_law_2715 dL_law_2716 dL_law_2717 dL_law_2718 dL_law_2720 dL_law_2721 dL_law_2722 dL_law_2727 (by decide)
  · rw [hp]
    obtain ⟨gr, we, nm, am, st, hd, ⟨r1, r2, r3, r4, r5, r6, r7, r8, r9, r10⟩, t, e2, h13, hG2⟩ := ca_renderWheel (m := 2000) (Nat.le_refl 2000) hC hG hw
    refine c_callLi (nA := 3) (As := [.ref (a 209), .int (nI w), .ref ao]) [] (wc cA ad a (ocL cA ao g :: (sbC cA (a 241) T.length b ++ (ocD cA ao2 gd :: wm cA ad2 a2 [] s'))) σ) (mL_renderWheel l K.2.1 D cA ad adF adW tt a _ _ stg_E stg_X stg_N stg_W stg_P stg_D T b hB w gr we nm am st hd σ hw r1 r2 r3 r4 r5 r6 r7 r8 r9 r10 ao g) K.1 hP hD hS (List.Perm.of_eq rfl) (g_goodL q6_235 q6_236 q1_0 q6_237) (by decide +kernel) ⟨by show 11 + 1 ≤ 2048; decide, by show 19 + 4 + 40 * 11 ≤ 94400; decide, by show cells + 70 ≤ 603072; omega, by show slots + 420 ≤ 7198826; omega⟩ rfl hl.1 [] rfl (Nat.le_of_ble_eq_true rfl) dL_law_2682 (fun r u H locs hok hP hD hS => ?_)
    obtain ⟨hr0, hB2⟩ := hok
    subst hr0
    have hP : va_P D vwCl (LW cA ad a ao (vp_updL g 0 ((nI (txW w gr we st hd nm am).length).toInt64)) (txW w gr we st hd nm am).length u ao2 gd ad2 a2 σ s') H := hP
    have hD : va_D A (LW cA ad a ao (vp_updL g 0 ((nI (txW w gr we st hd nm am).length).toInt64)) (txW w gr we st hd nm am).length u ao2 gd ad2 a2 σ s') := hD
    refine lv_istore (lv' := (6, .int (0 : Int32)) :: LL bb (a 209) (a2 0) ao ao2 (nI (4 * C))) hx hb dL_law_2685 hl (by decide) rfl (fun ls hl => ?_)
    refine lv_aload_n hx hb dL_law_2687 rfl (lv_at hl 4 rfl) ?_
    refine la_ld (j := 1) (n := 1) K hS (lv_at hl 2 rfl) (lv_at hl 1 rfl) hi (by decide) rfl dL_law_2688 dL_law_2689 dL_law_2691 dL_law_2692 dL_law_2693 ?_
    rw [hp]
    refine la_mi (nA := 1) (As := [.int (nI w)]) K (mX12_renderWheel l D cA ad2 a2 [] 2000 (nI w) s' (nI (txW w gr we st hd nm am).length) t e2) hP hD hS q9_80 q9_81 q9_82 q1_16 q9_83 (by decide +kernel) (by decide) (by omega) (by omega) rfl hl.1 [] rfl (Nat.le_of_ble_eq_true rfl) dL_law_2694 (fun H locs hP hD hS => ?_)
    refine lv_istore (lv' := (7, .int (nI (txW w gr we st hd nm am).length)) :: (6, .int (0 : Int32)) :: LL bb (a 209) (a2 0) ao ao2 (nI (4 * C))) hx hb dL_law_2697 hl (by decide) rfl (fun ls hl => ?_)
    exact la_tail K hC Nx hG2 hB2 h13 (fun _ => rfl) hP hD hS (by omega) (by omega) hl dL_law_2699 dL_law_2700 dL_law_2703 dL_law_2705 dL_law_2710 dL_law_2712 dL_law_2715 dL_law_2716 dL_law_2717 dL_law_2718 dL_law_2720 dL_law_2721 dL_law_2722 dL_law_2727 (by decide)
set_option maxHeartbeats 4000000 in
set_option maxRecDepth 100000 in
theorem lawc_49 (K : LC p l s m args meth c D A cA ad adF adW tt bb L xs) (hC : C < 512) (hi : 4 * C + 4 ≤ L) (Nx : LGo p l e s m args below meth c Q D A cA ad a ao ao2 ad2 a2 bb (C + 1)) (hG : GG σ s' C T) (hB : SBT T b) (hP : va_P D vwCl (LW cA ad a ao g T.length b ao2 gd ad2 a2 σ s') H) (hD : va_D A (LW cA ad a ao g T.length b ao2 gd ad2 a2 σ s')) (hS : va_S A s.heap H locs) (hc1 : cells ≤ 254 + 70 * C) (hc2 : slots ≤ 4842 + 680 * C) (hl : lv_has ls 9 (LL bb (a 209) (a2 0) ao ao2 (nI (4 * C)))) : W p l e room_1 s m args below meth c H locs cells slots Q (F0 m 2730 ls []) := by
  have hx := K.1.1
  have hb := K.1.2.1
  obtain ⟨f0, o0, f1, o1, f2, o2, f3, o3, ⟨i0, j0, i1, j1, i2, j2, i3, j3⟩, ⟨k0, k1, k2, k3, n0, n1, n2, n3⟩, t, e2, hG2⟩ := ca_renderSacks (m := 2000) (Nat.le_refl 2000) hG
  refine lv_aload_n hx hb dL_law_2730 rfl (lv_at hl 2 rfl) ?_
  obtain ⟨fs, hfs⟩ := LW_x (cA := cA) (ad := ad) (a := a) (ao := ao) (g := g) (n := T.length) (b := b) (ao2 := ao2) (gd := gd) (ad2 := ad2) (a2 := a2) (σ := σ) (s := s')
  refine c_callVi (nA := 0) (As := []) (C := RX11) (T := TX11) (M := 10) (ci := 12) [] (wc cA ad a ([ocL cA ao g] ++ (sbC cA (a 241) T.length b ++ (ocD cA ao2 gd :: wm cA ad2 a2 [] s'))) σ) 209 rfl hfs (mX11_renderSacks l D cA ad adF adW tt a [ocL cA ao g] (ocD cA ao2 gd :: wm cA ad2 a2 [] s') _ stg_E stg_W stg_P stg_D T b hB (fun j => [f0, f1, f2, f3].getD j 0) (fun j => [o0, o1, o2, o3].getD j 0) σ (fun j hj => by rcases (show j = 0 ∨ j = 1 ∨ j = 2 ∨ j = 3 by omega) with rfl | rfl | rfl | rfl; exact i0; exact i1; exact i2; exact i3) (fun j hj => by rcases (show j = 0 ∨ j = 1 ∨ j = 2 ∨ j = 3 by omega) with rfl | rfl | rfl | rfl; exact j0; exact j1; exact j2; exact j3) (fun j hj => by rcases (show j = 0 ∨ j = 1 ∨ j = 2 ∨ j = 3 by omega) with rfl | rfl | rfl | rfl; exact k0; exact k1; exact k2; exact k3) (fun j hj => by rcases (show j = 0 ∨ j = 1 ∨ j = 2 ∨ j = 3 by omega) with rfl | rfl | rfl | rfl; exact n0; exact n1; exact n2; exact n3)) K.1 hP hD hS (List.Perm.of_eq rfl) (g_good q3_25 q3_26 q3_27 q1_1 q3_28) (by decide +kernel) ⟨by show 10 + 1 ≤ 2048; decide, by show 19 + 2 + 40 * 10 ≤ 94400; decide, by show cells + 20 ≤ 603072; omega, by show slots + 680 ≤ 7198826; omega⟩ rfl hl.1 [] rfl (Nat.le_of_ble_eq_true rfl) dL_law_2731 (fun r u H locs hok hP hD hS => ?_)
  obtain ⟨hr, hB2⟩ := hok
  rw [txN_4] at hr hB2
  subst hr
  have hP : va_P D vwCl (LW cA ad a ao g (txS f0 o0 f1 o1 f2 o2 f3 o3).length u ao2 gd ad2 a2 σ s') H := hP
  have hD : va_D A (LW cA ad a ao g (txS f0 o0 f1 o1 f2 o2 f3 o3).length u ao2 gd ad2 a2 σ s') := hD
  refine lv_aload_n hx hb dL_law_2734 rfl (lv_at hl 3 rfl) ?_
  refine la_mi (nA := 0) (As := []) K (mX12_renderSacks l D cA ad2 a2 [] 2000 s' (nI (txS f0 o0 f1 o1 f2 o2 f3 o3).length) t e2) hP hD hS q9_92 q9_93 q9_94 q1_16 q9_95 (by decide +kernel) (by decide) (by omega) (by omega) rfl hl.1 [.int (nI (txS f0 o0 f1 o1 f2 o2 f3 o3).length)] rfl (Nat.le_of_ble_eq_true rfl) dL_law_2735 (fun H locs hP hD hS => ?_)
  refine lv_icmp_eq (tgt := 3090) hx hb dL_law_2738 (by decide) (fun _ => ?_) (fun h => absurd rfl h)
  exact la_end K Nx hG2 hB2 hP hD hS (by omega) (by omega) hl
end C74
