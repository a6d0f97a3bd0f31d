section LW4
variable {p : Program} {l : Launch} {e : Env} {s : State} {m : MethodId} {args : Array Value} {below : List Frame} {meth : Method} {c : Code} {H : Heap} {locs : List Loc} {cells slots : Nat} {Q : State → Prop}
variable {ls : Array Slot} {D : va_G} {A9 : Nat → Prop} {cA : Nat → ClassId} {P : PR}
set_option maxHeartbeats 4000000 in
set_option maxRecDepth 100000 in
theorem law_489 (hlt : l.stackTraces = false) (G : GC p s m args meth c cL_law 10 RL (some .boolean) A9 D (TYS cA) (STG P)) (hL : P.L < 2 ^ 31) (hEnd : ∀ (H : Heap) (locs : List Loc) (cells slots : Nat) (ls : Array Slot), va_S A9 s.heap H locs → cells ≤ 634335 → slots ≤ 7187242 → W p l e room_1 s m args below meth c H locs cells slots Q (F0 m 1087 ls [.int 1])) {ax ay az : Nat → Nat} {fx fy fz : va_W} {sx sy sz : St} {A : AM} {Hx : List AM} {er fl : Option Nat} {m0 a0 : Nat} (hm0 : m0 < 8) (ha1 : 20 ≤ a0) (ha2 : a0 < 52) (hKx : KG sx A Hx (some A) [] er fl 124) (hKz : KG sz A00 [] none [] none none 0) (hP : va_P D vwCl (wc cA P.ad az (fz ++ (wc cA P.ad ax fx sx ++ (wc cA P.ad ay fy sy ++ ([] : va_W)))) sz) H) (hD : va_D A9 (wc cA P.ad az (fz ++ (wc cA P.ad ax fx sx ++ (wc cA P.ad ay fy sy ++ ([] : va_W)))) sz)) (hS : va_S A9 s.heap H locs) (hc9 : cells ≤ 16000) (hs9 : slots ≤ 260000) (hl : lv_has ls 10 [(1, .ref (ax 209)), (3, .int (nI (wN A))), (4, .int (stA A)), (6, .int (nI m0)), (7, .int (nI a0)), (8, .ref (az 209))]) : W p l e room_1 s m args below meth c H locs cells slots Q (F0 m 489 ls []) := by
  have hx := G.1
  have hb := G.2.1
  have h12 : 12 ≤ a0 := by omega
  have h02 : 2 ≤ a0 := by omega
  have hlt12 : a0 - 12 < 2 ^ 31 := by omega
  have hn1 : 1 ≤ a0 - 2 := by omega
  have hn60 : a0 - 2 ≤ 60 := by omega
  have hd10 : 2 * m0 < 2 ^ 31 := by omega
  have hm31 : m0 < 2 ^ 31 := by omega
  have hm3 : m0 / 3 < 4 := by omega
  have hq2 : 2 * m0 / 10 ≤ 2 := by omega
  have hm10 : m0 < 10 := by omega
  have ha31 : a0 < 2 ^ 31 := by omega
  refine lv_aload hx hb dL_law_489 (lv_at hl 5 rfl) ?_
  refine c_new (F := ([] : va_W)) (B := (wc cA P.ad az (fz ++ (wc cA P.ad ax fx sx ++ (wc cA P.ad ay fy sy ++ ([] : va_W)))) sz)) (ci := 1) (fs := [.null, .int 0, .int 0, .int 0]) G hP hD hS i_J4 tyJ4 tyJ4_ok q6_147 q2_19 q1_13 rfl dflt_J4 (Nat.le_trans (Nat.add_le_add_right hc9 1) (Nat.le_of_ble_eq_true rfl)) (Nat.le_trans (Nat.add_le_add_right hs9 4) (Nat.le_of_ble_eq_true rfl)) dL_law_491 (fun zb H1 hPr hDr hSr => ?_)
  refine lv_dup hx hb dL_law_494 rfl ?_
  refine c_callI (F := ([] : va_W)) (B := (wc cA P.ad az (fz ++ (wc cA P.ad ax fx sx ++ (wc cA P.ad ay fy sy ++ ([] : va_W)))) sz)) (mJ4_init l D cA P.ad P.adF P.adW P.tt (STG P) stg_E stg_W zb) G hPr hDr hSr q6_148 q2_21 q1_13 q2_22 rfl (by decide +kernel) ⟨Nat.le_of_ble_eq_true rfl, Nat.le_of_ble_eq_true rfl, (Nat.le_trans (Nat.add_le_add_right hc9 2) (Nat.le_of_ble_eq_true rfl)), (Nat.le_trans (Nat.add_le_add_right hs9 20) (Nat.le_of_ble_eq_true rfl))⟩ hl.1 (Nat.le_of_ble_eq_true rfl) dL_law_495 (fun qb H locs _ hP hD hS => ?_)
  refine W.widen (k := cells + 2) (n := slots + 20) (Nat.le_refl _) (Nat.le_refl _) ?_
  have hP : va_P D vwCl (([(zb, .inr (1, [.ref qb, .int 0, .int 0, .int (nI (0))])), (qb, .inl (cA 5, 16, .inl (fun _ => 0)))] : va_W) ++ (wc cA P.ad az (fz ++ (wc cA P.ad ax fx sx ++ (wc cA P.ad ay fy sy ++ ([] : va_W)))) sz)) H := hP.perm List.perm_append_comm
  have hD : va_D A9 (([(zb, .inr (1, [.ref qb, .int 0, .int 0, .int (nI (0))])), (qb, .inl (cA 5, 16, .inl (fun _ => 0)))] : va_W) ++ (wc cA P.ad az (fz ++ (wc cA P.ad ax fx sx ++ (wc cA P.ad ay fy sy ++ ([] : va_W)))) sz)) := hD.perm List.perm_append_comm
  refine va_ldcS hx hb G.2.2.2.1 (G.2.2.2.2.2.2.2.2.2.2.1.2.2.1 14 (by decide)) dL_law_498 ?_
  refine c_callVr (nA := 1) (C := RJ4) (T := TJ4) (M := 4) (ci := 1) (wc cA P.ad az (fz ++ (wc cA P.ad ax fx sx ++ (wc cA P.ad ay fy sy ++ ([] : va_W)))) sz) ([(zb, .inr (1, [.ref qb, .int 0, .int 0, .int (nI (0))])), (qb, .inl (cA 5, 16, .inl (fun _ => 0)))] : va_W) 0 rfl rfl (mJ4_appS0 l D cA P.ad P.adF P.adW P.tt (STG P) stg_E stg_W stg_Q P.adV P.tv stg_V 14 (by decide) zb qb 0 16 0 (fun _ => 0) (by decide) (by decide)) G hP hD hS List.perm_append_comm (g_good q6_149 q6_150 q6_151 q1_13 q6_152) (by decide +kernel) ⟨Nat.le_of_ble_eq_true rfl, Nat.le_of_ble_eq_true rfl, (Nat.le_trans (Nat.add_le_add_right hc9 2) (Nat.le_of_ble_eq_true rfl)), (Nat.le_trans (Nat.add_le_add_right hs9 20) (Nat.le_of_ble_eq_true rfl))⟩ rfl hl.1 [.ref (az 209)] rfl (Nat.le_of_ble_eq_true rfl) dL_law_500 (fun _ H locs hok hP hD hS => ?_)
  have hP : va_P D vwCl (([(zb, .inr (1, [.ref qb, .int 0, .int 0, .int (nI (0 + vLen.getD 14 0))])), (qb, .inl (cA 5, 16, .inl (va_cpy (fun j => (vByt.getD 14 []).getD j 0) (fun _ => 0) 0 0 (vLen.getD 14 0))))] : va_W) ++ (wc cA P.ad az (fz ++ (wc cA P.ad ax fx sx ++ (wc cA P.ad ay fy sy ++ ([] : va_W)))) sz)) H := hP.perm List.perm_append_comm
  have hD : va_D A9 (([(zb, .inr (1, [.ref qb, .int 0, .int 0, .int (nI (0 + vLen.getD 14 0))])), (qb, .inl (cA 5, 16, .inl (va_cpy (fun j => (vByt.getD 14 []).getD j 0) (fun _ => 0) 0 0 (vLen.getD 14 0))))] : va_W) ++ (wc cA P.ad az (fz ++ (wc cA P.ad ax fx sx ++ (wc cA P.ad ay fy sy ++ ([] : va_W)))) sz)) := hD.perm List.perm_append_comm
  refine lv_iload hx hb dL_law_503 (lv_at hl 4 rfl) ?_
  have hdg9 : sb_dg a0 = 2 := by unfold sb_dg; rw [if_neg (by omega), if_pos (by omega)]
  refine c_callVr (nA := 1) (C := RJ4) (T := TJ4) (M := 4) (ci := 1) (wc cA P.ad az (fz ++ (wc cA P.ad ax fx sx ++ (wc cA P.ad ay fy sy ++ ([] : va_W)))) sz) ([(zb, .inr (1, [.ref qb, .int 0, .int 0, .int (nI (0 + vLen.getD 14 0))])), (qb, .inl (cA 5, 16, .inl (va_cpy (fun j => (vByt.getD 14 []).getD j 0) (fun _ => 0) 0 0 (vLen.getD 14 0))))] : va_W) 0 rfl rfl (mJ4_appI l D cA P.ad P.adF P.adW P.tt (STG P) stg_E stg_W stg_Q stg_D zb qb (0 + vLen.getD 14 0) 16 0 (va_cpy (fun j => (vByt.getD 14 []).getD j 0) (fun _ => 0) 0 0 (vLen.getD 14 0)) a0 ha31 (by rw [hdg9]; decide) (by decide)) G hP hD hS List.perm_append_comm (g_good q6_235 q6_236 q6_237 q1_13 q6_238) (by decide +kernel) ⟨Nat.le_of_ble_eq_true rfl, Nat.le_of_ble_eq_true rfl, (Nat.le_trans (Nat.add_le_add_right hc9 2) (Nat.le_of_ble_eq_true rfl)), (Nat.le_trans (Nat.add_le_add_right hs9 20) (Nat.le_of_ble_eq_true rfl))⟩ rfl hl.1 [.ref (az 209)] rfl (Nat.le_of_ble_eq_true rfl) dL_law_505 (fun g9 H locs hok hP hD hS => ?_)
  obtain ⟨hg1, hg2, hg3⟩ := hok
  have hf9 : sb_Fit g9 := hg3 (sb_fitC (fun j => v_fit 14 j) sb_fit0)
  have hP : va_P D vwCl (([(zb, .inr (1, [.ref qb, .int 0, .int 0, .int (nI (0 + vLen.getD 14 0 + sb_dg a0))])), (qb, .inl (cA 5, 16, .inl (g9)))] : va_W) ++ (wc cA P.ad az (fz ++ (wc cA P.ad ax fx sx ++ (wc cA P.ad ay fy sy ++ ([] : va_W)))) sz)) H := hP.perm List.perm_append_comm
  have hD : va_D A9 (([(zb, .inr (1, [.ref qb, .int 0, .int 0, .int (nI (0 + vLen.getD 14 0 + sb_dg a0))])), (qb, .inl (cA 5, 16, .inl (g9)))] : va_W) ++ (wc cA P.ad az (fz ++ (wc cA P.ad ax fx sx ++ (wc cA P.ad ay fy sy ++ ([] : va_W)))) sz)) := hD.perm List.perm_append_comm
  refine va_ldcS hx hb G.2.2.2.1 (G.2.2.2.2.2.2.2.2.2.2.1.2.2.1 15 (by decide)) dL_law_508 ?_
  refine c_callVr (nA := 1) (C := RJ4) (T := TJ4) (M := 4) (ci := 1) (wc cA P.ad az (fz ++ (wc cA P.ad ax fx sx ++ (wc cA P.ad ay fy sy ++ ([] : va_W)))) sz) ([(zb, .inr (1, [.ref qb, .int 0, .int 0, .int (nI (0 + vLen.getD 14 0 + sb_dg a0))])), (qb, .inl (cA 5, 16, .inl (g9)))] : va_W) 0 rfl rfl (mJ4_appS1 l D cA P.ad P.adF P.adW P.tt (STG P) stg_E stg_W stg_Q P.adV P.tv stg_V 15 (by decide) zb qb (0 + vLen.getD 14 0 + sb_dg a0) 0 g9 hf9 (by rw [hdg9]; decide)) G hP hD hS List.perm_append_comm (g_good q6_149 q6_150 q6_151 q1_13 q6_152) (by decide +kernel) ⟨Nat.le_of_ble_eq_true rfl, Nat.le_of_ble_eq_true rfl, (Nat.le_trans (Nat.add_le_add_right hc9 3) (Nat.le_of_ble_eq_true rfl)), (Nat.le_trans (Nat.add_le_add_right hs9 75) (Nat.le_of_ble_eq_true rfl))⟩ rfl hl.1 [.ref (az 209)] rfl (Nat.le_of_ble_eq_true rfl) dL_law_510 (fun q9 H locs hok hP hD hS => ?_)
  refine W.widen (k := cells + 3) (n := slots + 75) (Nat.le_refl _) (Nat.le_refl _) ?_
  rw [show 0 + vLen.getD 14 0 + sb_dg a0 + vLen.getD 15 0 = 55 by rw [hdg9]; decide] at hP hD
  have hP : va_P D vwCl (([(zb, .inr (1, [.ref q9, .int 0, .int 0, .int (nI (55))])), (q9, .inl (cA 5, 55, .inl (va_cpy (fun j => (vByt.getD 15 []).getD j 0) (va_cpy g9 (fun _ => 0) 0 0 16) 0 (0 + vLen.getD 14 0 + sb_dg a0) (vLen.getD 15 0))))] : va_W) ++ (wc cA P.ad az (fz ++ (wc cA P.ad ax fx sx ++ (wc cA P.ad ay fy sy ++ ([] : va_W)))) sz)) H := hP.perm List.perm_append_comm
  have hD : va_D A9 (([(zb, .inr (1, [.ref q9, .int 0, .int 0, .int (nI (55))])), (q9, .inl (cA 5, 55, .inl (va_cpy (fun j => (vByt.getD 15 []).getD j 0) (va_cpy g9 (fun _ => 0) 0 0 16) 0 (0 + vLen.getD 14 0 + sb_dg a0) (vLen.getD 15 0))))] : va_W) ++ (wc cA P.ad az (fz ++ (wc cA P.ad ax fx sx ++ (wc cA P.ad ay fy sy ++ ([] : va_W)))) sz)) := hD.perm List.perm_append_comm
  have hfit : sb_Fit (va_cpy (fun j => (vByt.getD 15 []).getD j 0) (va_cpy g9 (fun _ => 0) 0 0 16) 0 (0 + vLen.getD 14 0 + sb_dg a0) (vLen.getD 15 0)) := sb_fitC (fun j => v_fit 15 j) (sb_fitC hf9 sb_fit0)
  have hlat : sb_Lat (fun j => (zT a0).getD j 0) 55 (va_cpy (fun j => (vByt.getD 15 []).getD j 0) (va_cpy g9 (fun _ => 0) 0 0 16) 0 (0 + vLen.getD 14 0 + sb_dg a0) (vLen.getD 15 0)) := z_lat ha1 ha2 hdg9 hg1 hg2
  generalize (va_cpy (fun j => (vByt.getD 15 []).getD j 0) (va_cpy g9 (fun _ => 0) 0 0 16) 0 (0 + vLen.getD 14 0 + sb_dg a0) (vLen.getD 15 0)) = f9 at hP hD hfit hlat
  refine c_callVr (nA := 0) (C := RJ4) (T := TJ4) (M := 4) (ci := 1) (wc cA P.ad az (fz ++ (wc cA P.ad ax fx sx ++ (wc cA P.ad ay fy sy ++ ([] : va_W)))) sz) ([(zb, .inr (1, [.ref q9, .int 0, .int 0, .int (nI (55))])), (q9, .inl (cA 5, 55, .inl (f9)))] : va_W) 0 rfl rfl (mTS l D cA P.ad P.adF P.adW P.tt (STG P) stg_E stg_W stg_Q stg_B2 zb q9 0 f9 hfit) G hP hD hS List.perm_append_comm (g_good q7_20 q7_21 q7_22 q1_13 q7_23) (by decide +kernel) ⟨Nat.le_of_ble_eq_true rfl, Nat.le_of_ble_eq_true rfl, (Nat.le_trans (Nat.add_le_add_right hc9 5) (Nat.le_of_ble_eq_true rfl)), (Nat.le_trans (Nat.add_le_add_right hs9 135) (Nat.le_of_ble_eq_true rfl))⟩ rfl hl.1 [.ref (az 209)] rfl (Nat.le_of_ble_eq_true rfl) dL_law_513 (fun x9 H locs hok hP hD hS => ?_)
  refine W.widen (k := cells + 5) (n := slots + 135) (Nat.le_refl _) (Nat.le_refl _) ?_
  obtain ⟨yb, qt⟩ := x9
  have hP : va_P D vwCl ((wc cA P.ad az (fz ++ (wc cA P.ad ax fx sx ++ (wc cA P.ad ay fy sy ++ ([] : va_W)))) sz) ++ txC cA yb qt f9) H := hP
  have hD : va_D A9 ((wc cA P.ad az (fz ++ (wc cA P.ad ax fx sx ++ (wc cA P.ad ay fy sy ++ ([] : va_W)))) sz) ++ txC cA yb qt f9) := hD
  have hP := (hP.perm List.perm_append_comm).perm gwd_pre
  have hD := (hD.perm List.perm_append_comm).perm gwd_pre
  have hP : va_P D vwCl (wc cA P.ad az (txC cA yb qt f9 ++ (fz ++ (wc cA P.ad ax fx sx ++ (wc cA P.ad ay fy sy ++ ([] : va_W))))) sz) H := hP
  have hD : va_D A9 (wc cA P.ad az (txC cA yb qt f9 ++ (fz ++ (wc cA P.ad ax fx sx ++ (wc cA P.ad ay fy sy ++ ([] : va_W))))) sz) := hD
  refine c_callSv (nA := 2) ([] : va_W) (wc cA P.ad az (txC cA yb qt f9 ++ (fz ++ (wc cA P.ad ax fx sx ++ (wc cA P.ad ay fy sy ++ ([] : va_W))))) sz) (mL_putT l hlt D cA P.ad P.adF P.adW P.tt az _ (STG P) stg_E stg_X stg_W stg_Q yb qt f9 (zT a0) rfl hlat (z_ok ha1 ha2) hKz (Nat.le_of_ble_eq_true rfl)) G hP hD hS (List.Perm.refl _) (g_goodSX q5_118 q5_119 q1_0 q5_120) (by decide +kernel) ⟨Nat.le_of_ble_eq_true rfl, Nat.le_of_ble_eq_true rfl, (Nat.le_trans (Nat.add_le_add_right hc9 115) (Nat.le_of_ble_eq_true rfl)), (Nat.le_trans (Nat.add_le_add_right hs9 795) (Nat.le_of_ble_eq_true rfl))⟩ rfl hl.1 [] rfl (Nat.le_of_ble_eq_true rfl) dL_law_516 (fun sz_b H locs hKz hP hD hS => ?_)
  have hKz : KG sz_b A00 [] none (zT a0) none none 0 := hKz
  refine W.widen (k := cells + 115) (n := slots + 795) (Nat.le_refl _) (Nat.le_refl _) ?_
  have hP : va_P D vwCl (wc cA P.ad az (txC cA yb qt f9 ++ (fz ++ (wc cA P.ad ax fx sx ++ (wc cA P.ad ay fy sy ++ ([] : va_W))))) sz_b) H := hP
  have hD : va_D A9 (wc cA P.ad az (txC cA yb qt f9 ++ (fz ++ (wc cA P.ad ax fx sx ++ (wc cA P.ad ay fy sy ++ ([] : va_W))))) sz_b) := hD
  rw [← List.append_assoc] at hP hD
  exact law_519 (fz := txC cA yb qt f9 ++ fz) hlt G hL hEnd hm0 ha1 ha2 hKx hKz hP hD hS (Nat.le_trans (Nat.add_le_add_right hc9 115) (Nat.le_of_ble_eq_true rfl)) (Nat.le_trans (Nat.add_le_add_right hs9 795) (Nat.le_of_ble_eq_true rfl)) hl
end LW4
