section LW5
variable {p : Program} {l : Launch} {e : Env} {s : State} {m : MethodId} {args : Array Value} {below : List Frame} {meth : Method} {c : Code} {H : Heap} {locs : List Loc} {cells slots : Nat} {Q : State → Prop}
variable {ls : Array Slot} {D : va_G} {A9 : Nat → Prop} {cA : Nat → ClassId} {P : PR}
set_option maxHeartbeats 4000000 in
set_option maxRecDepth 100000 in
theorem law_375 (hlt : l.stackTraces = false) (G : GC p s m args meth c cL_law 10 RL (some .boolean) A9 D (TYS cA) (STG P)) (hL : P.L < 2 ^ 31) (hEnd : ∀ (H : Heap) (locs : List Loc) (cells slots : Nat) (ls : Array Slot), va_S A9 s.heap H locs → cells ≤ 634335 → slots ≤ 7187242 → W p l e room_1 s m args below meth c H locs cells slots Q (F0 m 1087 ls [.int 1])) {ax ay az : Nat → Nat} {fx fy fz : va_W} {sx sy sz : St} {A : AM} {Hx : List AM} {er fl : Option Nat} {m0 a0 : Nat} (hm0 : m0 < 8) (ha1 : 20 ≤ a0) (ha2 : a0 < 52) (hKx : KG sx A Hx (some A) [] er fl 124) (hKz : KG sz A00 [] none [] none none 0) (hP : va_P D vwCl (wc cA P.ad az (fz ++ (wc cA P.ad ax fx sx ++ (wc cA P.ad ay fy sy ++ ([] : va_W)))) sz) H) (hD : va_D A9 (wc cA P.ad az (fz ++ (wc cA P.ad ax fx sx ++ (wc cA P.ad ay fy sy ++ ([] : va_W)))) sz)) (hS : va_S A9 s.heap H locs) (hc9 : cells ≤ 15000) (hs9 : slots ≤ 250000) (hl : lv_has ls 10 [(1, .ref (ax 209)), (3, .int (nI (wN A))), (4, .int (stA A)), (6, .int (nI m0)), (7, .int (nI a0)), (8, .ref (az 209))]) : W p l e room_1 s m args below meth c H locs cells slots Q (F0 m 375 ls []) := by
  have hx := G.1
  have hb := G.2.1
  obtain ⟨z1, z2, z3, z4, z5, z6, z7, z8, z9, z10⟩ := z_0
  refine lv_aload hx hb dL_law_375 (lv_at hl 5 rfl) ?_
  obtain ⟨sz_a, e9, hKz⟩ := q_isConsistent (m := 2000) (Nat.le_refl _) (by decide) hKz
  refine gl_callNi (nA := 0) (mX11_isConsistent l D cA P.ad P.adF P.adW P.tt az _ (STG P) stg_E 2000  sz _ sz_a (e9)) G hP hD hS (g_good q4_152 q4_153 q4_154 q1_1 q4_155) (by decide +kernel) ⟨Nat.le_of_ble_eq_true rfl, Nat.le_of_ble_eq_true rfl, (Nat.le_trans (Nat.add_le_add_right hc9 0) (Nat.le_of_ble_eq_true rfl)), (Nat.le_trans (Nat.add_le_add_right hs9 0) (Nat.le_of_ble_eq_true rfl))⟩ (by decide) sc_209 rfl rfl hl.1 [] rfl (Nat.le_of_ble_eq_true rfl) dL_law_377 (fun H locs hP hD hS => ?_)
  refine lv_if_eq (tgt := 487) hx hb dL_law_380 (by decide) (fun c9 => absurd c9 (by decide)) (fun _ => ?_)
  refine lv_aload hx hb dL_law_383 (lv_at hl 5 rfl) ?_
  have e9 := q_wcount hKz
  rw [z1] at e9
  refine gl_callNi (nA := 0) (mX11_waitingCount l D cA P.ad P.adF P.adW P.tt az _ (STG P) stg_E  sz_a _ sz_a (e9)) G hP hD hS (g_good q3_157 q3_158 q3_159 q1_1 q3_160) (by decide +kernel) ⟨Nat.le_of_ble_eq_true rfl, Nat.le_of_ble_eq_true rfl, (Nat.le_trans (Nat.add_le_add_right hc9 0) (Nat.le_of_ble_eq_true rfl)), (Nat.le_trans (Nat.add_le_add_right hs9 0) (Nat.le_of_ble_eq_true rfl))⟩ (by decide) sc_209 rfl rfl hl.1 [] rfl (Nat.le_of_ble_eq_true rfl) dL_law_385 (fun H locs hP hD hS => ?_)
  refine lv_if_ne (tgt := 487) hx hb dL_law_388 (by decide) (fun c9 => absurd (by decide) c9) (fun _ => ?_)
  refine lv_aload hx hb dL_law_391 (lv_at hl 5 rfl) ?_
  refine lv_bipush (v := nI 7) hx hb dL_law_393 (by decide) ?_
  have e9 := q_mesh hKz (w := 7) (by decide)
  rw [show A00.1 (16 + 7) = 3 from rfl] at e9
  refine gl_callVi (nA := 1) (mX11_mesh l hlt D cA P.ad P.adF P.adW P.tt az _ (STG P) stg_E stg_X (nI 7) sz_a 0 _ sz_a (e9)) G hP hD hS (g_good q4_4 q4_5 q4_6 q1_1 q4_7) (by decide +kernel) ⟨Nat.le_of_ble_eq_true rfl, Nat.le_of_ble_eq_true rfl, (Nat.le_trans (Nat.add_le_add_right hc9 2) (Nat.le_of_ble_eq_true rfl)), (Nat.le_trans (Nat.add_le_add_right hs9 12) (Nat.le_of_ble_eq_true rfl))⟩ (by decide) sc_209 rfl rfl hl.1 [] rfl (Nat.le_of_ble_eq_true rfl) dL_law_395 (fun h0 => absurd rfl h0) (fun _ H locs hP hD hS => ?_)
  refine W.widen (k := cells + 2) (n := slots + 12) (Nat.le_refl _) (Nat.le_refl _) ?_
  refine lv_iconst (v := nI 3) hx hb dL_law_398 (by decide) ?_
  refine lv_icmp_ne (tgt := 487) hx hb dL_law_399 (by decide) (fun c9 => absurd (rfl) c9) (fun _ => ?_)
  refine lv_aload hx hb dL_law_402 (lv_at hl 5 rfl) ?_
  refine lv_iconst (v := nI 2) hx hb dL_law_404 (by decide) ?_
  have e9 := q_gear hKz (w := 2) (by decide)
  rw [show A00.1 (7 + 2) = 1 from rfl] at e9
  refine gl_callVi (nA := 1) (mX11_gear l hlt D cA P.ad P.adF P.adW P.tt az _ (STG P) stg_E stg_X (nI 2) sz_a 0 _ sz_a (e9)) G hP hD hS (g_good q3_231 q3_232 q3_233 q1_1 q3_234) (by decide +kernel) ⟨Nat.le_of_ble_eq_true rfl, Nat.le_of_ble_eq_true rfl, (Nat.le_trans (Nat.add_le_add_right hc9 4) (Nat.le_of_ble_eq_true rfl)), (Nat.le_trans (Nat.add_le_add_right hs9 24) (Nat.le_of_ble_eq_true rfl))⟩ (by decide) sc_209 rfl rfl hl.1 [] rfl (Nat.le_of_ble_eq_true rfl) dL_law_405 (fun h0 => absurd rfl h0) (fun _ H locs hP hD hS => ?_)
  refine W.widen (k := cells + 4) (n := slots + 24) (Nat.le_refl _) (Nat.le_refl _) ?_
  refine lv_iconst (v := nI 1) hx hb dL_law_408 (by decide) ?_
  refine lv_icmp_ne (tgt := 487) hx hb dL_law_409 (by decide) (fun c9 => absurd (rfl) c9) (fun _ => ?_)
  refine lv_aload hx hb dL_law_412 (lv_at hl 5 rfl) ?_
  refine lv_bipush (v := nI 60) hx hb dL_law_414 (by decide) ?_
  obtain ⟨sz_b, hKz, e9⟩ := q_groundWithin (m := 2000) (Nat.le_refl _) (by decide) hKz (n := 60) (by decide)
  rw [z2] at e9
  refine gl_callVi (nA := 1) (mX11_groundWithin l hlt D cA P.ad P.adF P.adW P.tt az _ (STG P) stg_E stg_X 2000 (nI 60) sz_a 0 _ sz_b (e9)) G hP hD hS (g_good q4_70 q4_71 q4_72 q1_1 q4_73) (by decide +kernel) ⟨Nat.le_of_ble_eq_true rfl, Nat.le_of_ble_eq_true rfl, (Nat.le_trans (Nat.add_le_add_right hc9 6) (Nat.le_of_ble_eq_true rfl)), (Nat.le_trans (Nat.add_le_add_right hs9 36) (Nat.le_of_ble_eq_true rfl))⟩ (by decide) sc_209 rfl rfl hl.1 [] rfl (Nat.le_of_ble_eq_true rfl) dL_law_416 (fun h0 => absurd rfl h0) (fun _ H locs hP hD hS => ?_)
  refine W.widen (k := cells + 6) (n := slots + 36) (Nat.le_refl _) (Nat.le_refl _) ?_
  refine lv_if_ne (tgt := 487) hx hb dL_law_419 (by decide) (fun c9 => absurd (by decide) c9) (fun _ => ?_)
  refine lv_aload hx hb dL_law_422 (lv_at hl 5 rfl) ?_
  refine lv_iconst (v := nI 2) hx hb dL_law_424 (by decide) ?_
  have e9 := q_wheelByWear (m := 2000) (Nat.le_refl _) hKz (w := 2) (by decide) (fun v hv => by rw [z3]; exact lt2_p (q := fun v => wrk A00 v ≠ 2) z4 z5 v hv)
  rw [z3] at e9
  refine gl_callVi (nA := 1) (mX11_wheelByWear l hlt D cA P.ad P.adF P.adW P.tt az _ (STG P) stg_E stg_X 2000 (nI 2) sz_b 0 _ sz_b (e9)) G hP hD hS (g_good q4_100 q4_101 q4_102 q1_1 q4_103) (by decide +kernel) ⟨Nat.le_of_ble_eq_true rfl, Nat.le_of_ble_eq_true rfl, (Nat.le_trans (Nat.add_le_add_right hc9 8) (Nat.le_of_ble_eq_true rfl)), (Nat.le_trans (Nat.add_le_add_right hs9 48) (Nat.le_of_ble_eq_true rfl))⟩ (by decide) sc_209 rfl rfl hl.1 [] rfl (Nat.le_of_ble_eq_true rfl) dL_law_425 (fun h0 => absurd rfl h0) (fun _ H locs hP hD hS => ?_)
  refine W.widen (k := cells + 8) (n := slots + 48) (Nat.le_refl _) (Nat.le_refl _) ?_
  refine lv_iconst (v := nI 2) hx hb dL_law_428 (by decide) ?_
  refine lv_icmp_ne (tgt := 487) hx hb dL_law_429 (by decide) (fun c9 => absurd (rfl) c9) (fun _ => ?_)
  refine lv_aload hx hb dL_law_432 (lv_at hl 5 rfl) ?_
  refine lv_bipush (v := nI 7) hx hb dL_law_434 (by decide) ?_
  have e9 := q_bandByGrains (m := 2000) (Nat.le_refl _) (by decide) hKz (w := 7) (by decide) (fun v hv => by rw [z6]; exact of_decide_eq_true (List.all_eq_true.mp z7 v (List.mem_range.mpr hv)))
  rw [z6] at e9
  refine gl_callVi (nA := 1) (mX11_bandByGrains l hlt D cA P.ad P.adF P.adW P.tt az _ (STG P) stg_E stg_X 2000 (nI 7) sz_b 0 _ sz_b (e9)) G hP hD hS (g_good q4_112 q4_113 q4_114 q1_1 q4_115) (by decide +kernel) ⟨Nat.le_of_ble_eq_true rfl, Nat.le_of_ble_eq_true rfl, (Nat.le_trans (Nat.add_le_add_right hc9 10) (Nat.le_of_ble_eq_true rfl)), (Nat.le_trans (Nat.add_le_add_right hs9 60) (Nat.le_of_ble_eq_true rfl))⟩ (by decide) sc_209 rfl rfl hl.1 [] rfl (Nat.le_of_ble_eq_true rfl) dL_law_436 (fun h0 => absurd rfl h0) (fun _ H locs hP hD hS => ?_)
  refine W.widen (k := cells + 10) (n := slots + 60) (Nat.le_refl _) (Nat.le_refl _) ?_
  refine lv_bipush (v := nI 7) hx hb dL_law_439 (by decide) ?_
  refine lv_icmp_ne (tgt := 487) hx hb dL_law_441 (by decide) (fun c9 => absurd (rfl) c9) (fun _ => ?_)
  refine lv_aload hx hb dL_law_444 (lv_at hl 5 rfl) ?_
  refine lv_iconst (v := nI 1) hx hb dL_law_446 (by decide) ?_
  refine lv_iconst (v := nI 0) hx hb dL_law_447 (by decide) ?_
  refine lv_iconst (v := nI 0) hx hb dL_law_448 (by decide) ?_
  refine lv_iconst (v := nI 0) hx hb dL_law_449 (by decide) ?_
  have e9 := KO.no (by rw [z8]; decide) (k_remove (m := 2000) (Nat.le_refl _) (by decide) hKz (n := 0) (by decide))
  rw [z8] at e9
  refine c_callLi (nA := 5) ([] : va_W) (wc cA P.ad az (fz ++ (wc cA P.ad ax fx sx ++ (wc cA P.ad ay fy sy ++ ([] : va_W)))) sz_b) (mL_act_1 l hlt D cA P.ad P.adF P.adW P.tt az _ (STG P) stg_E stg_X stg_N 2000 (nI 0) (nI 0) (nI 0) sz_b _ 0 sz_b e9 (by decide)) G hP hD hS (List.Perm.refl _) (g_goodL q5_141 q5_142 q1_0 q5_143) (by decide +kernel) ⟨Nat.le_of_ble_eq_true rfl, Nat.le_of_ble_eq_true rfl, (Nat.le_trans (Nat.add_le_add_right hc9 12) (Nat.le_of_ble_eq_true rfl)), (Nat.le_trans (Nat.add_le_add_right hs9 72) (Nat.le_of_ble_eq_true rfl))⟩ rfl hl.1 [] rfl (Nat.le_of_ble_eq_true rfl) dL_law_450 (fun r9 b9 H locs hok hP hD hS => ?_)
  obtain ⟨hr9, hb9⟩ := hok
  rw [hb9] at hP hD
  have hr9 : r9 = (-4) := hr9
  subst hr9
  have hP : va_P D vwCl (wc cA P.ad az (fz ++ (wc cA P.ad ax fx sx ++ (wc cA P.ad ay fy sy ++ ([] : va_W)))) sz_b) H := hP
  have hD : va_D A9 (wc cA P.ad az (fz ++ (wc cA P.ad ax fx sx ++ (wc cA P.ad ay fy sy ++ ([] : va_W)))) sz_b) := hD
  refine W.widen (k := cells + 12) (n := slots + 72) (Nat.le_refl _) (Nat.le_refl _) ?_
  refine lv_bipush (v := (-4)) hx hb dL_law_453 (by decide) ?_
  refine lv_icmp_ne (tgt := 487) hx hb dL_law_455 (by decide) (fun c9 => absurd (rfl) c9) (fun _ => ?_)
  refine lv_aload hx hb dL_law_458 (lv_at hl 5 rfl) ?_
  refine lv_iconst (v := nI 5) hx hb dL_law_460 (by decide) ?_
  refine lv_iconst (v := nI 0) hx hb dL_law_461 (by decide) ?_
  refine lv_iconst (v := nI 0) hx hb dL_law_462 (by decide) ?_
  refine lv_iconst (v := nI 0) hx hb dL_law_463 (by decide) ?_
  have e9 := KO.no (by rw [z9]; decide) (k_release (m := 2000) (Nat.le_refl _) hKz (w := 0) (by decide))
  rw [z9] at e9
  refine c_callLi (nA := 5) ([] : va_W) (wc cA P.ad az (fz ++ (wc cA P.ad ax fx sx ++ (wc cA P.ad ay fy sy ++ ([] : va_W)))) sz_b) (mL_act_5 l hlt D cA P.ad P.adF P.adW P.tt az _ (STG P) stg_E stg_X stg_N 2000 (nI 0) (nI 0) (nI 0) sz_b _ 0 sz_b e9 (by decide)) G hP hD hS (List.Perm.refl _) (g_goodL q5_141 q5_142 q1_0 q5_143) (by decide +kernel) ⟨Nat.le_of_ble_eq_true rfl, Nat.le_of_ble_eq_true rfl, (Nat.le_trans (Nat.add_le_add_right hc9 14) (Nat.le_of_ble_eq_true rfl)), (Nat.le_trans (Nat.add_le_add_right hs9 84) (Nat.le_of_ble_eq_true rfl))⟩ rfl hl.1 [] rfl (Nat.le_of_ble_eq_true rfl) dL_law_464 (fun r9 b9 H locs hok hP hD hS => ?_)
  obtain ⟨hr9, hb9⟩ := hok
  rw [hb9] at hP hD
  have hr9 : r9 = (-4) := hr9
  subst hr9
  have hP : va_P D vwCl (wc cA P.ad az (fz ++ (wc cA P.ad ax fx sx ++ (wc cA P.ad ay fy sy ++ ([] : va_W)))) sz_b) H := hP
  have hD : va_D A9 (wc cA P.ad az (fz ++ (wc cA P.ad ax fx sx ++ (wc cA P.ad ay fy sy ++ ([] : va_W)))) sz_b) := hD
  refine W.widen (k := cells + 14) (n := slots + 84) (Nat.le_refl _) (Nat.le_refl _) ?_
  refine lv_bipush (v := (-4)) hx hb dL_law_467 (by decide) ?_
  refine lv_icmp_ne (tgt := 487) hx hb dL_law_469 (by decide) (fun c9 => absurd (rfl) c9) (fun _ => ?_)
  refine lv_aload hx hb dL_law_472 (lv_at hl 5 rfl) ?_
  refine lv_bipush (v := nI 6) hx hb dL_law_474 (by decide) ?_
  refine lv_iconst (v := nI 0) hx hb dL_law_476 (by decide) ?_
  refine lv_iconst (v := nI 1) hx hb dL_law_477 (by decide) ?_
  refine lv_iconst (v := nI 0) hx hb dL_law_478 (by decide) ?_
  have e9 := KO.no (by rw [z10]; decide) (k_ship (m := 2000) (Nat.le_refl _) hKz (g := 0) (n := 1) (by decide) (by decide))
  rw [z10] at e9
  refine c_callLi (nA := 5) ([] : va_W) (wc cA P.ad az (fz ++ (wc cA P.ad ax fx sx ++ (wc cA P.ad ay fy sy ++ ([] : va_W)))) sz_b) (mL_act_6 l hlt D cA P.ad P.adF P.adW P.tt az _ (STG P) stg_E stg_X stg_N 2000 (nI 0) (nI 1) (nI 0) sz_b _ 0 sz_b e9 (by decide)) G hP hD hS (List.Perm.refl _) (g_goodL q5_141 q5_142 q1_0 q5_143) (by decide +kernel) ⟨Nat.le_of_ble_eq_true rfl, Nat.le_of_ble_eq_true rfl, (Nat.le_trans (Nat.add_le_add_right hc9 16) (Nat.le_of_ble_eq_true rfl)), (Nat.le_trans (Nat.add_le_add_right hs9 96) (Nat.le_of_ble_eq_true rfl))⟩ rfl hl.1 [] rfl (Nat.le_of_ble_eq_true rfl) dL_law_479 (fun r9 b9 H locs hok hP hD hS => ?_)
  obtain ⟨hr9, hb9⟩ := hok
  rw [hb9] at hP hD
  have hr9 : r9 = (-3) := hr9
  subst hr9
  have hP : va_P D vwCl (wc cA P.ad az (fz ++ (wc cA P.ad ax fx sx ++ (wc cA P.ad ay fy sy ++ ([] : va_W)))) sz_b) H := hP
  have hD : va_D A9 (wc cA P.ad az (fz ++ (wc cA P.ad ax fx sx ++ (wc cA P.ad ay fy sy ++ ([] : va_W)))) sz_b) := hD
  refine W.widen (k := cells + 16) (n := slots + 96) (Nat.le_refl _) (Nat.le_refl _) ?_
  refine lv_bipush (v := (-3)) hx hb dL_law_482 (by decide) ?_
  refine lv_icmp_eq (tgt := 489) hx hb dL_law_484 (by decide) (fun _ => ?_) (fun c9 => absurd (rfl) c9)
  exact law_489 hlt G hL hEnd hm0 ha1 ha2 hKx hKz hP hD hS (Nat.le_trans (Nat.add_le_add_right hc9 16) (Nat.le_of_ble_eq_true rfl)) (Nat.le_trans (Nat.add_le_add_right hs9 96) (Nat.le_of_ble_eq_true rfl)) hl
end LW5
