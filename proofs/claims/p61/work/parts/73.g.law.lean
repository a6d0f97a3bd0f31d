section LW6
variable {p : Program} {l : Launch} {e : Env} {s : State} {m : MethodId} {args : Array Value} {below : List Frame} {meth : Method} {c : Code} {H : Heap} {locs : List Loc} {cells slots : Nat} {Q : State → Prop}
variable {ls : Array Slot} {D : va_G} {A9 : Nat → Prop} {cA : Nat → ClassId} {P : PR}
set_option maxHeartbeats 4000000 in
set_option maxRecDepth 100000 in
theorem law_339 (hlt : l.stackTraces = false) (G : GC p s m args meth c cL_law 10 RL (some .boolean) A9 D (TYS cA) (STG P)) (hL : P.L < 2 ^ 31) (hEnd : ∀ (H : Heap) (locs : List Loc) (cells slots : Nat) (ls : Array Slot), va_S A9 s.heap H locs → cells ≤ 634335 → slots ≤ 7187242 → W p l e room_1 s m args below meth c H locs cells slots Q (F0 m 1087 ls [.int 1])) {ax ay : Nat → Nat} {fx fy : va_W} {sx sy : St} {A : AM} {Hx : List AM} {er fl : Option Nat} (hKx : KG sx A Hx (some A) [] er fl 124) (hP : va_P D vwCl (wc cA P.ad ax (fx ++ (wc cA P.ad ay fy sy ++ ([] : va_W))) sx) H) (hD : va_D A9 (wc cA P.ad ax (fx ++ (wc cA P.ad ay fy sy ++ ([] : va_W))) sx)) (hS : va_S A9 s.heap H locs) (hc9 : cells ≤ 14000) (hs9 : slots ≤ 240000) (hl : lv_has ls 10 [(0, .ref P.b), (1, .ref (ax 209)), (3, .int (nI (wN A))), (4, .int (stA A))]) : W p l e room_1 s m args below meth c H locs cells slots Q (F0 m 339 ls []) := by
  have hx := G.1
  have hb := G.2.1
  refine lv_aload_n hx hb dL_law_339 rfl (lv_at hl 0 rfl) ?_
  refine lv_bipush (v := nI 13) hx hb dL_law_340 (by decide) ?_
  refine c_callSi (nA := 2) (wc cA P.ad ax (fx ++ (wc cA P.ad ay fy sy ++ ([] : va_W))) sx) ([] : va_W) (mL_at l D cA (STG P) stg_E.1 stg_B hL 13 (by decide)) G hP hD hS (List.Perm.of_eq (List.append_nil _).symm) (g_goodSX q5_115 q5_116 q1_0 q5_117) (by decide +kernel) ⟨Nat.le_of_ble_eq_true rfl, Nat.le_of_ble_eq_true rfl, (Nat.le_trans (Nat.add_le_add_right hc9 0) (Nat.le_of_ble_eq_true rfl)), (Nat.le_trans (Nat.add_le_add_right hs9 0) (Nat.le_of_ble_eq_true rfl))⟩ rfl hl.1 [] rfl (Nat.le_of_ble_eq_true rfl) dL_law_342 (fun cv _ H locs _ hP hD hS => ?_)
  rw [List.append_nil] at hP hD
  refine lv_istore (lv' := [(5, .int cv), (0, .ref P.b), (1, .ref (ax 209)), (3, .int (nI (wN A))), (4, .int (stA A))]) hx hb dL_law_345 hl (by decide) rfl (fun ls hl => ?_)
  refine lv_iload hx hb dL_law_347 (lv_at hl 0 rfl) ?_
  refine lv_bipush (v := nI 7) hx hb dL_law_349 (by decide) ?_
  refine lv_iand hx hb dL_law_351 ?_
  rw [msk_eq cv 7 (by decide)]
  refine lv_istore (lv' := [(6, .int (nI (msk cv 7))), (5, .int cv), (0, .ref P.b), (1, .ref (ax 209)), (3, .int (nI (wN A))), (4, .int (stA A))]) hx hb dL_law_352 hl (by decide) rfl (fun ls hl => ?_)
  refine lv_bipush (v := nI 20) hx hb dL_law_354 (by decide) ?_
  refine lv_iload hx hb dL_law_356 (lv_at hl 1 rfl) ?_
  refine lv_iconst (v := nI 3) hx hb dL_law_358 (by decide) ?_
  refine lv_ishr hx hb dL_law_359 ?_
  refine lv_bipush (v := nI 31) hx hb dL_law_360 (by decide) ?_
  refine lv_iand hx hb dL_law_362 ?_
  rw [msk_eq (cv >>> (nI 3 &&& 31)) 31 (by decide)]
  refine lv_iadd hx hb dL_law_363 ?_
  rw [nI_add 20 (msk (cv >>> (nI 3 &&& 31)) 31)]
  refine lv_istore (lv' := [(7, .int (nI (20 + msk (cv >>> (nI 3 &&& 31)) 31))), (6, .int (nI (msk cv 7))), (5, .int cv), (0, .ref P.b), (1, .ref (ax 209)), (3, .int (nI (wN A))), (4, .int (stA A))]) hx hb dL_law_364 hl (by decide) rfl (fun ls hl => ?_)
  refine c_new (F := ([] : va_W)) (B := (wc cA P.ad ax (fx ++ (wc cA P.ad ay fy sy ++ ([] : va_W))) sx)) (ci := 13) (fs := [.null, .null, .null, .int 0, .null, .null, .null, .null, .int 0, .int 0]) G hP hD hS i_X11 tyX11 tyX11_ok q1_40 q1_41 q1_1 rfl dflt_X11 (Nat.le_trans (Nat.add_le_add_right hc9 1) (Nat.le_of_ble_eq_true rfl)) (Nat.le_trans (Nat.add_le_add_right hs9 10) (Nat.le_of_ble_eq_true rfl)) dL_law_366 (fun q2 H1 hPr hDr hSr => ?_)
  refine lv_dup hx hb dL_law_369 rfl ?_
  refine c_callI (F := ([] : va_W)) (B := (wc cA P.ad ax (fx ++ (wc cA P.ad ay fy sy ++ ([] : va_W))) sx)) (mX11_init l D cA P.ad P.adF P.adW P.tt (STG P) stg_E stg_W stg_O q2) G hPr hDr hSr q1_42 q1_43 q1_1 q1_44 rfl (by decide +kernel) ⟨Nat.le_of_ble_eq_true rfl, Nat.le_of_ble_eq_true rfl, (Nat.le_trans (Nat.add_le_add_right hc9 243) (Nat.le_of_ble_eq_true rfl)), (Nat.le_trans (Nat.add_le_add_right hs9 2315) (Nat.le_of_ble_eq_true rfl))⟩ hl.1 (Nat.le_of_ble_eq_true rfl) dL_law_370 (fun y9 H2 locs2 hok hPc hDc hSc => ?_)
  obtain ⟨az, qz⟩ := y9
  have hok : az 209 = q2 := hok
  subst hok
  refine W.widen (k := cells + 243) (n := slots + 2315) (Nat.le_refl _) (Nat.le_refl _) ?_
  have hPc : va_P D vwCl ((wc cA P.ad ax (fx ++ (wc cA P.ad ay fy sy ++ ([] : va_W))) sx) ++ wc cA P.ad az (sbC cA (az 241) 0 (sb0 qz)) σN0) H2 := hPc
  have hDc : va_D A9 ((wc cA P.ad ax (fx ++ (wc cA P.ad ay fy sy ++ ([] : va_W))) sx) ++ wc cA P.ad az (sbC cA (az 241) 0 (sb0 qz)) σN0) := hDc
  have hPc := hPc.perm (sw_new (N := 241) (sh := shc))
  have hDc := hDc.perm (sw_new (N := 241) (sh := shc))
  refine lv_astore (lv' := [(8, .ref (az 209)), (7, .int (nI (20 + msk (cv >>> (nI 3 &&& 31)) 31))), (6, .int (nI (msk cv 7))), (5, .int cv), (0, .ref P.b), (1, .ref (ax 209)), (3, .int (nI (wN A))), (4, .int (stA A))]) hx hb dL_law_373 hl (by decide) rfl (fun ls hl => ?_)
  exact law_375 hlt G hL hEnd (show msk cv 7 < 8 by have := msk_le cv 7; omega) (show 20 ≤ 20 + msk (cv >>> (nI 3 &&& 31)) 31 by omega) (show 20 + msk (cv >>> (nI 3 &&& 31)) 31 < 52 by have := msk_le (cv >>> (nI 3 &&& 31)) 31; omega) hKx (kg_start fun _ _ _ => rfl) hPc hDc hSc (Nat.le_trans (Nat.add_le_add_right hc9 243) (Nat.le_of_ble_eq_true rfl)) (Nat.le_trans (Nat.add_le_add_right hs9 2315) (Nat.le_of_ble_eq_true rfl)) (lv_sub hl [5, 6, 7, 2, 1, 0] rfl)
end LW6
