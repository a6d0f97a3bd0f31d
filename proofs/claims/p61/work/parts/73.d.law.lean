section LW3
variable {p : Program} {l : Launch} {e : Env} {s : State} {m : MethodId} {args : Array Value} {below : List Frame} {meth : Method} {c : Code} {H : Heap} {locs : List Loc} {cells slots : Nat} {Q : State → Prop}
variable {ls : Array Slot} {D : va_G} {A9 : Nat → Prop} {cA : Nat → ClassId} {P : PR}
set_option maxHeartbeats 4000000 in
set_option maxRecDepth 100000 in
theorem law_519 (hlt : l.stackTraces = false) (G : GC p s m args meth c cL_law 10 RL (some .boolean) A9 D (TYS cA) (STG P)) (hL : P.L < 2 ^ 31) (hEnd : ∀ (H : Heap) (locs : List Loc) (cells slots : Nat) (ls : Array Slot), va_S A9 s.heap H locs → cells ≤ 634335 → slots ≤ 7187242 → W p l e room_1 s m args below meth c H locs cells slots Q (F0 m 1087 ls [.int 1])) {ax ay az : Nat → Nat} {fx fy fz : va_W} {sx sy sz : St} {A : AM} {Hx : List AM} {er fl : Option Nat} {m0 a0 : Nat} (hm0 : m0 < 8) (ha1 : 20 ≤ a0) (ha2 : a0 < 52) (hKx : KG sx A Hx (some A) [] er fl 124) (hKz : KG sz A00 [] none (zT a0) none none 0) (hP : va_P D vwCl (wc cA P.ad az (fz ++ (wc cA P.ad ax fx sx ++ (wc cA P.ad ay fy sy ++ ([] : va_W)))) sz) H) (hD : va_D A9 (wc cA P.ad az (fz ++ (wc cA P.ad ax fx sx ++ (wc cA P.ad ay fy sy ++ ([] : va_W)))) sz)) (hS : va_S A9 s.heap H locs) (hc9 : cells ≤ 17000) (hs9 : slots ≤ 270000) (hl : lv_has ls 10 [(1, .ref (ax 209)), (3, .int (nI (wN A))), (4, .int (stA A)), (6, .int (nI m0)), (7, .int (nI a0)), (8, .ref (az 209))]) : W p l e room_1 s m args below meth c H locs cells slots Q (F0 m 519 ls []) := by
  have hx := G.1
  have hb := G.2.1
  have h12 : 12 ≤ a0 := by omega
  have h02 : 2 ≤ a0 := by omega
  have hlt12 : a0 - 12 < 2 ^ 31 := by omega
  have hn1 : 1 ≤ a0 - 2 := by omega
  have hn60 : a0 - 2 ≤ 60 := by omega
  have hd10 : 2 * m0 < 2 ^ 31 := by omega
  have hm31 : m0 < 2 ^ 31 := by omega
  have hm3 : m0 / 3 < 4 := by omega
  have hq2 : 2 * m0 / 10 ≤ 2 := by omega
  have hm10 : m0 < 10 := by omega
  have ha31 : a0 < 2 ^ 31 := by omega
  have hz9 := z_allA ha1 ha2
  unfold zA at hz9
  simp only [Bool.and_eq_true, decide_eq_true_eq] at hz9
  obtain ⟨-, -, -, h18, -⟩ := hz9
  have hz9 : zB2 m0 a0 = true := z_all2 hm0 ha1 ha2
  unfold zB2 at hz9
  simp only [Bool.and_eq_true, decide_eq_true_eq] at hz9
  obtain ⟨f2, hwN, hw0, hw1, hl3, hi2, hwt, hrk, hlS, hg1⟩ := hz9
  have hz9 : zB3 m0 a0 = true := z_all3 hm0 ha1 ha2
  unfold zB3 at hz9
  simp only [Bool.and_eq_true, decide_eq_true_eq] at hz9
  obtain ⟨f3, hZ3, h6, h132, h140, h148, h133, h141, h14, -, -, -, -, -, -, -, -, -⟩ := hz9
  have d2 : (oMesh (Z1 a0) 2 m0).2.2 = Z2 m0 a0 := rfl
  have d3 : (oAdv (Z2 m0 a0) 1).2.2 = Z3 m0 a0 := rfl
  generalize hE1 : Z1 a0 = z1 at *
  generalize hE2 : Z2 m0 a0 = z2 at *
  generalize hE3 : Z3 m0 a0 = z3 at *
  refine lv_aload hx hb dL_law_519 (lv_at hl 5 rfl) ?_
  obtain ⟨sz_a, e9, hKz⟩ := run_z (by decide) ha1 ha2 hKz
  rw [hE1] at hKz
  refine gl_callVi (nA := 0) (mX11_runScript l hlt D cA P.ad P.adF P.adW P.tt az _ (STG P) stg_E stg_X stg_W 2000  sz 0 _ sz_a (e9)) G hP hD hS (g_good q4_176 q4_177 q4_178 q1_1 q4_179) (by decide +kernel) ⟨Nat.le_of_ble_eq_true rfl, Nat.le_of_ble_eq_true rfl, (Nat.le_trans (Nat.add_le_add_right hc9 2) (Nat.le_of_ble_eq_true rfl)), (Nat.le_trans (Nat.add_le_add_right hs9 12) (Nat.le_of_ble_eq_true rfl))⟩ (by decide) sc_209 rfl rfl hl.1 [] rfl (Nat.le_of_ble_eq_true rfl) dL_law_521 (fun h0 => absurd rfl h0) (fun _ H locs hP hD hS => ?_)
  refine W.widen (k := cells + 2) (n := slots + 12) (Nat.le_refl _) (Nat.le_refl _) ?_
  refine lv_iconst (v := nI 5) hx hb dL_law_524 (by decide) ?_
  refine lv_icmp_ne (tgt := 711) hx hb dL_law_525 (by decide) (fun c9 => absurd (rfl) c9) (fun _ => ?_)
  refine lv_aload hx hb dL_law_528 (lv_at hl 5 rfl) ?_
  refine lv_iconst (v := nI 2) hx hb dL_law_530 (by decide) ?_
  refine lv_iload hx hb dL_law_531 (lv_at hl 3 rfl) ?_
  obtain ⟨sz_b, e9, hKz⟩ := KO.ok f2 (k_mesh (m := 2000) (Nat.le_refl _) hKz (w := 2) (g := m0) (by decide) hm31)
  rw [show (oMesh z1 2 m0).2.1 = nI 3 from (r_mesh ⟨by decide, hm10⟩).trans (congrArg nI h18)] at e9
  rw [d2] at hKz
  have hKz : KG sz_b z2 _ none [] none none 2 := hKz
  refine gl_callVi (nA := 2) (mX11_setMesh l hlt D cA P.ad P.adF P.adW P.tt az _ (STG P) stg_E stg_X 2000 (nI 2) (nI m0) sz_a 0 _ sz_b (e9)) G hP hD hS (g_good q3_42 q3_43 q3_44 q1_1 q3_45) (by decide +kernel) ⟨Nat.le_of_ble_eq_true rfl, Nat.le_of_ble_eq_true rfl, (Nat.le_trans (Nat.add_le_add_right hc9 4) (Nat.le_of_ble_eq_true rfl)), (Nat.le_trans (Nat.add_le_add_right hs9 24) (Nat.le_of_ble_eq_true rfl))⟩ (by decide) sc_209 rfl rfl hl.1 [] rfl (Nat.le_of_ble_eq_true rfl) dL_law_533 (fun h0 => absurd rfl h0) (fun _ H locs hP hD hS => ?_)
  refine W.widen (k := cells + 4) (n := slots + 24) (Nat.le_refl _) (Nat.le_refl _) ?_
  refine lv_iconst (v := nI 3) hx hb dL_law_536 (by decide) ?_
  refine lv_icmp_ne (tgt := 711) hx hb dL_law_537 (by decide) (fun c9 => absurd (rfl) c9) (fun _ => ?_)
  refine lv_aload hx hb dL_law_540 (lv_at hl 5 rfl) ?_
  refine lv_iconst (v := nI 0) hx hb dL_law_542 (by decide) ?_
  obtain ⟨-, sz_c, e9, hKz⟩ := q_waitingAt (m := 2000) (Nat.le_refl _) (by decide) hKz (r := 0) (by rw [hwN]; decide)
  rw [hw0] at e9
  refine gl_callVi (nA := 1) (mX11_waitingAt l hlt D cA P.ad P.adF P.adW P.tt az _ (STG P) stg_E stg_X 2000 (nI 0) sz_b 0 _ sz_c (e9)) G hP hD hS (g_good q3_161 q3_162 q3_163 q1_1 q3_164) (by decide +kernel) ⟨Nat.le_of_ble_eq_true rfl, Nat.le_of_ble_eq_true rfl, (Nat.le_trans (Nat.add_le_add_right hc9 6) (Nat.le_of_ble_eq_true rfl)), (Nat.le_trans (Nat.add_le_add_right hs9 36) (Nat.le_of_ble_eq_true rfl))⟩ (by decide) sc_209 rfl rfl hl.1 [] rfl (Nat.le_of_ble_eq_true rfl) dL_law_543 (fun h0 => absurd rfl h0) (fun _ H locs hP hD hS => ?_)
  refine W.widen (k := cells + 6) (n := slots + 36) (Nat.le_refl _) (Nat.le_refl _) ?_
  refine lv_iconst (v := nI 1) hx hb dL_law_546 (by decide) ?_
  refine lv_icmp_ne (tgt := 711) hx hb dL_law_547 (by decide) (fun c9 => absurd (rfl) c9) (fun _ => ?_)
  refine lv_aload hx hb dL_law_550 (lv_at hl 5 rfl) ?_
  refine lv_iconst (v := nI 1) hx hb dL_law_552 (by decide) ?_
  obtain ⟨-, sz_d, e9, hKz⟩ := q_waitingAt (m := 2000) (Nat.le_refl _) (by decide) hKz (r := 1) (by rw [hwN]; decide)
  rw [hw1] at e9
  refine gl_callVi (nA := 1) (mX11_waitingAt l hlt D cA P.ad P.adF P.adW P.tt az _ (STG P) stg_E stg_X 2000 (nI 1) sz_c 0 _ sz_d (e9)) G hP hD hS (g_good q3_161 q3_162 q3_163 q1_1 q3_164) (by decide +kernel) ⟨Nat.le_of_ble_eq_true rfl, Nat.le_of_ble_eq_true rfl, (Nat.le_trans (Nat.add_le_add_right hc9 8) (Nat.le_of_ble_eq_true rfl)), (Nat.le_trans (Nat.add_le_add_right hs9 48) (Nat.le_of_ble_eq_true rfl))⟩ (by decide) sc_209 rfl rfl hl.1 [] rfl (Nat.le_of_ble_eq_true rfl) dL_law_553 (fun h0 => absurd rfl h0) (fun _ H locs hP hD hS => ?_)
  refine W.widen (k := cells + 8) (n := slots + 48) (Nat.le_refl _) (Nat.le_refl _) ?_
  refine lv_if_ne (tgt := 711) hx hb dL_law_556 (by decide) (fun c9 => absurd (by decide) c9) (fun _ => ?_)
  refine lv_aload hx hb dL_law_559 (lv_at hl 5 rfl) ?_
  refine lv_iconst (v := nI 2) hx hb dL_law_561 (by decide) ?_
  have e9 := q_rankOf (m := 2000) (Nat.le_refl _) (by decide) hKz (i := 2) (by rw [hl3]; decide) hwt
  rw [hi2, hrk] at e9
  refine gl_callVi (nA := 1) (mX11_rankOf l hlt D cA P.ad P.adF P.adW P.tt az _ (STG P) stg_E stg_X 2000 (nI 2) sz_d 0 _ sz_d (e9)) G hP hD hS (g_good q3_180 q3_181 q3_182 q1_1 q3_183) (by decide +kernel) ⟨Nat.le_of_ble_eq_true rfl, Nat.le_of_ble_eq_true rfl, (Nat.le_trans (Nat.add_le_add_right hc9 10) (Nat.le_of_ble_eq_true rfl)), (Nat.le_trans (Nat.add_le_add_right hs9 60) (Nat.le_of_ble_eq_true rfl))⟩ (by decide) sc_209 rfl rfl hl.1 [] rfl (Nat.le_of_ble_eq_true rfl) dL_law_562 (fun h0 => absurd rfl h0) (fun _ H locs hP hD hS => ?_)
  refine W.widen (k := cells + 10) (n := slots + 60) (Nat.le_refl _) (Nat.le_refl _) ?_
  refine lv_iconst (v := nI 2) hx hb dL_law_565 (by decide) ?_
  refine lv_icmp_ne (tgt := 711) hx hb dL_law_566 (by decide) (fun c9 => absurd (rfl) c9) (fun _ => ?_)
  refine lv_aload hx hb dL_law_569 (lv_at hl 5 rfl) ?_
  have e9 := q_mean (m := 2000) (Nat.le_refl _) hKz (by rw [hwN]; decide)
  rw [hlS, hwN, dv_193] at e9
  unfold ND at e9
  rw [if_pos (by decide)] at e9
  refine gl_callVd (nA := 0) (mX11_meanLoudness l hlt D cA P.ad P.adF P.adW P.tt az _ (STG P) stg_E stg_X 2000 sz_d 0 _ sz_d (e9)) G hP hD hS (g_good q4_128 q4_129 q4_130 q1_1 q4_131) (by decide +kernel) ⟨Nat.le_of_ble_eq_true rfl, Nat.le_of_ble_eq_true rfl, (Nat.le_trans (Nat.add_le_add_right hc9 12) (Nat.le_of_ble_eq_true rfl)), (Nat.le_trans (Nat.add_le_add_right hs9 72) (Nat.le_of_ble_eq_true rfl))⟩ (by decide) sc_209 rfl rfl hl.1 [] rfl (Nat.le_of_ble_eq_true rfl) dL_law_571 (fun h0 => absurd rfl h0) (fun _ H locs hP hD hS => ?_)
  refine W.widen (k := cells + 12) (n := slots + 72) (Nat.le_refl _) (Nat.le_refl _) ?_
  refine lv_ldc2d (v := 4618816717837391189) hx hb G.2.2.2.1 (G.2.2.2.2.1 _ q7_96) dL_law_574 ?_
  refine lv_dcmp hx hb dL_law_577 ?_
  rw [dc_193]
  refine lv_if_ne (tgt := 711) hx hb dL_law_578 (by decide) (fun c9 => absurd (rfl) c9) (fun _ => ?_)
  refine lv_aload hx hb dL_law_581 (lv_at hl 5 rfl) ?_
  refine lv_iconst (v := nI 1) hx hb dL_law_583 (by decide) ?_
  obtain ⟨sz_e, hKz, e9⟩ := q_groundWithin (m := 2000) (Nat.le_refl _) (by decide) hKz (n := 1) (by decide)
  rw [hg1] at e9
  refine gl_callVi (nA := 1) (mX11_groundWithin l hlt D cA P.ad P.adF P.adW P.tt az _ (STG P) stg_E stg_X 2000 (nI 1) sz_d 0 _ sz_e (e9)) G hP hD hS (g_good q4_70 q4_71 q4_72 q1_1 q4_73) (by decide +kernel) ⟨Nat.le_of_ble_eq_true rfl, Nat.le_of_ble_eq_true rfl, (Nat.le_trans (Nat.add_le_add_right hc9 14) (Nat.le_of_ble_eq_true rfl)), (Nat.le_trans (Nat.add_le_add_right hs9 84) (Nat.le_of_ble_eq_true rfl))⟩ (by decide) sc_209 rfl rfl hl.1 [] rfl (Nat.le_of_ble_eq_true rfl) dL_law_584 (fun h0 => absurd rfl h0) (fun _ H locs hP hD hS => ?_)
  refine W.widen (k := cells + 14) (n := slots + 84) (Nat.le_refl _) (Nat.le_refl _) ?_
  refine lv_bipush (v := nI 13) hx hb dL_law_587 (by decide) ?_
  refine lv_icmp_ne (tgt := 711) hx hb dL_law_589 (by decide) (fun c9 => absurd (rfl) c9) (fun _ => ?_)
  refine lv_aload hx hb dL_law_592 (lv_at hl 5 rfl) ?_
  refine lv_iconst (v := nI 1) hx hb dL_law_594 (by decide) ?_
  obtain ⟨sz_f, e9, hKz⟩ := KO.ok f3 (k_advance (m := 2000) (Nat.le_refl _) (by decide) hKz (n := 1) (by decide))
  rw [show (oAdv z2 1).2.1 = nI 13 from (r_adv (by decide)).trans (congrArg nI hg1)] at e9
  rw [d3] at hKz
  have hKz : KG sz_f z3 _ none [] none none 3 := hKz
  refine gl_callVi (nA := 1) (mX11_advance l hlt D cA P.ad P.adF P.adW P.tt az _ (STG P) stg_E stg_X 2000 (nI 1) sz_e 0 _ sz_f (e9)) G hP hD hS (g_good q3_103 q3_104 q3_105 q1_1 q3_106) (by decide +kernel) ⟨Nat.le_of_ble_eq_true rfl, Nat.le_of_ble_eq_true rfl, (Nat.le_trans (Nat.add_le_add_right hc9 16) (Nat.le_of_ble_eq_true rfl)), (Nat.le_trans (Nat.add_le_add_right hs9 96) (Nat.le_of_ble_eq_true rfl))⟩ (by decide) sc_209 rfl rfl hl.1 [] rfl (Nat.le_of_ble_eq_true rfl) dL_law_595 (fun h0 => absurd rfl h0) (fun _ H locs hP hD hS => ?_)
  refine W.widen (k := cells + 16) (n := slots + 96) (Nat.le_refl _) (Nat.le_refl _) ?_
  refine lv_bipush (v := nI 13) hx hb dL_law_598 (by decide) ?_
  refine lv_icmp_ne (tgt := 711) hx hb dL_law_600 (by decide) (fun c9 => absurd (rfl) c9) (fun _ => ?_)
  refine lv_aload hx hb dL_law_603 (lv_at hl 5 rfl) ?_
  refine lv_iconst (v := nI 1) hx hb dL_law_605 (by decide) ?_
  have e9 := qs_exf (by decide) hKz hZ3 (x := nI 1) (show nI 0 ≠ nI 1 by decide)
  refine gl_callNi (nA := 1) (mX11_exists l D cA P.ad P.adF P.adW P.tt az _ (STG P) stg_E 2000 (nI 1) sz_f _ sz_f (e9)) G hP hD hS (g_good q3_200 q3_201 q3_202 q1_1 q3_203) (by decide +kernel) ⟨Nat.le_of_ble_eq_true rfl, Nat.le_of_ble_eq_true rfl, (Nat.le_trans (Nat.add_le_add_right hc9 16) (Nat.le_of_ble_eq_true rfl)), (Nat.le_trans (Nat.add_le_add_right hs9 96) (Nat.le_of_ble_eq_true rfl))⟩ (by decide) sc_209 rfl rfl hl.1 [] rfl (Nat.le_of_ble_eq_true rfl) dL_law_606 (fun H locs hP hD hS => ?_)
  refine lv_if_ne (tgt := 711) hx hb dL_law_609 (by decide) (fun c9 => absurd (by decide) c9) (fun _ => ?_)
  refine lv_aload hx hb dL_law_612 (lv_at hl 5 rfl) ?_
  refine lv_iconst (v := nI 1) hx hb dL_law_614 (by decide) ?_
  have e9 := (q_log hKz (by decide) (r := 1) (by decide) (by rw [h6]; decide)).1
  rw [h6, show 132 + (2 - 1 - 1) % 8 = 132 from rfl, h132] at e9
  refine gl_callVi (nA := 1) (mX11_doneNumber l hlt D cA P.ad P.adF P.adW P.tt az _ (STG P) stg_E stg_X (nI 1) sz_f 0 _ sz_f (e9)) G hP hD hS (g_good q4_79 q4_80 q4_81 q1_1 q4_82) (by decide +kernel) ⟨Nat.le_of_ble_eq_true rfl, Nat.le_of_ble_eq_true rfl, (Nat.le_trans (Nat.add_le_add_right hc9 18) (Nat.le_of_ble_eq_true rfl)), (Nat.le_trans (Nat.add_le_add_right hs9 108) (Nat.le_of_ble_eq_true rfl))⟩ (by decide) sc_209 rfl rfl hl.1 [] rfl (Nat.le_of_ble_eq_true rfl) dL_law_615 (fun h0 => absurd rfl h0) (fun _ H locs hP hD hS => ?_)
  refine W.widen (k := cells + 18) (n := slots + 108) (Nat.le_refl _) (Nat.le_refl _) ?_
  refine lv_iconst (v := nI 1) hx hb dL_law_618 (by decide) ?_
  refine lv_icmp_ne (tgt := 711) hx hb dL_law_619 (by decide) (fun c9 => absurd (rfl) c9) (fun _ => ?_)
  refine lv_aload hx hb dL_law_622 (lv_at hl 5 rfl) ?_
  refine lv_iconst (v := nI 1) hx hb dL_law_624 (by decide) ?_
  have e9 := (q_log hKz (by decide) (r := 1) (by decide) (by rw [h6]; decide)).2.1
  rw [h6, show 140 + (2 - 1 - 1) % 8 = 140 from rfl, h140] at e9
  refine gl_callVi (nA := 1) (mX11_doneWheel l hlt D cA P.ad P.adF P.adW P.tt az _ (STG P) stg_E stg_X (nI 1) sz_f 0 _ sz_f (e9)) G hP hD hS (g_good q4_92 q4_93 q4_94 q1_1 q4_95) (by decide +kernel) ⟨Nat.le_of_ble_eq_true rfl, Nat.le_of_ble_eq_true rfl, (Nat.le_trans (Nat.add_le_add_right hc9 20) (Nat.le_of_ble_eq_true rfl)), (Nat.le_trans (Nat.add_le_add_right hs9 120) (Nat.le_of_ble_eq_true rfl))⟩ (by decide) sc_209 rfl rfl hl.1 [] rfl (Nat.le_of_ble_eq_true rfl) dL_law_625 (fun h0 => absurd rfl h0) (fun _ H locs hP hD hS => ?_)
  refine W.widen (k := cells + 20) (n := slots + 120) (Nat.le_refl _) (Nat.le_refl _) ?_
  refine lv_if_ne (tgt := 711) hx hb dL_law_628 (by decide) (fun c9 => absurd (by decide) c9) (fun _ => ?_)
  refine lv_aload hx hb dL_law_631 (lv_at hl 5 rfl) ?_
  refine lv_iconst (v := nI 1) hx hb dL_law_633 (by decide) ?_
  have e9 := (q_log hKz (by decide) (r := 1) (by decide) (by rw [h6]; decide)).2.2
  rw [h6, show 148 + (2 - 1 - 1) % 8 = 148 from rfl, h148] at e9
  refine gl_callVi (nA := 1) (mX11_doneTime l hlt D cA P.ad P.adF P.adW P.tt az _ (STG P) stg_E stg_X (nI 1) sz_f 0 _ sz_f (e9)) G hP hD hS (g_good q4_96 q4_97 q4_98 q1_1 q4_99) (by decide +kernel) ⟨Nat.le_of_ble_eq_true rfl, Nat.le_of_ble_eq_true rfl, (Nat.le_trans (Nat.add_le_add_right hc9 22) (Nat.le_of_ble_eq_true rfl)), (Nat.le_trans (Nat.add_le_add_right hs9 132) (Nat.le_of_ble_eq_true rfl))⟩ (by decide) sc_209 rfl rfl hl.1 [] rfl (Nat.le_of_ble_eq_true rfl) dL_law_634 (fun h0 => absurd rfl h0) (fun _ H locs hP hD hS => ?_)
  refine W.widen (k := cells + 22) (n := slots + 132) (Nat.le_refl _) (Nat.le_refl _) ?_
  refine lv_iconst (v := nI 1) hx hb dL_law_637 (by decide) ?_
  refine lv_icmp_ne (tgt := 711) hx hb dL_law_638 (by decide) (fun c9 => absurd (rfl) c9) (fun _ => ?_)
  refine lv_aload hx hb dL_law_641 (lv_at hl 5 rfl) ?_
  refine lv_iconst (v := nI 0) hx hb dL_law_643 (by decide) ?_
  have e9 := (q_log hKz (by decide) (r := 0) (by decide) (by rw [h6]; decide)).1
  rw [h6, show 132 + (2 - 1 - 0) % 8 = 133 from rfl, h133] at e9
  refine gl_callVi (nA := 1) (mX11_doneNumber l hlt D cA P.ad P.adF P.adW P.tt az _ (STG P) stg_E stg_X (nI 0) sz_f 0 _ sz_f (e9)) G hP hD hS (g_good q4_79 q4_80 q4_81 q1_1 q4_82) (by decide +kernel) ⟨Nat.le_of_ble_eq_true rfl, Nat.le_of_ble_eq_true rfl, (Nat.le_trans (Nat.add_le_add_right hc9 24) (Nat.le_of_ble_eq_true rfl)), (Nat.le_trans (Nat.add_le_add_right hs9 144) (Nat.le_of_ble_eq_true rfl))⟩ (by decide) sc_209 rfl rfl hl.1 [] rfl (Nat.le_of_ble_eq_true rfl) dL_law_644 (fun h0 => absurd rfl h0) (fun _ H locs hP hD hS => ?_)
  refine W.widen (k := cells + 24) (n := slots + 144) (Nat.le_refl _) (Nat.le_refl _) ?_
  refine lv_iconst (v := nI 2) hx hb dL_law_647 (by decide) ?_
  refine lv_icmp_ne (tgt := 711) hx hb dL_law_648 (by decide) (fun c9 => absurd (rfl) c9) (fun _ => ?_)
  refine lv_aload hx hb dL_law_651 (lv_at hl 5 rfl) ?_
  refine lv_iconst (v := nI 0) hx hb dL_law_653 (by decide) ?_
  have e9 := (q_log hKz (by decide) (r := 0) (by decide) (by rw [h6]; decide)).2.1
  rw [h6, show 140 + (2 - 1 - 0) % 8 = 141 from rfl, h141] at e9
  refine gl_callVi (nA := 1) (mX11_doneWheel l hlt D cA P.ad P.adF P.adW P.tt az _ (STG P) stg_E stg_X (nI 0) sz_f 0 _ sz_f (e9)) G hP hD hS (g_good q4_92 q4_93 q4_94 q1_1 q4_95) (by decide +kernel) ⟨Nat.le_of_ble_eq_true rfl, Nat.le_of_ble_eq_true rfl, (Nat.le_trans (Nat.add_le_add_right hc9 26) (Nat.le_of_ble_eq_true rfl)), (Nat.le_trans (Nat.add_le_add_right hs9 156) (Nat.le_of_ble_eq_true rfl))⟩ (by decide) sc_209 rfl rfl hl.1 [] rfl (Nat.le_of_ble_eq_true rfl) dL_law_654 (fun h0 => absurd rfl h0) (fun _ H locs hP hD hS => ?_)
  refine W.widen (k := cells + 26) (n := slots + 156) (Nat.le_refl _) (Nat.le_refl _) ?_
  refine lv_iconst (v := nI 2) hx hb dL_law_657 (by decide) ?_
  refine lv_icmp_ne (tgt := 711) hx hb dL_law_658 (by decide) (fun c9 => absurd (rfl) c9) (fun _ => ?_)
  refine lv_aload hx hb dL_law_661 (lv_at hl 5 rfl) ?_
  refine lv_iconst (v := nI 2) hx hb dL_law_663 (by decide) ?_
  have e9 := qs_exf (by decide) hKz hZ3 (x := nI 2) (show nI 0 ≠ nI 2 by decide)
  refine gl_callNi (nA := 1) (mX11_exists l D cA P.ad P.adF P.adW P.tt az _ (STG P) stg_E 2000 (nI 2) sz_f _ sz_f (e9)) G hP hD hS (g_good q3_200 q3_201 q3_202 q1_1 q3_203) (by decide +kernel) ⟨Nat.le_of_ble_eq_true rfl, Nat.le_of_ble_eq_true rfl, (Nat.le_trans (Nat.add_le_add_right hc9 26) (Nat.le_of_ble_eq_true rfl)), (Nat.le_trans (Nat.add_le_add_right hs9 156) (Nat.le_of_ble_eq_true rfl))⟩ (by decide) sc_209 rfl rfl hl.1 [] rfl (Nat.le_of_ble_eq_true rfl) dL_law_664 (fun H locs hP hD hS => ?_)
  refine lv_if_ne (tgt := 711) hx hb dL_law_667 (by decide) (fun c9 => absurd (by decide) c9) (fun _ => ?_)
  refine lv_aload hx hb dL_law_670 (lv_at hl 5 rfl) ?_
  have e9 := q_done hKz
  rw [h6] at e9
  refine gl_callNi (nA := 0) (mX11_doneCount l D cA P.ad P.adF P.adW P.tt az _ (STG P) stg_E  sz_f _ sz_f (e9)) G hP hD hS (g_good q4_75 q4_76 q4_77 q1_1 q4_78) (by decide +kernel) ⟨Nat.le_of_ble_eq_true rfl, Nat.le_of_ble_eq_true rfl, (Nat.le_trans (Nat.add_le_add_right hc9 26) (Nat.le_of_ble_eq_true rfl)), (Nat.le_trans (Nat.add_le_add_right hs9 156) (Nat.le_of_ble_eq_true rfl))⟩ (by decide) sc_209 rfl rfl hl.1 [] rfl (Nat.le_of_ble_eq_true rfl) dL_law_672 (fun H locs hP hD hS => ?_)
  refine lv_iconst (v := nI 2) hx hb dL_law_675 (by decide) ?_
  refine lv_icmp_ne (tgt := 711) hx hb dL_law_676 (by decide) (fun c9 => absurd (rfl) c9) (fun _ => ?_)
  refine lv_aload hx hb dL_law_679 (lv_at hl 5 rfl) ?_
  refine lv_iconst (v := nI 1) hx hb dL_law_681 (by decide) ?_
  have e9 := qs_on hKz (by decide) (w := 1) (n := 0) (by decide) h14
  refine gl_callVi (nA := 1) (mX11_noiseOn l hlt D cA P.ad P.adF P.adW P.tt az _ (STG P) stg_E stg_X (nI 1) sz_f 0 _ sz_f (e9)) G hP hD hS (g_good q3_220 q3_221 q3_222 q1_1 q3_223) (by decide +kernel) ⟨Nat.le_of_ble_eq_true rfl, Nat.le_of_ble_eq_true rfl, (Nat.le_trans (Nat.add_le_add_right hc9 28) (Nat.le_of_ble_eq_true rfl)), (Nat.le_trans (Nat.add_le_add_right hs9 168) (Nat.le_of_ble_eq_true rfl))⟩ (by decide) sc_209 rfl rfl hl.1 [] rfl (Nat.le_of_ble_eq_true rfl) dL_law_682 (fun h0 => absurd rfl h0) (fun _ H locs hP hD hS => ?_)
  refine W.widen (k := cells + 28) (n := slots + 168) (Nat.le_refl _) (Nat.le_refl _) ?_
  refine lv_if_ne (tgt := 711) hx hb dL_law_685 (by decide) (fun c9 => absurd (by decide) c9) (fun _ => ?_)
  refine lv_aload hx hb dL_law_688 (lv_at hl 5 rfl) ?_
  refine lv_iconst (v := nI 0) hx hb dL_law_690 (by decide) ?_
  have e9 := qs_wheel (by decide) hKz hZ3 (w := 1) (by decide) h14
  refine gl_callVi (nA := 1) (mX11_wheelOf l hlt D cA P.ad P.adF P.adW P.tt az _ (STG P) stg_E stg_X 2000 (nI 0) sz_f 0 _ sz_f (e9)) G hP hD hS (g_good q3_212 q3_213 q3_214 q1_1 q3_215) (by decide +kernel) ⟨Nat.le_of_ble_eq_true rfl, Nat.le_of_ble_eq_true rfl, (Nat.le_trans (Nat.add_le_add_right hc9 30) (Nat.le_of_ble_eq_true rfl)), (Nat.le_trans (Nat.add_le_add_right hs9 180) (Nat.le_of_ble_eq_true rfl))⟩ (by decide) sc_209 rfl rfl hl.1 [] rfl (Nat.le_of_ble_eq_true rfl) dL_law_691 (fun h0 => absurd rfl h0) (fun _ H locs hP hD hS => ?_)
  refine W.widen (k := cells + 30) (n := slots + 180) (Nat.le_refl _) (Nat.le_refl _) ?_
  refine lv_iconst (v := nI 1) hx hb dL_law_694 (by decide) ?_
  refine lv_icmp_ne (tgt := 711) hx hb dL_law_695 (by decide) (fun c9 => absurd (rfl) c9) (fun _ => ?_)
  refine lv_aload hx hb dL_law_698 (lv_at hl 5 rfl) ?_
  refine lv_iconst (v := nI 0) hx hb dL_law_700 (by decide) ?_
  have e9 := qs_amount (by decide) hKz hZ3
  refine gl_callVi (nA := 1) (mX11_amount l hlt D cA P.ad P.adF P.adW P.tt az _ (STG P) stg_E stg_X 2000 (nI 0) sz_f 0 _ sz_f (e9)) G hP hD hS (g_good q3_204 q3_205 q3_206 q1_1 q3_207) (by decide +kernel) ⟨Nat.le_of_ble_eq_true rfl, Nat.le_of_ble_eq_true rfl, (Nat.le_trans (Nat.add_le_add_right hc9 32) (Nat.le_of_ble_eq_true rfl)), (Nat.le_trans (Nat.add_le_add_right hs9 192) (Nat.le_of_ble_eq_true rfl))⟩ (by decide) sc_209 rfl rfl hl.1 [] rfl (Nat.le_of_ble_eq_true rfl) dL_law_701 (fun h0 => absurd rfl h0) (fun _ H locs hP hD hS => ?_)
  refine W.widen (k := cells + 32) (n := slots + 192) (Nat.le_refl _) (Nat.le_refl _) ?_
  refine lv_iload hx hb dL_law_704 (lv_at hl 4 rfl) ?_
  refine lv_iconst (v := nI 2) hx hb dL_law_706 (by decide) ?_
  refine lv_isub hx hb dL_law_707 ?_
  rw [show nI a0 - nI 2 = nI (a0 - 2) from pk_sub h02]
  refine lv_icmp_eq (tgt := 713) hx hb dL_law_708 (by decide) (fun _ => ?_) (fun c9 => absurd (rfl) c9)
  rw [← hE3] at hKz
  exact law_713 hlt G hL hEnd hm0 ha1 ha2 hKx hKz hP hD hS (Nat.le_trans (Nat.add_le_add_right hc9 32) (Nat.le_of_ble_eq_true rfl)) (Nat.le_trans (Nat.add_le_add_right hs9 192) (Nat.le_of_ble_eq_true rfl)) (lv_sub hl [0, 1, 2, 3, 4, 5] rfl)
end LW3
