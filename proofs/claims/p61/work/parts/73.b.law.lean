section LW1
variable {p : Program} {l : Launch} {e : Env} {s : State} {m : MethodId} {args : Array Value} {below : List Frame} {meth : Method} {c : Code} {H : Heap} {locs : List Loc} {cells slots : Nat} {Q : State → Prop}
variable {ls : Array Slot} {D : va_G} {A9 : Nat → Prop} {cA : Nat → ClassId} {P : PR}
set_option maxHeartbeats 4000000 in
set_option maxRecDepth 100000 in
theorem law_853 (hlt : l.stackTraces = false) (G : GC p s m args meth c cL_law 10 RL (some .boolean) A9 D (TYS cA) (STG P)) (hL : P.L < 2 ^ 31) (hEnd : ∀ (H : Heap) (locs : List Loc) (cells slots : Nat) (ls : Array Slot), va_S A9 s.heap H locs → cells ≤ 634335 → slots ≤ 7187242 → W p l e room_1 s m args below meth c H locs cells slots Q (F0 m 1087 ls [.int 1])) {ax ay az : Nat → Nat} {fx fy fz : va_W} {sx sy sz : St} {A : AM} {Hx Hz : List AM} {er fl erz flz : Option Nat} {m0 a0 : Nat} (hm0 : m0 < 8) (ha1 : 20 ≤ a0) (ha2 : a0 < 52) (hKx : KG sx A Hx (some A) [] er fl 124) (hKz : KG sz (Z3 m0 a0) Hz none [] erz flz 3) (hP : va_P D vwCl (wc cA P.ad az (fz ++ (wc cA P.ad ax fx sx ++ (wc cA P.ad ay fy sy ++ ([] : va_W)))) sz) H) (hD : va_D A9 (wc cA P.ad az (fz ++ (wc cA P.ad ax fx sx ++ (wc cA P.ad ay fy sy ++ ([] : va_W)))) sz)) (hS : va_S A9 s.heap H locs) (hc9 : cells ≤ 19000) (hs9 : slots ≤ 290000) (hl : lv_has ls 10 [(1, .ref (ax 209)), (3, .int (nI (wN A))), (4, .int (stA A)), (7, .int (nI a0)), (8, .ref (az 209))]) : W p l e room_1 s m args below meth c H locs cells slots Q (F0 m 853 ls []) := by
  have hx := G.1
  have hb := G.2.1
  have h12 : 12 ≤ a0 := by omega
  have h02 : 2 ≤ a0 := by omega
  have hlt12 : a0 - 12 < 2 ^ 31 := by omega
  have hn1 : 1 ≤ a0 - 2 := by omega
  have hn60 : a0 - 2 ≤ 60 := by omega
  have hd10 : 2 * m0 < 2 ^ 31 := by omega
  have hm31 : m0 < 2 ^ 31 := by omega
  have hm3 : m0 / 3 < 4 := by omega
  have hq2 : 2 * m0 / 10 ≤ 2 := by omega
  have hm10 : m0 < 10 := by omega
  have ha31 : a0 < 2 ^ 31 := by omega
  have hz9 : zB3 m0 a0 = true := z_all3 hm0 ha1 ha2
  unfold zB3 at hz9
  simp only [Bool.and_eq_true, decide_eq_true_eq] at hz9
  obtain ⟨-, hZ3, -, -, -, -, -, -, h14, -, -, -, -, -, -, -, -, -⟩ := hz9
  have hz9 : zB4 m0 a0 = true := z_all4 hm0 ha1 ha2
  unfold zB4 at hz9
  simp only [Bool.and_eq_true, decide_eq_true_eq] at hz9
  obtain ⟨f4, hZ4, hwt, f5, g8, f6, g3, k13, k10, hZ6, f7, k3, l10, f8, n10, l3⟩ := hz9
  have d4 : (oRel (Z3 m0 a0) 1).2.2 = Z4 m0 a0 := rfl
  have d5 : (oGear (Z4 m0 a0) 1 3).2.2 = Z5 m0 a0 := rfl
  have d6 : (oAdv (Z5 m0 a0) 1).2.2 = Z6 m0 a0 := rfl
  have d7 : (oAdv (Z6 m0 a0) 1).2.2 = Z7 m0 a0 := rfl
  have d8 : (oClear (Z7 m0 a0) 0).2.2 = Z8 m0 a0 := rfl
  generalize hE3 : Z3 m0 a0 = z3 at *
  generalize hE4 : Z4 m0 a0 = z4 at *
  generalize hE5 : Z5 m0 a0 = z5 at *
  generalize hE6 : Z6 m0 a0 = z6 at *
  generalize hE7 : Z7 m0 a0 = z7 at *
  generalize hE8 : Z8 m0 a0 = z8 at *
  refine lv_aload hx hb dL_law_853 (lv_at hl 4 rfl) ?_
  refine lv_iconst (v := nI 1) hx hb dL_law_855 (by decide) ?_
  obtain ⟨sz_a, e9, hKz⟩ := KO.ok f4 (k_release (m := 2000) (Nat.le_refl _) hKz (w := 1) (by decide))
  rw [show (oRel z3 1).2.1 = nI 0 from (r_rel f4).trans (by rw [show z3.1 (13 + 1) = 1 from h14])] at e9
  rw [d4] at hKz
  have hKz : KG sz_a z4 (pushH Hz z3) none [] erz flz 4 := hKz
  refine gl_callVi (nA := 1) (mX11_releaseNoise l hlt D cA P.ad P.adF P.adW P.tt az _ (STG P) stg_E stg_X 2000 (nI 1) sz 0 _ sz_a (e9)) G hP hD hS (g_good q3_67 q3_68 q3_69 q1_1 q3_70) (by decide +kernel) ⟨Nat.le_of_ble_eq_true rfl, Nat.le_of_ble_eq_true rfl, (Nat.le_trans (Nat.add_le_add_right hc9 2) (Nat.le_of_ble_eq_true rfl)), (Nat.le_trans (Nat.add_le_add_right hs9 12) (Nat.le_of_ble_eq_true rfl))⟩ (by decide) sc_209 rfl rfl hl.1 [] rfl (Nat.le_of_ble_eq_true rfl) dL_law_856 (fun h0 => absurd rfl h0) (fun _ H locs hP hD hS => ?_)
  refine W.widen (k := cells + 2) (n := slots + 12) (Nat.le_refl _) (Nat.le_refl _) ?_
  refine lv_if_ne (tgt := 1063) hx hb dL_law_859 (by decide) (fun c9 => absurd (by decide) c9) (fun _ => ?_)
  refine lv_aload hx hb dL_law_862 (lv_at hl 4 rfl) ?_
  refine lv_iconst (v := nI 0) hx hb dL_law_864 (by decide) ?_
  have e9 := qs_wait (by decide) hKz hZ4
  rw [if_pos hwt] at e9
  refine gl_callVi (nA := 1) (mX11_isWaiting l hlt D cA P.ad P.adF P.adW P.tt az _ (STG P) stg_E stg_X 2000 (nI 0) sz_a 0 _ sz_a (e9)) G hP hD hS (g_good q3_208 q3_209 q3_210 q1_1 q3_211) (by decide +kernel) ⟨Nat.le_of_ble_eq_true rfl, Nat.le_of_ble_eq_true rfl, (Nat.le_trans (Nat.add_le_add_right hc9 4) (Nat.le_of_ble_eq_true rfl)), (Nat.le_trans (Nat.add_le_add_right hs9 24) (Nat.le_of_ble_eq_true rfl))⟩ (by decide) sc_209 rfl rfl hl.1 [] rfl (Nat.le_of_ble_eq_true rfl) dL_law_865 (fun h0 => absurd rfl h0) (fun _ H locs hP hD hS => ?_)
  refine W.widen (k := cells + 4) (n := slots + 24) (Nat.le_refl _) (Nat.le_refl _) ?_
  refine lv_if_eq (tgt := 1063) hx hb dL_law_868 (by decide) (fun c9 => absurd c9 (by decide)) (fun _ => ?_)
  refine lv_aload hx hb dL_law_871 (lv_at hl 4 rfl) ?_
  refine lv_iconst (v := nI 1) hx hb dL_law_873 (by decide) ?_
  refine lv_iconst (v := nI 3) hx hb dL_law_874 (by decide) ?_
  obtain ⟨sz_b, e9, hKz⟩ := KO.ok f5 (k_gear (m := 2000) (Nat.le_refl _) hKz (w := 1) (g := 3) (by decide) (by decide))
  rw [show (oGear z4 1 3).2.1 = nI 1 from (r_gear (by decide) (by decide)).trans (congrArg nI g8)] at e9
  rw [d5] at hKz
  have hKz : KG sz_b z5 (pushH (pushH Hz z3) z4) none [] erz flz 5 := hKz
  refine gl_callVi (nA := 2) (mX11_setGear l hlt D cA P.ad P.adF P.adW P.tt az _ (STG P) stg_E stg_X 2000 (nI 1) (nI 3) sz_a 0 _ sz_b (e9)) G hP hD hS (g_good q2_81 q2_82 q2_83 q1_1 q2_84) (by decide +kernel) ⟨Nat.le_of_ble_eq_true rfl, Nat.le_of_ble_eq_true rfl, (Nat.le_trans (Nat.add_le_add_right hc9 6) (Nat.le_of_ble_eq_true rfl)), (Nat.le_trans (Nat.add_le_add_right hs9 36) (Nat.le_of_ble_eq_true rfl))⟩ (by decide) sc_209 rfl rfl hl.1 [] rfl (Nat.le_of_ble_eq_true rfl) dL_law_875 (fun h0 => absurd rfl h0) (fun _ H locs hP hD hS => ?_)
  refine W.widen (k := cells + 6) (n := slots + 36) (Nat.le_refl _) (Nat.le_refl _) ?_
  refine lv_iconst (v := nI 1) hx hb dL_law_878 (by decide) ?_
  refine lv_icmp_ne (tgt := 1063) hx hb dL_law_879 (by decide) (fun c9 => absurd (rfl) c9) (fun _ => ?_)
  refine lv_aload hx hb dL_law_882 (lv_at hl 4 rfl) ?_
  refine lv_iconst (v := nI 1) hx hb dL_law_884 (by decide) ?_
  obtain ⟨sz_c, e9, hKz⟩ := KO.ok f6 (k_advance (m := 2000) (Nat.le_refl _) (by decide) hKz (n := 1) (by decide))
  rw [show (oAdv z5 1).2.1 = nI 10 from (r_adv (by decide)).trans (congrArg nI g3)] at e9
  rw [d6] at hKz
  have hKz : KG sz_c z6 _ none [] erz flz 6 := hKz
  refine gl_callVi (nA := 1) (mX11_advance l hlt D cA P.ad P.adF P.adW P.tt az _ (STG P) stg_E stg_X 2000 (nI 1) sz_b 0 _ sz_c (e9)) G hP hD hS (g_good q3_103 q3_104 q3_105 q1_1 q3_106) (by decide +kernel) ⟨Nat.le_of_ble_eq_true rfl, Nat.le_of_ble_eq_true rfl, (Nat.le_trans (Nat.add_le_add_right hc9 8) (Nat.le_of_ble_eq_true rfl)), (Nat.le_trans (Nat.add_le_add_right hs9 48) (Nat.le_of_ble_eq_true rfl))⟩ (by decide) sc_209 rfl rfl hl.1 [] rfl (Nat.le_of_ble_eq_true rfl) dL_law_885 (fun h0 => absurd rfl h0) (fun _ H locs hP hD hS => ?_)
  refine W.widen (k := cells + 8) (n := slots + 48) (Nat.le_refl _) (Nat.le_refl _) ?_
  refine lv_bipush (v := nI 10) hx hb dL_law_888 (by decide) ?_
  refine lv_icmp_ne (tgt := 1063) hx hb dL_law_890 (by decide) (fun c9 => absurd (rfl) c9) (fun _ => ?_)
  refine lv_aload hx hb dL_law_893 (lv_at hl 4 rfl) ?_
  refine lv_iconst (v := nI 0) hx hb dL_law_895 (by decide) ?_
  have e9 := qs_on hKz (by decide) (w := 0) (n := 0) (by decide) k13
  refine gl_callVi (nA := 1) (mX11_noiseOn l hlt D cA P.ad P.adF P.adW P.tt az _ (STG P) stg_E stg_X (nI 0) sz_c 0 _ sz_c (e9)) G hP hD hS (g_good q3_220 q3_221 q3_222 q1_1 q3_223) (by decide +kernel) ⟨Nat.le_of_ble_eq_true rfl, Nat.le_of_ble_eq_true rfl, (Nat.le_trans (Nat.add_le_add_right hc9 10) (Nat.le_of_ble_eq_true rfl)), (Nat.le_trans (Nat.add_le_add_right hs9 60) (Nat.le_of_ble_eq_true rfl))⟩ (by decide) sc_209 rfl rfl hl.1 [] rfl (Nat.le_of_ble_eq_true rfl) dL_law_896 (fun h0 => absurd rfl h0) (fun _ H locs hP hD hS => ?_)
  refine W.widen (k := cells + 10) (n := slots + 60) (Nat.le_refl _) (Nat.le_refl _) ?_
  refine lv_if_ne (tgt := 1063) hx hb dL_law_899 (by decide) (fun c9 => absurd (by decide) c9) (fun _ => ?_)
  refine lv_aload hx hb dL_law_902 (lv_at hl 4 rfl) ?_
  refine lv_iconst (v := nI 0) hx hb dL_law_904 (by decide) ?_
  have e9 := q_wear hKz (w := 0) (by decide)
  rw [show z6.1 (10 + 0) = 10 from k10] at e9
  refine gl_callVi (nA := 1) (mX11_wear l hlt D cA P.ad P.adF P.adW P.tt az _ (STG P) stg_E stg_X (nI 0) sz_c 0 _ sz_c (e9)) G hP hD hS (g_good q3_235 q3_236 q3_237 q1_1 q3_238) (by decide +kernel) ⟨Nat.le_of_ble_eq_true rfl, Nat.le_of_ble_eq_true rfl, (Nat.le_trans (Nat.add_le_add_right hc9 12) (Nat.le_of_ble_eq_true rfl)), (Nat.le_trans (Nat.add_le_add_right hs9 72) (Nat.le_of_ble_eq_true rfl))⟩ (by decide) sc_209 rfl rfl hl.1 [] rfl (Nat.le_of_ble_eq_true rfl) dL_law_905 (fun h0 => absurd rfl h0) (fun _ H locs hP hD hS => ?_)
  refine W.widen (k := cells + 12) (n := slots + 72) (Nat.le_refl _) (Nat.le_refl _) ?_
  refine lv_bipush (v := nI 10) hx hb dL_law_908 (by decide) ?_
  refine lv_icmp_ne (tgt := 1063) hx hb dL_law_910 (by decide) (fun c9 => absurd (rfl) c9) (fun _ => ?_)
  refine lv_aload hx hb dL_law_913 (lv_at hl 4 rfl) ?_
  refine lv_iconst (v := nI 0) hx hb dL_law_915 (by decide) ?_
  have e9 := qs_amount (by decide) hKz hZ6
  refine gl_callVi (nA := 1) (mX11_amount l hlt D cA P.ad P.adF P.adW P.tt az _ (STG P) stg_E stg_X 2000 (nI 0) sz_c 0 _ sz_c (e9)) G hP hD hS (g_good q3_204 q3_205 q3_206 q1_1 q3_207) (by decide +kernel) ⟨Nat.le_of_ble_eq_true rfl, Nat.le_of_ble_eq_true rfl, (Nat.le_trans (Nat.add_le_add_right hc9 14) (Nat.le_of_ble_eq_true rfl)), (Nat.le_trans (Nat.add_le_add_right hs9 84) (Nat.le_of_ble_eq_true rfl))⟩ (by decide) sc_209 rfl rfl hl.1 [] rfl (Nat.le_of_ble_eq_true rfl) dL_law_916 (fun h0 => absurd rfl h0) (fun _ H locs hP hD hS => ?_)
  refine W.widen (k := cells + 14) (n := slots + 84) (Nat.le_refl _) (Nat.le_refl _) ?_
  refine lv_iload hx hb dL_law_919 (lv_at hl 3 rfl) ?_
  refine lv_bipush (v := nI 12) hx hb dL_law_921 (by decide) ?_
  refine lv_isub hx hb dL_law_923 ?_
  rw [show nI a0 - nI 12 = nI (a0 - 12) from pk_sub h12]
  refine lv_icmp_ne (tgt := 1063) hx hb dL_law_924 (by decide) (fun c9 => absurd (rfl) c9) (fun _ => ?_)
  refine lv_aload hx hb dL_law_927 (lv_at hl 4 rfl) ?_
  refine lv_iconst (v := nI 0) hx hb dL_law_929 (by decide) ?_
  have e9 := q_isJammed hKz (w := 0) (by decide)
  rw [show z6.1 (10 + 0) = 10 from k10, if_pos (show 10 < 12 by decide)] at e9
  refine gl_callVi (nA := 1) (mX11_isJammed l hlt D cA P.ad P.adF P.adW P.tt az _ (STG P) stg_E stg_X (nI 0) sz_c 0 _ sz_c (e9)) G hP hD hS (g_good q3_239 q4_0 q4_1 q1_1 q4_2) (by decide +kernel) ⟨Nat.le_of_ble_eq_true rfl, Nat.le_of_ble_eq_true rfl, (Nat.le_trans (Nat.add_le_add_right hc9 16) (Nat.le_of_ble_eq_true rfl)), (Nat.le_trans (Nat.add_le_add_right hs9 96) (Nat.le_of_ble_eq_true rfl))⟩ (by decide) sc_209 rfl rfl hl.1 [] rfl (Nat.le_of_ble_eq_true rfl) dL_law_930 (fun h0 => absurd rfl h0) (fun _ H locs hP hD hS => ?_)
  refine W.widen (k := cells + 16) (n := slots + 96) (Nat.le_refl _) (Nat.le_refl _) ?_
  refine lv_if_ne (tgt := 1063) hx hb dL_law_933 (by decide) (fun c9 => absurd (by decide) c9) (fun _ => ?_)
  refine lv_aload hx hb dL_law_936 (lv_at hl 4 rfl) ?_
  refine lv_iconst (v := nI 1) hx hb dL_law_938 (by decide) ?_
  obtain ⟨sz_d, e9, hKz⟩ := KO.ok f7 (k_advance (m := 2000) (Nat.le_refl _) (by decide) hKz (n := 1) (by decide))
  rw [show (oAdv z6 1).2.1 = nI (min 10 (a0 - 12)) from (r_adv (by decide)).trans (congrArg nI k3)] at e9
  rw [d7] at hKz
  have hKz : KG sz_d z7 _ none [] erz flz 7 := hKz
  refine gl_callVi (nA := 1) (mX11_advance l hlt D cA P.ad P.adF P.adW P.tt az _ (STG P) stg_E stg_X 2000 (nI 1) sz_c 0 _ sz_d (e9)) G hP hD hS (g_good q3_103 q3_104 q3_105 q1_1 q3_106) (by decide +kernel) ⟨Nat.le_of_ble_eq_true rfl, Nat.le_of_ble_eq_true rfl, (Nat.le_trans (Nat.add_le_add_right hc9 18) (Nat.le_of_ble_eq_true rfl)), (Nat.le_trans (Nat.add_le_add_right hs9 108) (Nat.le_of_ble_eq_true rfl))⟩ (by decide) sc_209 rfl rfl hl.1 [] rfl (Nat.le_of_ble_eq_true rfl) dL_law_939 (fun h0 => absurd rfl h0) (fun _ H locs hP hD hS => ?_)
  refine W.widen (k := cells + 18) (n := slots + 108) (Nat.le_refl _) (Nat.le_refl _) ?_
  refine lv_bipush (v := nI 10) hx hb dL_law_942 (by decide) ?_
  refine lv_iload hx hb dL_law_944 (lv_at hl 3 rfl) ?_
  refine lv_bipush (v := nI 12) hx hb dL_law_946 (by decide) ?_
  refine lv_isub hx hb dL_law_948 ?_
  rw [show nI a0 - nI 12 = nI (a0 - 12) from pk_sub h12]
  refine c_callSi (nA := 2) (wc cA P.ad az (fz ++ (wc cA P.ad ax fx sx ++ (wc cA P.ad ay fy sy ++ ([] : va_W)))) sz_d) ([] : va_W) (mM_min l D cA (STG P) stg_E.1 10 (a0 - 12) (by decide) hlt12) G hP hD hS (List.Perm.of_eq (List.append_nil _).symm) (g_goodSX q6_146 q3_36 q1_28 q3_37) (by decide +kernel) ⟨Nat.le_of_ble_eq_true rfl, Nat.le_of_ble_eq_true rfl, (Nat.le_trans (Nat.add_le_add_right hc9 18) (Nat.le_of_ble_eq_true rfl)), (Nat.le_trans (Nat.add_le_add_right hs9 108) (Nat.le_of_ble_eq_true rfl))⟩ rfl hl.1 [.int (nI (min 10 (a0 - 12)))] rfl (Nat.le_of_ble_eq_true rfl) dL_law_949 (fun r9 _ H locs hok hP hD hS => ?_)
  rw [List.append_nil] at hP hD
  have hr9 : r9 = nI (min 10 (a0 - 12)) := mn9 hok
  subst hr9
  have hP : va_P D vwCl (wc cA P.ad az (fz ++ (wc cA P.ad ax fx sx ++ (wc cA P.ad ay fy sy ++ ([] : va_W)))) sz_d) H := hP
  have hD : va_D A9 (wc cA P.ad az (fz ++ (wc cA P.ad ax fx sx ++ (wc cA P.ad ay fy sy ++ ([] : va_W)))) sz_d) := hD
  refine lv_icmp_ne (tgt := 1063) hx hb dL_law_952 (by decide) (fun c9 => absurd (rfl) c9) (fun _ => ?_)
  refine lv_aload hx hb dL_law_955 (lv_at hl 4 rfl) ?_
  refine lv_iconst (v := nI 0) hx hb dL_law_957 (by decide) ?_
  have e9 := q_wear hKz (w := 0) (by decide)
  rw [show z7.1 (10 + 0) = 15 from l10] at e9
  refine gl_callVi (nA := 1) (mX11_wear l hlt D cA P.ad P.adF P.adW P.tt az _ (STG P) stg_E stg_X (nI 0) sz_d 0 _ sz_d (e9)) G hP hD hS (g_good q3_235 q3_236 q3_237 q1_1 q3_238) (by decide +kernel) ⟨Nat.le_of_ble_eq_true rfl, Nat.le_of_ble_eq_true rfl, (Nat.le_trans (Nat.add_le_add_right hc9 20) (Nat.le_of_ble_eq_true rfl)), (Nat.le_trans (Nat.add_le_add_right hs9 120) (Nat.le_of_ble_eq_true rfl))⟩ (by decide) sc_209 rfl rfl hl.1 [] rfl (Nat.le_of_ble_eq_true rfl) dL_law_958 (fun h0 => absurd rfl h0) (fun _ H locs hP hD hS => ?_)
  refine W.widen (k := cells + 20) (n := slots + 120) (Nat.le_refl _) (Nat.le_refl _) ?_
  refine lv_bipush (v := nI 15) hx hb dL_law_961 (by decide) ?_
  refine lv_icmp_ne (tgt := 1063) hx hb dL_law_963 (by decide) (fun c9 => absurd (rfl) c9) (fun _ => ?_)
  refine lv_aload hx hb dL_law_966 (lv_at hl 4 rfl) ?_
  refine lv_iconst (v := nI 0) hx hb dL_law_968 (by decide) ?_
  have e9 := q_isJammed hKz (w := 0) (by decide)
  rw [show z7.1 (10 + 0) = 15 from l10, if_neg (show ¬ 15 < 12 by decide)] at e9
  refine gl_callVi (nA := 1) (mX11_isJammed l hlt D cA P.ad P.adF P.adW P.tt az _ (STG P) stg_E stg_X (nI 0) sz_d 0 _ sz_d (e9)) G hP hD hS (g_good q3_239 q4_0 q4_1 q1_1 q4_2) (by decide +kernel) ⟨Nat.le_of_ble_eq_true rfl, Nat.le_of_ble_eq_true rfl, (Nat.le_trans (Nat.add_le_add_right hc9 22) (Nat.le_of_ble_eq_true rfl)), (Nat.le_trans (Nat.add_le_add_right hs9 132) (Nat.le_of_ble_eq_true rfl))⟩ (by decide) sc_209 rfl rfl hl.1 [] rfl (Nat.le_of_ble_eq_true rfl) dL_law_969 (fun h0 => absurd rfl h0) (fun _ H locs hP hD hS => ?_)
  refine W.widen (k := cells + 22) (n := slots + 132) (Nat.le_refl _) (Nat.le_refl _) ?_
  refine lv_if_eq (tgt := 1063) hx hb dL_law_972 (by decide) (fun c9 => absurd c9 (by decide)) (fun _ => ?_)
  refine lv_aload hx hb dL_law_975 (lv_at hl 4 rfl) ?_
  refine lv_iconst (v := nI 0) hx hb dL_law_977 (by decide) ?_
  obtain ⟨sz_e, hKz, e9⟩ := qs_jam0 (by decide) hKz (show 12 ≤ z7.1 (10 + 0) by rw [show z7.1 (10 + 0) = 15 from l10]; decide)
  refine gl_callVi (nA := 1) (mX11_stepsUntilJam l hlt D cA P.ad P.adF P.adW P.tt az _ (STG P) stg_E stg_X 2000 (nI 0) sz_d 0 _ sz_e (e9)) G hP hD hS (g_good q4_57 q4_58 q4_59 q1_1 q4_60) (by decide +kernel) ⟨Nat.le_of_ble_eq_true rfl, Nat.le_of_ble_eq_true rfl, (Nat.le_trans (Nat.add_le_add_right hc9 24) (Nat.le_of_ble_eq_true rfl)), (Nat.le_trans (Nat.add_le_add_right hs9 144) (Nat.le_of_ble_eq_true rfl))⟩ (by decide) sc_209 rfl rfl hl.1 [] rfl (Nat.le_of_ble_eq_true rfl) dL_law_978 (fun h0 => absurd rfl h0) (fun _ H locs hP hD hS => ?_)
  refine W.widen (k := cells + 24) (n := slots + 144) (Nat.le_refl _) (Nat.le_refl _) ?_
  refine lv_if_ne (tgt := 1063) hx hb dL_law_981 (by decide) (fun c9 => absurd (by decide) c9) (fun _ => ?_)
  refine lv_aload hx hb dL_law_984 (lv_at hl 4 rfl) ?_
  refine lv_iconst (v := nI 0) hx hb dL_law_986 (by decide) ?_
  obtain ⟨sz_f, e9, hKz⟩ := KO.ok f8 (k_clear (m := 2000) (Nat.le_refl _) hKz (w := 0) (by decide))
  rw [show (oClear z7 0).2.1 = nI 15 from (r_clear (by decide)).trans (congrArg nI l10)] at e9
  rw [d8] at hKz
  obtain ⟨Q9, hQ9⟩ := ph_1 (pushH (pushH (pushH (pushH Hz z3) z4) z5) z6) z7
  have hKz : KG sz_f z8 (Q9 ++ ([] ++ [z7])) none [] erz flz 8 := by rw [show Q9 ++ ([] ++ [z7]) = Q9 ++ [z7] from rfl, ← hQ9]; exact hKz
  refine gl_callVi (nA := 1) (mX11_clearWheel l hlt D cA P.ad P.adF P.adW P.tt az _ (STG P) stg_E stg_X 2000 (nI 0) sz_e 0 _ sz_f (e9)) G hP hD hS (g_good q3_56 q3_57 q3_58 q1_1 q3_59) (by decide +kernel) ⟨Nat.le_of_ble_eq_true rfl, Nat.le_of_ble_eq_true rfl, (Nat.le_trans (Nat.add_le_add_right hc9 26) (Nat.le_of_ble_eq_true rfl)), (Nat.le_trans (Nat.add_le_add_right hs9 156) (Nat.le_of_ble_eq_true rfl))⟩ (by decide) sc_209 rfl rfl hl.1 [] rfl (Nat.le_of_ble_eq_true rfl) dL_law_987 (fun h0 => absurd rfl h0) (fun _ H locs hP hD hS => ?_)
  refine W.widen (k := cells + 26) (n := slots + 156) (Nat.le_refl _) (Nat.le_refl _) ?_
  refine lv_bipush (v := nI 15) hx hb dL_law_990 (by decide) ?_
  refine lv_icmp_ne (tgt := 1063) hx hb dL_law_992 (by decide) (fun c9 => absurd (rfl) c9) (fun _ => ?_)
  refine lv_aload hx hb dL_law_995 (lv_at hl 4 rfl) ?_
  refine lv_iconst (v := nI 0) hx hb dL_law_997 (by decide) ?_
  have e9 := q_isJammed hKz (w := 0) (by decide)
  rw [show z8.1 (10 + 0) = 0 from n10, if_pos (show 0 < 12 by decide)] at e9
  refine gl_callVi (nA := 1) (mX11_isJammed l hlt D cA P.ad P.adF P.adW P.tt az _ (STG P) stg_E stg_X (nI 0) sz_f 0 _ sz_f (e9)) G hP hD hS (g_good q3_239 q4_0 q4_1 q1_1 q4_2) (by decide +kernel) ⟨Nat.le_of_ble_eq_true rfl, Nat.le_of_ble_eq_true rfl, (Nat.le_trans (Nat.add_le_add_right hc9 28) (Nat.le_of_ble_eq_true rfl)), (Nat.le_trans (Nat.add_le_add_right hs9 168) (Nat.le_of_ble_eq_true rfl))⟩ (by decide) sc_209 rfl rfl hl.1 [] rfl (Nat.le_of_ble_eq_true rfl) dL_law_998 (fun h0 => absurd rfl h0) (fun _ H locs hP hD hS => ?_)
  refine W.widen (k := cells + 28) (n := slots + 168) (Nat.le_refl _) (Nat.le_refl _) ?_
  refine lv_if_ne (tgt := 1063) hx hb dL_law_1001 (by decide) (fun c9 => absurd (by decide) c9) (fun _ => ?_)
  refine lv_aload hx hb dL_law_1004 (lv_at hl 4 rfl) ?_
  obtain ⟨sz_g, n9, e9, hn9, hKz⟩ := u_l hKz
  refine gl_callVi (nA := 0) (mX11_undo l hlt D cA P.ad P.adF P.adW P.tt az _ (STG P) stg_E stg_X 2000  sz_f 0 _ sz_g (e9)) G hP hD hS (g_good q5_93 q5_94 q5_95 q1_1 q5_96) (by decide +kernel) ⟨Nat.le_of_ble_eq_true rfl, Nat.le_of_ble_eq_true rfl, (Nat.le_trans (Nat.add_le_add_right hc9 30) (Nat.le_of_ble_eq_true rfl)), (Nat.le_trans (Nat.add_le_add_right hs9 180) (Nat.le_of_ble_eq_true rfl))⟩ (by decide) sc_209 rfl rfl hl.1 [] rfl (Nat.le_of_ble_eq_true rfl) dL_law_1006 (fun h0 => absurd rfl h0) (fun _ H locs hP hD hS => ?_)
  refine W.widen (k := cells + 30) (n := slots + 180) (Nat.le_refl _) (Nat.le_refl _) ?_
  refine lv_if_lt (tgt := 1063) hx hb dL_law_1009 (by decide) (fun c9 => absurd c9 (nI_pos hn9)) (fun _ => ?_)
  refine lv_aload hx hb dL_law_1012 (lv_at hl 4 rfl) ?_
  refine lv_iconst (v := nI 0) hx hb dL_law_1014 (by decide) ?_
  have e9 := q_isJammed hKz (w := 0) (by decide)
  rw [show z7.1 (10 + 0) = 15 from l10, if_neg (show ¬ 15 < 12 by decide)] at e9
  refine gl_callVi (nA := 1) (mX11_isJammed l hlt D cA P.ad P.adF P.adW P.tt az _ (STG P) stg_E stg_X (nI 0) sz_g 0 _ sz_g (e9)) G hP hD hS (g_good q3_239 q4_0 q4_1 q1_1 q4_2) (by decide +kernel) ⟨Nat.le_of_ble_eq_true rfl, Nat.le_of_ble_eq_true rfl, (Nat.le_trans (Nat.add_le_add_right hc9 32) (Nat.le_of_ble_eq_true rfl)), (Nat.le_trans (Nat.add_le_add_right hs9 192) (Nat.le_of_ble_eq_true rfl))⟩ (by decide) sc_209 rfl rfl hl.1 [] rfl (Nat.le_of_ble_eq_true rfl) dL_law_1015 (fun h0 => absurd rfl h0) (fun _ H locs hP hD hS => ?_)
  refine W.widen (k := cells + 32) (n := slots + 192) (Nat.le_refl _) (Nat.le_refl _) ?_
  refine lv_if_eq (tgt := 1063) hx hb dL_law_1018 (by decide) (fun c9 => absurd c9 (by decide)) (fun _ => ?_)
  refine lv_aload hx hb dL_law_1021 (lv_at hl 4 rfl) ?_
  obtain ⟨sz_h, e9, hKz⟩ := q_isConsistent (m := 2000) (Nat.le_refl _) (by decide) hKz
  refine gl_callNi (nA := 0) (mX11_isConsistent l D cA P.ad P.adF P.adW P.tt az _ (STG P) stg_E 2000  sz_g _ sz_h (e9)) G hP hD hS (g_good q4_152 q4_153 q4_154 q1_1 q4_155) (by decide +kernel) ⟨Nat.le_of_ble_eq_true rfl, Nat.le_of_ble_eq_true rfl, (Nat.le_trans (Nat.add_le_add_right hc9 32) (Nat.le_of_ble_eq_true rfl)), (Nat.le_trans (Nat.add_le_add_right hs9 192) (Nat.le_of_ble_eq_true rfl))⟩ (by decide) sc_209 rfl rfl hl.1 [] rfl (Nat.le_of_ble_eq_true rfl) dL_law_1023 (fun H locs hP hD hS => ?_)
  refine lv_if_eq (tgt := 1063) hx hb dL_law_1026 (by decide) (fun c9 => absurd c9 (by decide)) (fun _ => ?_)
  refine lv_aload hx hb dL_law_1029 (lv_at hl 4 rfl) ?_
  have e9 := q_ground hKz
  rw [l3] at e9
  refine gl_callNi (nA := 0) (mX11_groundTotal l D cA P.ad P.adF P.adW P.tt az _ (STG P) stg_E  sz_h _ sz_h (e9)) G hP hD hS (g_good q4_37 q4_38 q4_39 q1_1 q4_40) (by decide +kernel) ⟨Nat.le_of_ble_eq_true rfl, Nat.le_of_ble_eq_true rfl, (Nat.le_trans (Nat.add_le_add_right hc9 32) (Nat.le_of_ble_eq_true rfl)), (Nat.le_trans (Nat.add_le_add_right hs9 192) (Nat.le_of_ble_eq_true rfl))⟩ (by decide) sc_209 rfl rfl hl.1 [] rfl (Nat.le_of_ble_eq_true rfl) dL_law_1031 (fun H locs hP hD hS => ?_)
  refine lv_bipush (v := nI 23) hx hb dL_law_1034 (by decide) ?_
  refine lv_bipush (v := nI 10) hx hb dL_law_1036 (by decide) ?_
  refine lv_iload hx hb dL_law_1038 (lv_at hl 3 rfl) ?_
  refine lv_bipush (v := nI 12) hx hb dL_law_1040 (by decide) ?_
  refine lv_isub hx hb dL_law_1042 ?_
  rw [show nI a0 - nI 12 = nI (a0 - 12) from pk_sub h12]
  refine c_callSi (nA := 2) (wc cA P.ad az (fz ++ (wc cA P.ad ax fx sx ++ (wc cA P.ad ay fy sy ++ ([] : va_W)))) sz_h) ([] : va_W) (mM_min l D cA (STG P) stg_E.1 10 (a0 - 12) (by decide) hlt12) G hP hD hS (List.Perm.of_eq (List.append_nil _).symm) (g_goodSX q6_146 q3_36 q1_28 q3_37) (by decide +kernel) ⟨Nat.le_of_ble_eq_true rfl, Nat.le_of_ble_eq_true rfl, (Nat.le_trans (Nat.add_le_add_right hc9 32) (Nat.le_of_ble_eq_true rfl)), (Nat.le_trans (Nat.add_le_add_right hs9 192) (Nat.le_of_ble_eq_true rfl))⟩ rfl hl.1 [.int (nI 23), .int (nI (23 + min 10 (a0 - 12)))] rfl (Nat.le_of_ble_eq_true rfl) dL_law_1043 (fun r9 _ H locs hok hP hD hS => ?_)
  rw [List.append_nil] at hP hD
  have hr9 : r9 = nI (min 10 (a0 - 12)) := mn9 hok
  subst hr9
  have hP : va_P D vwCl (wc cA P.ad az (fz ++ (wc cA P.ad ax fx sx ++ (wc cA P.ad ay fy sy ++ ([] : va_W)))) sz_h) H := hP
  have hD : va_D A9 (wc cA P.ad az (fz ++ (wc cA P.ad ax fx sx ++ (wc cA P.ad ay fy sy ++ ([] : va_W)))) sz_h) := hD
  refine lv_iadd hx hb dL_law_1046 ?_
  rw [nI_add 23 (min 10 (a0 - 12))]
  refine lv_icmp_ne (tgt := 1063) hx hb dL_law_1047 (by decide) (fun c9 => absurd (rfl) c9) (fun _ => ?_)
  refine lv_aload hx hb dL_law_1050 (lv_at hl 4 rfl) ?_
  have e9 := q_groundByParts (m := 2000) (Nat.le_refl _) hKz
  refine gl_callNi (nA := 0) (mX11_groundByParts l D cA P.ad P.adF P.adW P.tt az _ (STG P) stg_E 2000  sz_h _ sz_h (e9)) G hP hD hS (g_good q4_41 q4_42 q4_43 q1_1 q4_44) (by decide +kernel) ⟨Nat.le_of_ble_eq_true rfl, Nat.le_of_ble_eq_true rfl, (Nat.le_trans (Nat.add_le_add_right hc9 32) (Nat.le_of_ble_eq_true rfl)), (Nat.le_trans (Nat.add_le_add_right hs9 192) (Nat.le_of_ble_eq_true rfl))⟩ (by decide) sc_209 rfl rfl hl.1 [] rfl (Nat.le_of_ble_eq_true rfl) dL_law_1052 (fun H locs hP hD hS => ?_)
  refine lv_aload hx hb dL_law_1055 (lv_at hl 4 rfl) ?_
  have e9 := q_ground hKz
  refine gl_callNi (nA := 0) (mX11_groundTotal l D cA P.ad P.adF P.adW P.tt az _ (STG P) stg_E  sz_h _ sz_h (e9)) G hP hD hS (g_good q4_37 q4_38 q4_39 q1_1 q4_40) (by decide +kernel) ⟨Nat.le_of_ble_eq_true rfl, Nat.le_of_ble_eq_true rfl, (Nat.le_trans (Nat.add_le_add_right hc9 32) (Nat.le_of_ble_eq_true rfl)), (Nat.le_trans (Nat.add_le_add_right hs9 192) (Nat.le_of_ble_eq_true rfl))⟩ (by decide) sc_209 rfl rfl hl.1 [.int (nI (z7.1 3))] rfl (Nat.le_of_ble_eq_true rfl) dL_law_1057 (fun H locs hP hD hS => ?_)
  refine lv_icmp_eq (tgt := 1065) hx hb dL_law_1060 (by decide) (fun _ => ?_) (fun c9 => absurd (rfl) c9)
  exact law_1065 hlt G hL hEnd hKx hP hD hS (Nat.le_trans (Nat.add_le_add_right hc9 32) (Nat.le_of_ble_eq_true rfl)) (Nat.le_trans (Nat.add_le_add_right hs9 192) (Nat.le_of_ble_eq_true rfl)) (lv_sub hl [0, 1, 2] rfl)
end LW1
