section LW9
variable {p : Program} {l : Launch} {e : Env} {s : State} {m : MethodId} {args : Array Value} {below : List Frame} {meth : Method} {c : Code} {H : Heap} {locs : List Loc} {cells slots : Nat} {Q : State → Prop}
variable {ls : Array Slot} {D : va_G} {A9 : Nat → Prop} {cA : Nat → ClassId} {P : PR}
set_option maxHeartbeats 4000000 in
set_option maxRecDepth 100000 in
theorem law_10 (hlt : l.stackTraces = false) (G : GC p s m args meth c cL_law 10 RL (some .boolean) A9 D (TYS cA) (STG P)) (hL : P.L < 2 ^ 31) (hEnd : ∀ (H : Heap) (locs : List Loc) (cells slots : Nat) (ls : Array Slot), va_S A9 s.heap H locs → cells ≤ 634335 → slots ≤ 7187242 → W p l e room_1 s m args below meth c H locs cells slots Q (F0 m 1087 ls [.int 1])) {ax ay : Nat → Nat} {fx fy : va_W} {sx sy : St} {A : AM} {Hh : List AM} (hKx : KG sx A Hh none [] none none 123) (hKy : KG sy A Hh none [] none none 123) (hP : va_P D vwCl (wc cA P.ad ax (fx ++ (wc cA P.ad ay fy sy ++ ([] : va_W))) sx) H) (hD : va_D A9 (wc cA P.ad ax (fx ++ (wc cA P.ad ay fy sy ++ ([] : va_W))) sx)) (hS : va_S A9 s.heap H locs) (hc9 : cells ≤ 2000) (hs9 : slots ≤ 20000) (hl : lv_has ls 10 [(0, .ref P.b), (1, .ref (ax 209)), (2, .ref (ay 209))]) : W p l e room_1 s m args below meth c H locs cells slots Q (F0 m 10 ls []) := by
  have hx := G.1
  have hb := G.2.1
  refine lv_aload_n hx hb dL_law_10 rfl (lv_at hl 1 rfl) ?_
  obtain ⟨sx_a, e9, hKx⟩ := q_save (m := 2000) (Nat.le_refl _) hKx
  refine gl_callNi (nA := 0) (mX11_save l D cA P.ad P.adF P.adW P.tt ax _ (STG P) stg_E 2000  sx _ sx_a (e9)) G hP hD hS (g_good q5_102 q5_103 q5_104 q1_1 q5_105) (by decide +kernel) ⟨Nat.le_of_ble_eq_true rfl, Nat.le_of_ble_eq_true rfl, (Nat.le_trans (Nat.add_le_add_right hc9 0) (Nat.le_of_ble_eq_true rfl)), (Nat.le_trans (Nat.add_le_add_right hs9 0) (Nat.le_of_ble_eq_true rfl))⟩ (by decide) sc_209 rfl rfl hl.1 [] rfl (Nat.le_of_ble_eq_true rfl) dL_law_11 (fun H locs hP hD hS => ?_)
  refine lv_istore_n (lv' := [(3, .int (nI (wN A))), (0, .ref P.b), (1, .ref (ax 209)), (2, .ref (ay 209))]) hx hb dL_law_14 rfl hl (by decide) rfl (fun ls hl => ?_)
  refine lv_aload_n hx hb dL_law_15 rfl (lv_at hl 2 rfl) ?_
  refine c_callSi (nA := 1) ([] : va_W) (wc cA P.ad ax (fx ++ (wc cA P.ad ay fy sy ++ ([] : va_W))) sx_a) (mL_state l hlt D cA P.ad P.adF P.adW P.tt ax _ (STG P) stg_E stg_X stg_N stg_F stg_L (by decide) hKx) G hP hD hS (List.Perm.refl _) (g_goodSX q5_181 q5_182 q1_0 q5_183) (by decide +kernel) ⟨Nat.le_of_ble_eq_true rfl, Nat.le_of_ble_eq_true rfl, (Nat.le_trans (Nat.add_le_add_right hc9 270) (Nat.le_of_ble_eq_true rfl)), (Nat.le_trans (Nat.add_le_add_right hs9 1760) (Nat.le_of_ble_eq_true rfl))⟩ rfl hl.1 [] rfl (Nat.le_of_ble_eq_true rfl) dL_law_16 (fun r9 sx_1 H locs hok hP hD hS => ?_)
  obtain ⟨hKx, hr9⟩ := hok
  have hr9 : r9 = stA (A) := hr9
  subst hr9
  have hP : va_P D vwCl (wc cA P.ad ax (fx ++ (wc cA P.ad ay fy sy ++ ([] : va_W))) sx_1) H := hP
  have hD : va_D A9 (wc cA P.ad ax (fx ++ (wc cA P.ad ay fy sy ++ ([] : va_W))) sx_1) := hD
  refine W.widen (k := cells + 270) (n := slots + 1760) (Nat.le_refl _) (Nat.le_refl _) ?_
  refine lv_istore (lv' := [(4, .int (stA (A))), (3, .int (nI (wN A))), (0, .ref P.b), (1, .ref (ax 209)), (2, .ref (ay 209))]) hx hb dL_law_19 hl (by decide) rfl (fun ls hl => ?_)
  refine lv_aload_n hx hb dL_law_21 rfl (lv_at hl 3 rfl) ?_
  refine va_ldcS hx hb G.2.2.2.1 (G.2.2.2.2.2.2.2.2.2.2.1.2.2.1 0 (by decide)) dL_law_22 ?_
  refine c_callSv (nA := 2) ([] : va_W) (wc cA P.ad ax (fx ++ (wc cA P.ad ay fy sy ++ ([] : va_W))) sx_1) (mL_put l hlt D cA P.ad P.adF P.adW P.tt ax _ (STG P) stg_E stg_X stg_W P.adV P.tv stg_V 0 (by decide) hKx (by decide)) G hP hD hS (List.Perm.refl _) (g_goodSX q5_118 q5_119 q1_0 q5_120) (by decide +kernel) ⟨Nat.le_of_ble_eq_true rfl, Nat.le_of_ble_eq_true rfl, (Nat.le_trans (Nat.add_le_add_right hc9 334) (Nat.le_of_ble_eq_true rfl)), (Nat.le_trans (Nat.add_le_add_right hs9 2144) (Nat.le_of_ble_eq_true rfl))⟩ rfl hl.1 [] rfl (Nat.le_of_ble_eq_true rfl) dL_law_24 (fun sx_2 H locs hKx hP hD hS => ?_)
  have hP : va_P D vwCl (wc cA P.ad ax (fx ++ (wc cA P.ad ay fy sy ++ ([] : va_W))) sx_2) H := hP
  have hD : va_D A9 (wc cA P.ad ax (fx ++ (wc cA P.ad ay fy sy ++ ([] : va_W))) sx_2) := hD
  refine W.widen (k := cells + 334) (n := slots + 2144) (Nat.le_refl _) (Nat.le_refl _) ?_
  refine lv_aload_n hx hb dL_law_27 rfl (lv_at hl 3 rfl) ?_
  obtain ⟨sx_b, e9, hKx⟩ := run_0 (by decide) hKx
  refine gl_callVi (nA := 0) (mX11_runScript l hlt D cA P.ad P.adF P.adW P.tt ax _ (STG P) stg_E stg_X stg_W 2000  sx_2 0 _ sx_b (e9)) G hP hD hS (g_good q4_176 q4_177 q4_178 q1_1 q4_179) (by decide +kernel) ⟨Nat.le_of_ble_eq_true rfl, Nat.le_of_ble_eq_true rfl, (Nat.le_trans (Nat.add_le_add_right hc9 336) (Nat.le_of_ble_eq_true rfl)), (Nat.le_trans (Nat.add_le_add_right hs9 2156) (Nat.le_of_ble_eq_true rfl))⟩ (by decide) sc_209 rfl rfl hl.1 [] rfl (Nat.le_of_ble_eq_true rfl) dL_law_28 (fun h0 => absurd rfl h0) (fun _ H locs hP hD hS => ?_)
  refine W.widen (k := cells + 336) (n := slots + 2156) (Nat.le_refl _) (Nat.le_refl _) ?_
  refine lv_iconst (v := nI 4) hx hb dL_law_31 (by decide) ?_
  refine lv_icmp_ne (tgt := 82) hx hb dL_law_32 (by decide) (fun c9 => absurd (rfl) c9) (fun _ => ?_)
  refine lv_aload_n hx hb dL_law_35 rfl (lv_at hl 4 rfl) ?_
  refine lv_iconst (v := nI 1) hx hb dL_law_36 (by decide) ?_
  refine lv_iconst (v := nI 4) hx hb dL_law_37 (by decide) ?_
  have hn9 : (A.1 8) < 2 ^ 31 := ((bd_gear hKy).1 1 (by decide)).1
  obtain ⟨sy_a, e9, hKy⟩ := KO.ok (by rw [oa_1]) (k_gear (m := 2000) (Nat.le_refl _) hKy (w := 1) (g := 4) (by decide) (by decide))
  rw [oa_1] at e9 hKy
  dsimp only at e9 hKy
  have hKy : KG sy_a (A4a A) (pushH Hh (A)) none [] none none 124 := hKy
  have hP := hP.perm sw2
  have hD := hD.perm sw2
  refine gl_callVi (nA := 2) (mX11_setGear l hlt D cA P.ad P.adF P.adW P.tt ay _ (STG P) stg_E stg_X 2000 (nI 1) (nI 4) sy 0 _ sy_a (e9)) G hP hD hS (g_good q2_81 q2_82 q2_83 q1_1 q2_84) (by decide +kernel) ⟨Nat.le_of_ble_eq_true rfl, Nat.le_of_ble_eq_true rfl, (Nat.le_trans (Nat.add_le_add_right hc9 338) (Nat.le_of_ble_eq_true rfl)), (Nat.le_trans (Nat.add_le_add_right hs9 2168) (Nat.le_of_ble_eq_true rfl))⟩ (by decide) sc_209 rfl rfl hl.1 [] rfl (Nat.le_of_ble_eq_true rfl) dL_law_38 (fun h0 => absurd rfl h0) (fun _ H locs hP hD hS => ?_)
  refine W.widen (k := cells + 338) (n := slots + 2168) (Nat.le_refl _) (Nat.le_refl _) ?_
  refine lv_if_lt (tgt := 82) hx hb dL_law_41 (by decide) (fun c9 => absurd c9 (nI_pos hn9)) (fun _ => ?_)
  refine lv_aload_n hx hb dL_law_44 rfl (lv_at hl 4 rfl) ?_
  refine lv_bipush (v := nI 7) hx hb dL_law_45 (by decide) ?_
  refine lv_bipush (v := nI 9) hx hb dL_law_47 (by decide) ?_
  have hn9 : ((A4a A).1 23) < 2 ^ 31 := (bd_gear hKy).2.1 7 (by decide)
  obtain ⟨sy_b, e9, hKy⟩ := KO.ok (by rw [oa_2]) (k_mesh (m := 2000) (Nat.le_refl _) hKy (w := 7) (g := 9) (by decide) (by decide))
  rw [oa_2] at e9 hKy
  dsimp only at e9 hKy
  have hKy : KG sy_b (A4b A) (pushH (pushH Hh (A)) (A4a A)) none [] none none 125 := hKy
  refine gl_callVi (nA := 2) (mX11_setMesh l hlt D cA P.ad P.adF P.adW P.tt ay _ (STG P) stg_E stg_X 2000 (nI 7) (nI 9) sy_a 0 _ sy_b (e9)) G hP hD hS (g_good q3_42 q3_43 q3_44 q1_1 q3_45) (by decide +kernel) ⟨Nat.le_of_ble_eq_true rfl, Nat.le_of_ble_eq_true rfl, (Nat.le_trans (Nat.add_le_add_right hc9 340) (Nat.le_of_ble_eq_true rfl)), (Nat.le_trans (Nat.add_le_add_right hs9 2180) (Nat.le_of_ble_eq_true rfl))⟩ (by decide) sc_209 rfl rfl hl.1 [] rfl (Nat.le_of_ble_eq_true rfl) dL_law_49 (fun h0 => absurd rfl h0) (fun _ H locs hP hD hS => ?_)
  refine W.widen (k := cells + 340) (n := slots + 2180) (Nat.le_refl _) (Nat.le_refl _) ?_
  refine lv_if_lt (tgt := 82) hx hb dL_law_52 (by decide) (fun c9 => absurd c9 (nI_pos hn9)) (fun _ => ?_)
  refine lv_aload_n hx hb dL_law_55 rfl (lv_at hl 4 rfl) ?_
  refine lv_iconst (v := nI 2) hx hb dL_law_56 (by decide) ?_
  have hn9 : ((A4b A).1 12) < 2 ^ 31 := ((bd_gear hKy).1 2 (by decide)).2
  obtain ⟨sy_c, e9, hKy⟩ := KO.ok (by rw [oa_3]) (k_clear (m := 2000) (Nat.le_refl _) hKy (w := 2) (by decide))
  rw [oa_3] at e9 hKy
  dsimp only at e9 hKy
  have hKy : KG sy_c (A4c A) (pushH (pushH (pushH Hh (A)) (A4a A)) (A4b A)) none [] none none 126 := hKy
  refine gl_callVi (nA := 1) (mX11_clearWheel l hlt D cA P.ad P.adF P.adW P.tt ay _ (STG P) stg_E stg_X 2000 (nI 2) sy_b 0 _ sy_c (e9)) G hP hD hS (g_good q3_56 q3_57 q3_58 q1_1 q3_59) (by decide +kernel) ⟨Nat.le_of_ble_eq_true rfl, Nat.le_of_ble_eq_true rfl, (Nat.le_trans (Nat.add_le_add_right hc9 342) (Nat.le_of_ble_eq_true rfl)), (Nat.le_trans (Nat.add_le_add_right hs9 2192) (Nat.le_of_ble_eq_true rfl))⟩ (by decide) sc_209 rfl rfl hl.1 [] rfl (Nat.le_of_ble_eq_true rfl) dL_law_57 (fun h0 => absurd rfl h0) (fun _ H locs hP hD hS => ?_)
  refine W.widen (k := cells + 342) (n := slots + 2192) (Nat.le_refl _) (Nat.le_refl _) ?_
  refine lv_if_lt (tgt := 82) hx hb dL_law_60 (by decide) (fun c9 => absurd c9 (nI_pos hn9)) (fun _ => ?_)
  refine lv_aload_n hx hb dL_law_63 rfl (lv_at hl 4 rfl) ?_
  refine lv_iconst (v := nI 3) hx hb dL_law_64 (by decide) ?_
  obtain ⟨sy_d, e9, hKy⟩ := KO.ok (by rw [oa_4]) (k_advance (m := 2000) (Nat.le_refl _) (by decide) hKy (n := 3) (by decide))
  rw [oa_4] at e9 hKy
  dsimp only at e9 hKy
  have hKy : KG sy_d (A4 A) (pushH (pushH (pushH (pushH Hh (A)) (A4a A)) (A4b A)) (A4c A)) none [] none none 127 := hKy
  have hn9 : (A4 A).1 3 - (A4c A).1 3 < 2 ^ 31 := Nat.lt_of_le_of_lt (Nat.sub_le _ _) (Nat.lt_of_le_of_lt (bd_gear hKy).2.2 (by decide))
  refine gl_callVi (nA := 1) (mX11_advance l hlt D cA P.ad P.adF P.adW P.tt ay _ (STG P) stg_E stg_X 2000 (nI 3) sy_c 0 _ sy_d (e9)) G hP hD hS (g_good q3_103 q3_104 q3_105 q1_1 q3_106) (by decide +kernel) ⟨Nat.le_of_ble_eq_true rfl, Nat.le_of_ble_eq_true rfl, (Nat.le_trans (Nat.add_le_add_right hc9 344) (Nat.le_of_ble_eq_true rfl)), (Nat.le_trans (Nat.add_le_add_right hs9 2204) (Nat.le_of_ble_eq_true rfl))⟩ (by decide) sc_209 rfl rfl hl.1 [] rfl (Nat.le_of_ble_eq_true rfl) dL_law_65 (fun h0 => absurd rfl h0) (fun _ H locs hP hD hS => ?_)
  refine W.widen (k := cells + 344) (n := slots + 2204) (Nat.le_refl _) (Nat.le_refl _) ?_
  refine lv_if_lt (tgt := 82) hx hb dL_law_68 (by decide) (fun c9 => absurd c9 (nI_pos hn9)) (fun _ => ?_)
  refine lv_aload_n hx hb dL_law_71 rfl (lv_at hl 3 rfl) ?_
  have hP := hP.perm sw2
  have hD := hD.perm sw2
  refine c_callSi (nA := 1) ([] : va_W) (wc cA P.ad ax (fx ++ (wc cA P.ad ay fy sy_d ++ ([] : va_W))) sx_b) (mL_state l hlt D cA P.ad P.adF P.adW P.tt ax _ (STG P) stg_E stg_X stg_N stg_F stg_L (by decide) hKx) G hP hD hS (List.Perm.refl _) (g_goodSX q5_181 q5_182 q1_0 q5_183) (by decide +kernel) ⟨Nat.le_of_ble_eq_true rfl, Nat.le_of_ble_eq_true rfl, (Nat.le_trans (Nat.add_le_add_right hc9 614) (Nat.le_of_ble_eq_true rfl)), (Nat.le_trans (Nat.add_le_add_right hs9 3964) (Nat.le_of_ble_eq_true rfl))⟩ rfl hl.1 [] rfl (Nat.le_of_ble_eq_true rfl) dL_law_72 (fun r9 sx_3 H locs hok hP hD hS => ?_)
  obtain ⟨hKx, hr9⟩ := hok
  have hr9 : r9 = stA (A4 A) := hr9
  subst hr9
  have hP : va_P D vwCl (wc cA P.ad ax (fx ++ (wc cA P.ad ay fy sy_d ++ ([] : va_W))) sx_3) H := hP
  have hD : va_D A9 (wc cA P.ad ax (fx ++ (wc cA P.ad ay fy sy_d ++ ([] : va_W))) sx_3) := hD
  refine W.widen (k := cells + 614) (n := slots + 3964) (Nat.le_refl _) (Nat.le_refl _) ?_
  refine lv_aload_n hx hb dL_law_75 rfl (lv_at hl 4 rfl) ?_
  have hP := hP.perm sw2
  have hD := hD.perm sw2
  refine c_callSi (nA := 1) ([] : va_W) (wc cA P.ad ay (fy ++ (wc cA P.ad ax fx sx_3 ++ ([] : va_W))) sy_d) (mL_state l hlt D cA P.ad P.adF P.adW P.tt ay _ (STG P) stg_E stg_X stg_N stg_F stg_L (by decide) hKy) G hP hD hS (List.Perm.refl _) (g_goodSX q5_181 q5_182 q1_0 q5_183) (by decide +kernel) ⟨Nat.le_of_ble_eq_true rfl, Nat.le_of_ble_eq_true rfl, (Nat.le_trans (Nat.add_le_add_right hc9 884) (Nat.le_of_ble_eq_true rfl)), (Nat.le_trans (Nat.add_le_add_right hs9 5724) (Nat.le_of_ble_eq_true rfl))⟩ rfl hl.1 [.int (stA (A4 A))] rfl (Nat.le_of_ble_eq_true rfl) dL_law_76 (fun r9 sy_4 H locs hok hP hD hS => ?_)
  obtain ⟨hKy, hr9⟩ := hok
  have hr9 : r9 = stA (A4 A) := hr9
  subst hr9
  have hP : va_P D vwCl (wc cA P.ad ay (fy ++ (wc cA P.ad ax fx sx_3 ++ ([] : va_W))) sy_4) H := hP
  have hD : va_D A9 (wc cA P.ad ay (fy ++ (wc cA P.ad ax fx sx_3 ++ ([] : va_W))) sy_4) := hD
  refine W.widen (k := cells + 884) (n := slots + 5724) (Nat.le_refl _) (Nat.le_refl _) ?_
  refine lv_icmp_eq (tgt := 84) hx hb dL_law_79 (by decide) (fun _ => ?_) (fun c9 => absurd (rfl) c9)
  have hP := hP.perm sw2
  have hD := hD.perm sw2
  obtain ⟨Qx, hQx⟩ := ph_1 Hh A
  obtain ⟨Q1, hQ1⟩ := ph_S Qx [A] (A4a A) (Nat.le_of_ble_eq_true rfl)
  obtain ⟨Q2, hQ2⟩ := ph_S Q1 ([A] ++ [A4a A]) (A4b A) (Nat.le_of_ble_eq_true rfl)
  obtain ⟨Q3, hQ3⟩ := ph_S Q2 ([A] ++ [A4a A] ++ [A4b A]) (A4c A) (Nat.le_of_ble_eq_true rfl)
  rw [hQx] at hKx hKy
  rw [hQ1] at hKy
  rw [hQ2] at hKy
  rw [hQ3] at hKy
  exact law_84 (Qx := Qx) (Qy := Q3) hlt G hL hEnd hKx hKy hP hD hS (Nat.le_trans (Nat.add_le_add_right hc9 884) (Nat.le_of_ble_eq_true rfl)) (Nat.le_trans (Nat.add_le_add_right hs9 5724) (Nat.le_of_ble_eq_true rfl)) (lv_sub hl [2, 3, 4, 1, 0] rfl)
end LW9
