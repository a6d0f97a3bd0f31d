section LW7
variable {p : Program} {l : Launch} {e : Env} {s : State} {m : MethodId} {args : Array Value} {below : List Frame} {meth : Method} {c : Code} {H : Heap} {locs : List Loc} {cells slots : Nat} {Q : State → Prop}
variable {ls : Array Slot} {D : va_G} {A9 : Nat → Prop} {cA : Nat → ClassId} {P : PR}
set_option maxHeartbeats 4000000 in
set_option maxRecDepth 100000 in
theorem law_139 (hlt : l.stackTraces = false) (G : GC p s m args meth c cL_law 10 RL (some .boolean) A9 D (TYS cA) (STG P)) (hL : P.L < 2 ^ 31) (hEnd : ∀ (H : Heap) (locs : List Loc) (cells slots : Nat) (ls : Array Slot), va_S A9 s.heap H locs → cells ≤ 634335 → slots ≤ 7187242 → W p l e room_1 s m args below meth c H locs cells slots Q (F0 m 1087 ls [.int 1])) {ax ay : Nat → Nat} {fx fy : va_W} {sx sy : St} {A : AM} {Hx : List AM} {er fl : Option Nat} (hKx : KG sx A Hx (some A) [] er fl 124) (hP : va_P D vwCl (wc cA P.ad ax (fx ++ (wc cA P.ad ay fy sy ++ ([] : va_W))) sx) H) (hD : va_D A9 (wc cA P.ad ax (fx ++ (wc cA P.ad ay fy sy ++ ([] : va_W))) sx)) (hS : va_S A9 s.heap H locs) (hc9 : cells ≤ 10000) (hs9 : slots ≤ 200000) (hl : lv_has ls 10 [(0, .ref P.b), (1, .ref (ax 209)), (3, .int (nI (wN A))), (4, .int (stA A))]) : W p l e room_1 s m args below meth c H locs cells slots Q (F0 m 139 ls []) := by
  have hx := G.1
  have hb := G.2.1
  refine lv_aload_n hx hb dL_law_139 rfl (lv_at hl 1 rfl) ?_
  refine va_ldcS hx hb G.2.2.2.1 (G.2.2.2.2.2.2.2.2.2.2.1.2.2.1 1 (by decide)) dL_law_140 ?_
  refine c_callSv (nA := 2) ([] : va_W) (wc cA P.ad ax (fx ++ (wc cA P.ad ay fy sy ++ ([] : va_W))) sx) (mL_put l hlt D cA P.ad P.adF P.adW P.tt ax _ (STG P) stg_E stg_X stg_W P.adV P.tv stg_V 1 (by decide) hKx (by decide)) G hP hD hS (List.Perm.refl _) (g_goodSX q5_118 q5_119 q1_0 q5_120) (by decide +kernel) ⟨Nat.le_of_ble_eq_true rfl, Nat.le_of_ble_eq_true rfl, (Nat.le_trans (Nat.add_le_add_right hc9 26) (Nat.le_of_ble_eq_true rfl)), (Nat.le_trans (Nat.add_le_add_right hs9 156) (Nat.le_of_ble_eq_true rfl))⟩ rfl hl.1 [] rfl (Nat.le_of_ble_eq_true rfl) dL_law_142 (fun sx_1 H locs hKx hP hD hS => ?_)
  have hP : va_P D vwCl (wc cA P.ad ax (fx ++ (wc cA P.ad ay fy sy ++ ([] : va_W))) sx_1) H := hP
  have hD : va_D A9 (wc cA P.ad ax (fx ++ (wc cA P.ad ay fy sy ++ ([] : va_W))) sx_1) := hD
  refine W.widen (k := cells + 26) (n := slots + 156) (Nat.le_refl _) (Nat.le_refl _) ?_
  refine lv_aload_n hx hb dL_law_145 rfl (lv_at hl 1 rfl) ?_
  obtain ⟨sx_r1, e9, hKx⟩ := run_1 (by decide) hKx
  refine c_callLi (nA := 1) ([] : va_W) (wc cA P.ad ax (fx ++ (wc cA P.ad ay fy sy ++ ([] : va_W))) sx_1) (mL_runs l hlt D cA P.ad P.adF P.adW P.tt ax _ (STG P) stg_E stg_X stg_N stg_W 2000 sx_1 4 0 sx_r1 e9 (Or.inr (Or.inr rfl))) G hP hD hS (List.Perm.refl _) (g_goodL q6_136 q6_137 q1_0 q6_138) (by decide +kernel) ⟨Nat.le_of_ble_eq_true rfl, Nat.le_of_ble_eq_true rfl, (Nat.le_trans (Nat.add_le_add_right hc9 28) (Nat.le_of_ble_eq_true rfl)), (Nat.le_trans (Nat.add_le_add_right hs9 168) (Nat.le_of_ble_eq_true rfl))⟩ rfl hl.1 [] rfl (Nat.le_of_ble_eq_true rfl) dL_law_146 (fun r9 b9 H locs hok hP hD hS => ?_)
  obtain ⟨hr9, hb9⟩ := hok
  rw [hb9] at hP hD
  have hr9 : r9 = (-2) := hr9
  subst hr9
  have hP : va_P D vwCl (wc cA P.ad ax (fx ++ (wc cA P.ad ay fy sy ++ ([] : va_W))) sx_r1) H := hP
  have hD : va_D A9 (wc cA P.ad ax (fx ++ (wc cA P.ad ay fy sy ++ ([] : va_W))) sx_r1) := hD
  refine W.widen (k := cells + 28) (n := slots + 168) (Nat.le_refl _) (Nat.le_refl _) ?_
  refine lv_bipush (v := (-2)) hx hb dL_law_149 (by decide) ?_
  refine lv_icmp_ne (tgt := 171) hx hb dL_law_151 (by decide) (fun c9 => absurd (rfl) c9) (fun _ => ?_)
  refine lv_aload_n hx hb dL_law_154 rfl (lv_at hl 1 rfl) ?_
  have e9 := q_failed hKx (by decide)
  refine gl_callVi (nA := 0) (mX11_failedCommand l hlt D cA P.ad P.adF P.adW P.tt ax _ (STG P) stg_E stg_X  sx_r1 0 _ sx_r1 (e9)) G hP hD hS (g_good q5_88 q5_89 q5_90 q1_1 q5_91) (by decide +kernel) ⟨Nat.le_of_ble_eq_true rfl, Nat.le_of_ble_eq_true rfl, (Nat.le_trans (Nat.add_le_add_right hc9 30) (Nat.le_of_ble_eq_true rfl)), (Nat.le_trans (Nat.add_le_add_right hs9 180) (Nat.le_of_ble_eq_true rfl))⟩ (by decide) sc_209 rfl rfl hl.1 [] rfl (Nat.le_of_ble_eq_true rfl) dL_law_155 (fun h0 => absurd rfl h0) (fun _ H locs hP hD hS => ?_)
  refine W.widen (k := cells + 30) (n := slots + 180) (Nat.le_refl _) (Nat.le_refl _) ?_
  refine lv_iconst (v := nI 1) hx hb dL_law_158 (by decide) ?_
  refine lv_icmp_ne (tgt := 171) hx hb dL_law_159 (by decide) (fun c9 => absurd (rfl) c9) (fun _ => ?_)
  refine lv_aload_n hx hb dL_law_162 rfl (lv_at hl 1 rfl) ?_
  refine c_callSi (nA := 1) ([] : va_W) (wc cA P.ad ax (fx ++ (wc cA P.ad ay fy sy ++ ([] : va_W))) sx_r1) (mL_state l hlt D cA P.ad P.adF P.adW P.tt ax _ (STG P) stg_E stg_X stg_N stg_F stg_L (by decide) hKx) G hP hD hS (List.Perm.refl _) (g_goodSX q5_181 q5_182 q1_0 q5_183) (by decide +kernel) ⟨Nat.le_of_ble_eq_true rfl, Nat.le_of_ble_eq_true rfl, (Nat.le_trans (Nat.add_le_add_right hc9 300) (Nat.le_of_ble_eq_true rfl)), (Nat.le_trans (Nat.add_le_add_right hs9 1940) (Nat.le_of_ble_eq_true rfl))⟩ rfl hl.1 [] rfl (Nat.le_of_ble_eq_true rfl) dL_law_163 (fun r9 sx_2 H locs hok hP hD hS => ?_)
  obtain ⟨hKx, hr9⟩ := hok
  have hr9 : r9 = stA (A) := hr9
  subst hr9
  have hP : va_P D vwCl (wc cA P.ad ax (fx ++ (wc cA P.ad ay fy sy ++ ([] : va_W))) sx_2) H := hP
  have hD : va_D A9 (wc cA P.ad ax (fx ++ (wc cA P.ad ay fy sy ++ ([] : va_W))) sx_2) := hD
  refine W.widen (k := cells + 300) (n := slots + 1940) (Nat.le_refl _) (Nat.le_refl _) ?_
  refine lv_iload hx hb dL_law_166 (lv_at hl 3 rfl) ?_
  refine lv_icmp_eq (tgt := 173) hx hb dL_law_168 (by decide) (fun _ => ?_) (fun c9 => absurd (rfl) c9)
  refine lv_aload_n hx hb dL_law_173 rfl (lv_at hl 1 rfl) ?_
  refine va_ldcS hx hb G.2.2.2.1 (G.2.2.2.2.2.2.2.2.2.2.1.2.2.1 2 (by decide)) dL_law_174 ?_
  refine c_callSv (nA := 2) ([] : va_W) (wc cA P.ad ax (fx ++ (wc cA P.ad ay fy sy ++ ([] : va_W))) sx_2) (mL_put l hlt D cA P.ad P.adF P.adW P.tt ax _ (STG P) stg_E stg_X stg_W P.adV P.tv stg_V 2 (by decide) hKx (by decide)) G hP hD hS (List.Perm.refl _) (g_goodSX q5_118 q5_119 q1_0 q5_120) (by decide +kernel) ⟨Nat.le_of_ble_eq_true rfl, Nat.le_of_ble_eq_true rfl, (Nat.le_trans (Nat.add_le_add_right hc9 314) (Nat.le_of_ble_eq_true rfl)), (Nat.le_trans (Nat.add_le_add_right hs9 2024) (Nat.le_of_ble_eq_true rfl))⟩ rfl hl.1 [] rfl (Nat.le_of_ble_eq_true rfl) dL_law_176 (fun sx_3 H locs hKx hP hD hS => ?_)
  have hP : va_P D vwCl (wc cA P.ad ax (fx ++ (wc cA P.ad ay fy sy ++ ([] : va_W))) sx_3) H := hP
  have hD : va_D A9 (wc cA P.ad ax (fx ++ (wc cA P.ad ay fy sy ++ ([] : va_W))) sx_3) := hD
  refine W.widen (k := cells + 314) (n := slots + 2024) (Nat.le_refl _) (Nat.le_refl _) ?_
  refine lv_aload_n hx hb dL_law_179 rfl (lv_at hl 1 rfl) ?_
  obtain ⟨sx_r2, e9, hKx⟩ := run_2 (by decide) hKx
  refine c_callLi (nA := 1) ([] : va_W) (wc cA P.ad ax (fx ++ (wc cA P.ad ay fy sy ++ ([] : va_W))) sx_3) (mL_runs l hlt D cA P.ad P.adF P.adW P.tt ax _ (STG P) stg_E stg_X stg_N stg_W 2000 sx_3 4 0 sx_r2 e9 (Or.inr (Or.inr rfl))) G hP hD hS (List.Perm.refl _) (g_goodL q6_136 q6_137 q1_0 q6_138) (by decide +kernel) ⟨Nat.le_of_ble_eq_true rfl, Nat.le_of_ble_eq_true rfl, (Nat.le_trans (Nat.add_le_add_right hc9 316) (Nat.le_of_ble_eq_true rfl)), (Nat.le_trans (Nat.add_le_add_right hs9 2036) (Nat.le_of_ble_eq_true rfl))⟩ rfl hl.1 [] rfl (Nat.le_of_ble_eq_true rfl) dL_law_180 (fun r9 b9 H locs hok hP hD hS => ?_)
  obtain ⟨hr9, hb9⟩ := hok
  rw [hb9] at hP hD
  have hr9 : r9 = (-2) := hr9
  subst hr9
  have hP : va_P D vwCl (wc cA P.ad ax (fx ++ (wc cA P.ad ay fy sy ++ ([] : va_W))) sx_r2) H := hP
  have hD : va_D A9 (wc cA P.ad ax (fx ++ (wc cA P.ad ay fy sy ++ ([] : va_W))) sx_r2) := hD
  refine W.widen (k := cells + 316) (n := slots + 2036) (Nat.le_refl _) (Nat.le_refl _) ?_
  refine lv_bipush (v := (-2)) hx hb dL_law_183 (by decide) ?_
  refine lv_icmp_ne (tgt := 204) hx hb dL_law_185 (by decide) (fun c9 => absurd (rfl) c9) (fun _ => ?_)
  refine lv_aload_n hx hb dL_law_188 rfl (lv_at hl 1 rfl) ?_
  have e9 := q_failed hKx (by decide)
  refine gl_callVi (nA := 0) (mX11_failedCommand l hlt D cA P.ad P.adF P.adW P.tt ax _ (STG P) stg_E stg_X  sx_r2 0 _ sx_r2 (e9)) G hP hD hS (g_good q5_88 q5_89 q5_90 q1_1 q5_91) (by decide +kernel) ⟨Nat.le_of_ble_eq_true rfl, Nat.le_of_ble_eq_true rfl, (Nat.le_trans (Nat.add_le_add_right hc9 318) (Nat.le_of_ble_eq_true rfl)), (Nat.le_trans (Nat.add_le_add_right hs9 2048) (Nat.le_of_ble_eq_true rfl))⟩ (by decide) sc_209 rfl rfl hl.1 [] rfl (Nat.le_of_ble_eq_true rfl) dL_law_189 (fun h0 => absurd rfl h0) (fun _ H locs hP hD hS => ?_)
  refine W.widen (k := cells + 318) (n := slots + 2048) (Nat.le_refl _) (Nat.le_refl _) ?_
  refine lv_if_ne (tgt := 204) hx hb dL_law_192 (by decide) (fun c9 => absurd (by decide) c9) (fun _ => ?_)
  refine lv_aload_n hx hb dL_law_195 rfl (lv_at hl 1 rfl) ?_
  refine c_callSi (nA := 1) ([] : va_W) (wc cA P.ad ax (fx ++ (wc cA P.ad ay fy sy ++ ([] : va_W))) sx_r2) (mL_state l hlt D cA P.ad P.adF P.adW P.tt ax _ (STG P) stg_E stg_X stg_N stg_F stg_L (by decide) hKx) G hP hD hS (List.Perm.refl _) (g_goodSX q5_181 q5_182 q1_0 q5_183) (by decide +kernel) ⟨Nat.le_of_ble_eq_true rfl, Nat.le_of_ble_eq_true rfl, (Nat.le_trans (Nat.add_le_add_right hc9 588) (Nat.le_of_ble_eq_true rfl)), (Nat.le_trans (Nat.add_le_add_right hs9 3808) (Nat.le_of_ble_eq_true rfl))⟩ rfl hl.1 [] rfl (Nat.le_of_ble_eq_true rfl) dL_law_196 (fun r9 sx_4 H locs hok hP hD hS => ?_)
  obtain ⟨hKx, hr9⟩ := hok
  have hr9 : r9 = stA (A) := hr9
  subst hr9
  have hP : va_P D vwCl (wc cA P.ad ax (fx ++ (wc cA P.ad ay fy sy ++ ([] : va_W))) sx_4) H := hP
  have hD : va_D A9 (wc cA P.ad ax (fx ++ (wc cA P.ad ay fy sy ++ ([] : va_W))) sx_4) := hD
  refine W.widen (k := cells + 588) (n := slots + 3808) (Nat.le_refl _) (Nat.le_refl _) ?_
  refine lv_iload hx hb dL_law_199 (lv_at hl 3 rfl) ?_
  refine lv_icmp_eq (tgt := 206) hx hb dL_law_201 (by decide) (fun _ => ?_) (fun c9 => absurd (rfl) c9)
  refine lv_aload_n hx hb dL_law_206 rfl (lv_at hl 1 rfl) ?_
  refine va_ldcS hx hb G.2.2.2.1 (G.2.2.2.2.2.2.2.2.2.2.1.2.2.1 3 (by decide)) dL_law_207 ?_
  refine lv_iconst (v := nI 1) hx hb dL_law_209 (by decide) ?_
  have hf9 := f_at 3 1 (by decide)
  refine c_callSi (nA := 3) ([] : va_W) (wc cA P.ad ax (fx ++ (wc cA P.ad ay fy sy ++ ([] : va_W))) sx_4) (mL_fails l hlt D cA P.ad P.adF P.adW P.tt ax _ (STG P) stg_E stg_X stg_N stg_W P.adV P.tv stg_V 3 1 (by decide) (by decide) hf9.1 hf9.2 (by decide) hKx) G hP hD hS (List.Perm.refl _) (g_goodSX q6_139 q6_140 q1_0 q6_141) (by decide +kernel) ⟨Nat.le_of_ble_eq_true rfl, Nat.le_of_ble_eq_true rfl, (Nat.le_trans (Nat.add_le_add_right hc9 692) (Nat.le_of_ble_eq_true rfl)), (Nat.le_trans (Nat.add_le_add_right hs9 4432) (Nat.le_of_ble_eq_true rfl))⟩ rfl hl.1 [] rfl (Nat.le_of_ble_eq_true rfl) dL_law_210 (fun r9 sx_f3 H locs hok hP hD hS => ?_)
  obtain ⟨hr9, hKx⟩ := hok
  have hr9 : r9 = 1 := hr9
  subst hr9
  have hP : va_P D vwCl (wc cA P.ad ax (fx ++ (wc cA P.ad ay fy sy ++ ([] : va_W))) sx_f3) H := hP
  have hD : va_D A9 (wc cA P.ad ax (fx ++ (wc cA P.ad ay fy sy ++ ([] : va_W))) sx_f3) := hD
  refine W.widen (k := cells + 692) (n := slots + 4432) (Nat.le_refl _) (Nat.le_refl _) ?_
  refine lv_if_eq (tgt := 337) hx hb dL_law_213 (by decide) (fun c9 => absurd c9 (by decide)) (fun _ => ?_)
  refine lv_aload_n hx hb dL_law_216 rfl (lv_at hl 1 rfl) ?_
  refine va_ldcS hx hb G.2.2.2.1 (G.2.2.2.2.2.2.2.2.2.2.1.2.2.1 4 (by decide)) dL_law_217 ?_
  refine lv_iconst (v := nI 2) hx hb dL_law_219 (by decide) ?_
  have hf9 := f_at 4 2 (by decide)
  refine c_callSi (nA := 3) ([] : va_W) (wc cA P.ad ax (fx ++ (wc cA P.ad ay fy sy ++ ([] : va_W))) sx_f3) (mL_fails l hlt D cA P.ad P.adF P.adW P.tt ax _ (STG P) stg_E stg_X stg_N stg_W P.adV P.tv stg_V 4 2 (by decide) (by decide) hf9.1 hf9.2 (by decide) hKx) G hP hD hS (List.Perm.refl _) (g_goodSX q6_139 q6_140 q1_0 q6_141) (by decide +kernel) ⟨Nat.le_of_ble_eq_true rfl, Nat.le_of_ble_eq_true rfl, (Nat.le_trans (Nat.add_le_add_right hc9 796) (Nat.le_of_ble_eq_true rfl)), (Nat.le_trans (Nat.add_le_add_right hs9 5056) (Nat.le_of_ble_eq_true rfl))⟩ rfl hl.1 [] rfl (Nat.le_of_ble_eq_true rfl) dL_law_220 (fun r9 sx_f4 H locs hok hP hD hS => ?_)
  obtain ⟨hr9, hKx⟩ := hok
  have hr9 : r9 = 1 := hr9
  subst hr9
  have hP : va_P D vwCl (wc cA P.ad ax (fx ++ (wc cA P.ad ay fy sy ++ ([] : va_W))) sx_f4) H := hP
  have hD : va_D A9 (wc cA P.ad ax (fx ++ (wc cA P.ad ay fy sy ++ ([] : va_W))) sx_f4) := hD
  refine W.widen (k := cells + 796) (n := slots + 5056) (Nat.le_refl _) (Nat.le_refl _) ?_
  refine lv_if_eq (tgt := 337) hx hb dL_law_223 (by decide) (fun c9 => absurd c9 (by decide)) (fun _ => ?_)
  refine lv_aload_n hx hb dL_law_226 rfl (lv_at hl 1 rfl) ?_
  refine va_ldcS hx hb G.2.2.2.1 (G.2.2.2.2.2.2.2.2.2.2.1.2.2.1 5 (by decide)) dL_law_227 ?_
  refine lv_bipush (v := nI 9) hx hb dL_law_229 (by decide) ?_
  have hf9 := f_at 5 9 (by decide)
  refine c_callSi (nA := 3) ([] : va_W) (wc cA P.ad ax (fx ++ (wc cA P.ad ay fy sy ++ ([] : va_W))) sx_f4) (mL_fails l hlt D cA P.ad P.adF P.adW P.tt ax _ (STG P) stg_E stg_X stg_N stg_W P.adV P.tv stg_V 5 9 (by decide) (by decide) hf9.1 hf9.2 (by decide) hKx) G hP hD hS (List.Perm.refl _) (g_goodSX q6_139 q6_140 q1_0 q6_141) (by decide +kernel) ⟨Nat.le_of_ble_eq_true rfl, Nat.le_of_ble_eq_true rfl, (Nat.le_trans (Nat.add_le_add_right hc9 900) (Nat.le_of_ble_eq_true rfl)), (Nat.le_trans (Nat.add_le_add_right hs9 5680) (Nat.le_of_ble_eq_true rfl))⟩ rfl hl.1 [] rfl (Nat.le_of_ble_eq_true rfl) dL_law_231 (fun r9 sx_f5 H locs hok hP hD hS => ?_)
  obtain ⟨hr9, hKx⟩ := hok
  have hr9 : r9 = 1 := hr9
  subst hr9
  have hP : va_P D vwCl (wc cA P.ad ax (fx ++ (wc cA P.ad ay fy sy ++ ([] : va_W))) sx_f5) H := hP
  have hD : va_D A9 (wc cA P.ad ax (fx ++ (wc cA P.ad ay fy sy ++ ([] : va_W))) sx_f5) := hD
  refine W.widen (k := cells + 900) (n := slots + 5680) (Nat.le_refl _) (Nat.le_refl _) ?_
  refine lv_if_eq (tgt := 337) hx hb dL_law_234 (by decide) (fun c9 => absurd c9 (by decide)) (fun _ => ?_)
  refine lv_aload_n hx hb dL_law_237 rfl (lv_at hl 1 rfl) ?_
  refine va_ldcS hx hb G.2.2.2.1 (G.2.2.2.2.2.2.2.2.2.2.1.2.2.1 6 (by decide)) dL_law_238 ?_
  refine lv_iconst (v := nI 5) hx hb dL_law_240 (by decide) ?_
  have hf9 := f_at 6 5 (by decide)
  refine c_callSi (nA := 3) ([] : va_W) (wc cA P.ad ax (fx ++ (wc cA P.ad ay fy sy ++ ([] : va_W))) sx_f5) (mL_fails l hlt D cA P.ad P.adF P.adW P.tt ax _ (STG P) stg_E stg_X stg_N stg_W P.adV P.tv stg_V 6 5 (by decide) (by decide) hf9.1 hf9.2 (by decide) hKx) G hP hD hS (List.Perm.refl _) (g_goodSX q6_139 q6_140 q1_0 q6_141) (by decide +kernel) ⟨Nat.le_of_ble_eq_true rfl, Nat.le_of_ble_eq_true rfl, (Nat.le_trans (Nat.add_le_add_right hc9 1004) (Nat.le_of_ble_eq_true rfl)), (Nat.le_trans (Nat.add_le_add_right hs9 6304) (Nat.le_of_ble_eq_true rfl))⟩ rfl hl.1 [] rfl (Nat.le_of_ble_eq_true rfl) dL_law_241 (fun r9 sx_f6 H locs hok hP hD hS => ?_)
  obtain ⟨hr9, hKx⟩ := hok
  have hr9 : r9 = 1 := hr9
  subst hr9
  have hP : va_P D vwCl (wc cA P.ad ax (fx ++ (wc cA P.ad ay fy sy ++ ([] : va_W))) sx_f6) H := hP
  have hD : va_D A9 (wc cA P.ad ax (fx ++ (wc cA P.ad ay fy sy ++ ([] : va_W))) sx_f6) := hD
  refine W.widen (k := cells + 1004) (n := slots + 6304) (Nat.le_refl _) (Nat.le_refl _) ?_
  refine lv_if_eq (tgt := 337) hx hb dL_law_244 (by decide) (fun c9 => absurd c9 (by decide)) (fun _ => ?_)
  refine lv_aload_n hx hb dL_law_247 rfl (lv_at hl 1 rfl) ?_
  refine va_ldcS hx hb G.2.2.2.1 (G.2.2.2.2.2.2.2.2.2.2.1.2.2.1 7 (by decide)) dL_law_248 ?_
  refine lv_bipush (v := nI 6) hx hb dL_law_250 (by decide) ?_
  have hf9 := f_at 7 6 (by decide)
  refine c_callSi (nA := 3) ([] : va_W) (wc cA P.ad ax (fx ++ (wc cA P.ad ay fy sy ++ ([] : va_W))) sx_f6) (mL_fails l hlt D cA P.ad P.adF P.adW P.tt ax _ (STG P) stg_E stg_X stg_N stg_W P.adV P.tv stg_V 7 6 (by decide) (by decide) hf9.1 hf9.2 (by decide) hKx) G hP hD hS (List.Perm.refl _) (g_goodSX q6_139 q6_140 q1_0 q6_141) (by decide +kernel) ⟨Nat.le_of_ble_eq_true rfl, Nat.le_of_ble_eq_true rfl, (Nat.le_trans (Nat.add_le_add_right hc9 1108) (Nat.le_of_ble_eq_true rfl)), (Nat.le_trans (Nat.add_le_add_right hs9 6928) (Nat.le_of_ble_eq_true rfl))⟩ rfl hl.1 [] rfl (Nat.le_of_ble_eq_true rfl) dL_law_252 (fun r9 sx_f7 H locs hok hP hD hS => ?_)
  obtain ⟨hr9, hKx⟩ := hok
  have hr9 : r9 = 1 := hr9
  subst hr9
  have hP : va_P D vwCl (wc cA P.ad ax (fx ++ (wc cA P.ad ay fy sy ++ ([] : va_W))) sx_f7) H := hP
  have hD : va_D A9 (wc cA P.ad ax (fx ++ (wc cA P.ad ay fy sy ++ ([] : va_W))) sx_f7) := hD
  refine W.widen (k := cells + 1108) (n := slots + 6928) (Nat.le_refl _) (Nat.le_refl _) ?_
  refine lv_if_eq (tgt := 337) hx hb dL_law_255 (by decide) (fun c9 => absurd c9 (by decide)) (fun _ => ?_)
  refine lv_aload_n hx hb dL_law_258 rfl (lv_at hl 1 rfl) ?_
  refine va_ldcS hx hb G.2.2.2.1 (G.2.2.2.2.2.2.2.2.2.2.1.2.2.1 8 (by decide)) dL_law_259 ?_
  refine lv_bipush (v := nI 7) hx hb dL_law_261 (by decide) ?_
  have hf9 := f_at 8 7 (by decide)
  refine c_callSi (nA := 3) ([] : va_W) (wc cA P.ad ax (fx ++ (wc cA P.ad ay fy sy ++ ([] : va_W))) sx_f7) (mL_fails l hlt D cA P.ad P.adF P.adW P.tt ax _ (STG P) stg_E stg_X stg_N stg_W P.adV P.tv stg_V 8 7 (by decide) (by decide) hf9.1 hf9.2 (by decide) hKx) G hP hD hS (List.Perm.refl _) (g_goodSX q6_139 q6_140 q1_0 q6_141) (by decide +kernel) ⟨Nat.le_of_ble_eq_true rfl, Nat.le_of_ble_eq_true rfl, (Nat.le_trans (Nat.add_le_add_right hc9 1212) (Nat.le_of_ble_eq_true rfl)), (Nat.le_trans (Nat.add_le_add_right hs9 7552) (Nat.le_of_ble_eq_true rfl))⟩ rfl hl.1 [] rfl (Nat.le_of_ble_eq_true rfl) dL_law_263 (fun r9 sx_f8 H locs hok hP hD hS => ?_)
  obtain ⟨hr9, hKx⟩ := hok
  have hr9 : r9 = 1 := hr9
  subst hr9
  have hP : va_P D vwCl (wc cA P.ad ax (fx ++ (wc cA P.ad ay fy sy ++ ([] : va_W))) sx_f8) H := hP
  have hD : va_D A9 (wc cA P.ad ax (fx ++ (wc cA P.ad ay fy sy ++ ([] : va_W))) sx_f8) := hD
  refine W.widen (k := cells + 1212) (n := slots + 7552) (Nat.le_refl _) (Nat.le_refl _) ?_
  refine lv_if_eq (tgt := 337) hx hb dL_law_266 (by decide) (fun c9 => absurd c9 (by decide)) (fun _ => ?_)
  refine lv_aload_n hx hb dL_law_269 rfl (lv_at hl 1 rfl) ?_
  refine va_ldcS hx hb G.2.2.2.1 (G.2.2.2.2.2.2.2.2.2.2.1.2.2.1 9 (by decide)) dL_law_270 ?_
  refine lv_iconst (v := nI 0) hx hb dL_law_272 (by decide) ?_
  have hf9 := f_at 9 0 (by decide)
  refine c_callSi (nA := 3) ([] : va_W) (wc cA P.ad ax (fx ++ (wc cA P.ad ay fy sy ++ ([] : va_W))) sx_f8) (mL_fails l hlt D cA P.ad P.adF P.adW P.tt ax _ (STG P) stg_E stg_X stg_N stg_W P.adV P.tv stg_V 9 0 (by decide) (by decide) hf9.1 hf9.2 (by decide) hKx) G hP hD hS (List.Perm.refl _) (g_goodSX q6_139 q6_140 q1_0 q6_141) (by decide +kernel) ⟨Nat.le_of_ble_eq_true rfl, Nat.le_of_ble_eq_true rfl, (Nat.le_trans (Nat.add_le_add_right hc9 1316) (Nat.le_of_ble_eq_true rfl)), (Nat.le_trans (Nat.add_le_add_right hs9 8176) (Nat.le_of_ble_eq_true rfl))⟩ rfl hl.1 [] rfl (Nat.le_of_ble_eq_true rfl) dL_law_273 (fun r9 sx_f9 H locs hok hP hD hS => ?_)
  obtain ⟨hr9, hKx⟩ := hok
  have hr9 : r9 = 1 := hr9
  subst hr9
  have hP : va_P D vwCl (wc cA P.ad ax (fx ++ (wc cA P.ad ay fy sy ++ ([] : va_W))) sx_f9) H := hP
  have hD : va_D A9 (wc cA P.ad ax (fx ++ (wc cA P.ad ay fy sy ++ ([] : va_W))) sx_f9) := hD
  refine W.widen (k := cells + 1316) (n := slots + 8176) (Nat.le_refl _) (Nat.le_refl _) ?_
  refine lv_if_eq (tgt := 337) hx hb dL_law_276 (by decide) (fun c9 => absurd c9 (by decide)) (fun _ => ?_)
  refine lv_aload_n hx hb dL_law_279 rfl (lv_at hl 1 rfl) ?_
  refine va_ldcS hx hb G.2.2.2.1 (G.2.2.2.2.2.2.2.2.2.2.1.2.2.1 10 (by decide)) dL_law_280 ?_
  refine lv_bipush (v := nI 9) hx hb dL_law_282 (by decide) ?_
  have hf9 := f_at 10 9 (by decide)
  refine c_callSi (nA := 3) ([] : va_W) (wc cA P.ad ax (fx ++ (wc cA P.ad ay fy sy ++ ([] : va_W))) sx_f9) (mL_fails l hlt D cA P.ad P.adF P.adW P.tt ax _ (STG P) stg_E stg_X stg_N stg_W P.adV P.tv stg_V 10 9 (by decide) (by decide) hf9.1 hf9.2 (by decide) hKx) G hP hD hS (List.Perm.refl _) (g_goodSX q6_139 q6_140 q1_0 q6_141) (by decide +kernel) ⟨Nat.le_of_ble_eq_true rfl, Nat.le_of_ble_eq_true rfl, (Nat.le_trans (Nat.add_le_add_right hc9 1420) (Nat.le_of_ble_eq_true rfl)), (Nat.le_trans (Nat.add_le_add_right hs9 8800) (Nat.le_of_ble_eq_true rfl))⟩ rfl hl.1 [] rfl (Nat.le_of_ble_eq_true rfl) dL_law_284 (fun r9 sx_f10 H locs hok hP hD hS => ?_)
  obtain ⟨hr9, hKx⟩ := hok
  have hr9 : r9 = 1 := hr9
  subst hr9
  have hP : va_P D vwCl (wc cA P.ad ax (fx ++ (wc cA P.ad ay fy sy ++ ([] : va_W))) sx_f10) H := hP
  have hD : va_D A9 (wc cA P.ad ax (fx ++ (wc cA P.ad ay fy sy ++ ([] : va_W))) sx_f10) := hD
  refine W.widen (k := cells + 1420) (n := slots + 8800) (Nat.le_refl _) (Nat.le_refl _) ?_
  refine lv_if_eq (tgt := 337) hx hb dL_law_287 (by decide) (fun c9 => absurd c9 (by decide)) (fun _ => ?_)
  refine lv_aload_n hx hb dL_law_290 rfl (lv_at hl 1 rfl) ?_
  refine va_ldcS hx hb G.2.2.2.1 (G.2.2.2.2.2.2.2.2.2.2.1.2.2.1 11 (by decide)) dL_law_291 ?_
  refine lv_iconst (v := nI 1) hx hb dL_law_293 (by decide) ?_
  have hf9 := f_at 11 1 (by decide)
  refine c_callSi (nA := 3) ([] : va_W) (wc cA P.ad ax (fx ++ (wc cA P.ad ay fy sy ++ ([] : va_W))) sx_f10) (mL_fails l hlt D cA P.ad P.adF P.adW P.tt ax _ (STG P) stg_E stg_X stg_N stg_W P.adV P.tv stg_V 11 1 (by decide) (by decide) hf9.1 hf9.2 (by decide) hKx) G hP hD hS (List.Perm.refl _) (g_goodSX q6_139 q6_140 q1_0 q6_141) (by decide +kernel) ⟨Nat.le_of_ble_eq_true rfl, Nat.le_of_ble_eq_true rfl, (Nat.le_trans (Nat.add_le_add_right hc9 1524) (Nat.le_of_ble_eq_true rfl)), (Nat.le_trans (Nat.add_le_add_right hs9 9424) (Nat.le_of_ble_eq_true rfl))⟩ rfl hl.1 [] rfl (Nat.le_of_ble_eq_true rfl) dL_law_294 (fun r9 sx_f11 H locs hok hP hD hS => ?_)
  obtain ⟨hr9, hKx⟩ := hok
  have hr9 : r9 = 1 := hr9
  subst hr9
  have hP : va_P D vwCl (wc cA P.ad ax (fx ++ (wc cA P.ad ay fy sy ++ ([] : va_W))) sx_f11) H := hP
  have hD : va_D A9 (wc cA P.ad ax (fx ++ (wc cA P.ad ay fy sy ++ ([] : va_W))) sx_f11) := hD
  refine W.widen (k := cells + 1524) (n := slots + 9424) (Nat.le_refl _) (Nat.le_refl _) ?_
  refine lv_if_eq (tgt := 337) hx hb dL_law_297 (by decide) (fun c9 => absurd c9 (by decide)) (fun _ => ?_)
  refine lv_aload_n hx hb dL_law_300 rfl (lv_at hl 1 rfl) ?_
  refine va_ldcS hx hb G.2.2.2.1 (G.2.2.2.2.2.2.2.2.2.2.1.2.2.1 12 (by decide)) dL_law_301 ?_
  refine lv_bipush (v := nI 7) hx hb dL_law_303 (by decide) ?_
  have hf9 := f_at 12 7 (by decide)
  refine c_callSi (nA := 3) ([] : va_W) (wc cA P.ad ax (fx ++ (wc cA P.ad ay fy sy ++ ([] : va_W))) sx_f11) (mL_fails l hlt D cA P.ad P.adF P.adW P.tt ax _ (STG P) stg_E stg_X stg_N stg_W P.adV P.tv stg_V 12 7 (by decide) (by decide) hf9.1 hf9.2 (by decide) hKx) G hP hD hS (List.Perm.refl _) (g_goodSX q6_139 q6_140 q1_0 q6_141) (by decide +kernel) ⟨Nat.le_of_ble_eq_true rfl, Nat.le_of_ble_eq_true rfl, (Nat.le_trans (Nat.add_le_add_right hc9 1628) (Nat.le_of_ble_eq_true rfl)), (Nat.le_trans (Nat.add_le_add_right hs9 10048) (Nat.le_of_ble_eq_true rfl))⟩ rfl hl.1 [] rfl (Nat.le_of_ble_eq_true rfl) dL_law_305 (fun r9 sx_f12 H locs hok hP hD hS => ?_)
  obtain ⟨hr9, hKx⟩ := hok
  have hr9 : r9 = 1 := hr9
  subst hr9
  have hP : va_P D vwCl (wc cA P.ad ax (fx ++ (wc cA P.ad ay fy sy ++ ([] : va_W))) sx_f12) H := hP
  have hD : va_D A9 (wc cA P.ad ax (fx ++ (wc cA P.ad ay fy sy ++ ([] : va_W))) sx_f12) := hD
  refine W.widen (k := cells + 1628) (n := slots + 10048) (Nat.le_refl _) (Nat.le_refl _) ?_
  refine lv_if_eq (tgt := 337) hx hb dL_law_308 (by decide) (fun c9 => absurd c9 (by decide)) (fun _ => ?_)
  refine lv_aload_n hx hb dL_law_311 rfl (lv_at hl 1 rfl) ?_
  refine va_ldcS hx hb G.2.2.2.1 (G.2.2.2.2.2.2.2.2.2.2.1.2.2.1 13 (by decide)) dL_law_312 ?_
  refine lv_iconst (v := nI 0) hx hb dL_law_314 (by decide) ?_
  have hf9 := f_at 13 0 (by decide)
  refine c_callSi (nA := 3) ([] : va_W) (wc cA P.ad ax (fx ++ (wc cA P.ad ay fy sy ++ ([] : va_W))) sx_f12) (mL_fails l hlt D cA P.ad P.adF P.adW P.tt ax _ (STG P) stg_E stg_X stg_N stg_W P.adV P.tv stg_V 13 0 (by decide) (by decide) hf9.1 hf9.2 (by decide) hKx) G hP hD hS (List.Perm.refl _) (g_goodSX q6_139 q6_140 q1_0 q6_141) (by decide +kernel) ⟨Nat.le_of_ble_eq_true rfl, Nat.le_of_ble_eq_true rfl, (Nat.le_trans (Nat.add_le_add_right hc9 1732) (Nat.le_of_ble_eq_true rfl)), (Nat.le_trans (Nat.add_le_add_right hs9 10672) (Nat.le_of_ble_eq_true rfl))⟩ rfl hl.1 [] rfl (Nat.le_of_ble_eq_true rfl) dL_law_315 (fun r9 sx_f13 H locs hok hP hD hS => ?_)
  obtain ⟨hr9, hKx⟩ := hok
  have hr9 : r9 = 1 := hr9
  subst hr9
  have hP : va_P D vwCl (wc cA P.ad ax (fx ++ (wc cA P.ad ay fy sy ++ ([] : va_W))) sx_f13) H := hP
  have hD : va_D A9 (wc cA P.ad ax (fx ++ (wc cA P.ad ay fy sy ++ ([] : va_W))) sx_f13) := hD
  refine W.widen (k := cells + 1732) (n := slots + 10672) (Nat.le_refl _) (Nat.le_refl _) ?_
  refine lv_if_eq (tgt := 337) hx hb dL_law_318 (by decide) (fun c9 => absurd c9 (by decide)) (fun _ => ?_)
  refine lv_aload_n hx hb dL_law_321 rfl (lv_at hl 1 rfl) ?_
  have e9 := q_failed hKx (by decide)
  refine gl_callVi (nA := 0) (mX11_failedCommand l hlt D cA P.ad P.adF P.adW P.tt ax _ (STG P) stg_E stg_X  sx_f13 0 _ sx_f13 (e9)) G hP hD hS (g_good q5_88 q5_89 q5_90 q1_1 q5_91) (by decide +kernel) ⟨Nat.le_of_ble_eq_true rfl, Nat.le_of_ble_eq_true rfl, (Nat.le_trans (Nat.add_le_add_right hc9 1734) (Nat.le_of_ble_eq_true rfl)), (Nat.le_trans (Nat.add_le_add_right hs9 10684) (Nat.le_of_ble_eq_true rfl))⟩ (by decide) sc_209 rfl rfl hl.1 [] rfl (Nat.le_of_ble_eq_true rfl) dL_law_322 (fun h0 => absurd rfl h0) (fun _ H locs hP hD hS => ?_)
  refine W.widen (k := cells + 1734) (n := slots + 10684) (Nat.le_refl _) (Nat.le_refl _) ?_
  refine lv_if_ne (tgt := 337) hx hb dL_law_325 (by decide) (fun c9 => absurd (by decide) c9) (fun _ => ?_)
  refine lv_aload_n hx hb dL_law_328 rfl (lv_at hl 1 rfl) ?_
  refine c_callSi (nA := 1) ([] : va_W) (wc cA P.ad ax (fx ++ (wc cA P.ad ay fy sy ++ ([] : va_W))) sx_f13) (mL_state l hlt D cA P.ad P.adF P.adW P.tt ax _ (STG P) stg_E stg_X stg_N stg_F stg_L (by decide) hKx) G hP hD hS (List.Perm.refl _) (g_goodSX q5_181 q5_182 q1_0 q5_183) (by decide +kernel) ⟨Nat.le_of_ble_eq_true rfl, Nat.le_of_ble_eq_true rfl, (Nat.le_trans (Nat.add_le_add_right hc9 2004) (Nat.le_of_ble_eq_true rfl)), (Nat.le_trans (Nat.add_le_add_right hs9 12444) (Nat.le_of_ble_eq_true rfl))⟩ rfl hl.1 [] rfl (Nat.le_of_ble_eq_true rfl) dL_law_329 (fun r9 sx_5 H locs hok hP hD hS => ?_)
  obtain ⟨hKx, hr9⟩ := hok
  have hr9 : r9 = stA (A) := hr9
  subst hr9
  have hP : va_P D vwCl (wc cA P.ad ax (fx ++ (wc cA P.ad ay fy sy ++ ([] : va_W))) sx_5) H := hP
  have hD : va_D A9 (wc cA P.ad ax (fx ++ (wc cA P.ad ay fy sy ++ ([] : va_W))) sx_5) := hD
  refine W.widen (k := cells + 2004) (n := slots + 12444) (Nat.le_refl _) (Nat.le_refl _) ?_
  refine lv_iload hx hb dL_law_332 (lv_at hl 3 rfl) ?_
  refine lv_icmp_eq (tgt := 339) hx hb dL_law_334 (by decide) (fun _ => ?_) (fun c9 => absurd (rfl) c9)
  exact law_339 hlt G hL hEnd hKx hP hD hS (Nat.le_trans (Nat.add_le_add_right hc9 2004) (Nat.le_of_ble_eq_true rfl)) (Nat.le_trans (Nat.add_le_add_right hs9 12444) (Nat.le_of_ble_eq_true rfl)) hl
end LW7
