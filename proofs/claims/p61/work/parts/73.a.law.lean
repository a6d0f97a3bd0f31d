section LW0
variable {p : Program} {l : Launch} {e : Env} {s : State} {m : MethodId} {args : Array Value} {below : List Frame} {meth : Method} {c : Code} {H : Heap} {locs : List Loc} {cells slots : Nat} {Q : State → Prop}
variable {ls : Array Slot} {D : va_G} {A9 : Nat → Prop} {cA : Nat → ClassId} {P : PR}
set_option maxHeartbeats 4000000 in
set_option maxRecDepth 100000 in
theorem law_1065 (hlt : l.stackTraces = false) (G : GC p s m args meth c cL_law 10 RL (some .boolean) A9 D (TYS cA) (STG P)) (hL : P.L < 2 ^ 31) (hEnd : ∀ (H : Heap) (locs : List Loc) (cells slots : Nat) (ls : Array Slot), va_S A9 s.heap H locs → cells ≤ 634335 → slots ≤ 7187242 → W p l e room_1 s m args below meth c H locs cells slots Q (F0 m 1087 ls [.int 1])) {ax ay az : Nat → Nat} {fx fy fz : va_W} {sx sy sz : St} {A : AM} {Hx : List AM} {er fl : Option Nat} (hKx : KG sx A Hx (some A) [] er fl 124) (hP : va_P D vwCl (wc cA P.ad az (fz ++ (wc cA P.ad ax fx sx ++ (wc cA P.ad ay fy sy ++ ([] : va_W)))) sz) H) (hD : va_D A9 (wc cA P.ad az (fz ++ (wc cA P.ad ax fx sx ++ (wc cA P.ad ay fy sy ++ ([] : va_W)))) sz)) (hS : va_S A9 s.heap H locs) (hc9 : cells ≤ 20000) (hs9 : slots ≤ 300000) (hl : lv_has ls 10 [(1, .ref (ax 209)), (3, .int (nI (wN A))), (4, .int (stA A))]) : W p l e room_1 s m args below meth c H locs cells slots Q (F0 m 1065 ls []) := by
  have hx := G.1
  have hb := G.2.1
  refine lv_aload_n hx hb dL_law_1065 rfl (lv_at hl 0 rfl) ?_
  obtain ⟨sx_r, e1, hKx⟩ := q_restore (m := 2000) (Nat.le_refl _) hKx
  have hP := hP.perm sw2
  have hD := hD.perm sw2
  refine gl_callVi (nA := 0) (mX11_restore l hlt D cA P.ad P.adF P.adW P.tt ax _ (STG P) stg_E stg_X 2000  sx 0 _ sx_r (e1)) G hP hD hS (g_good q5_106 q5_107 q5_108 q1_1 q5_109) (by decide +kernel) ⟨Nat.le_of_ble_eq_true rfl, Nat.le_of_ble_eq_true rfl, (Nat.le_trans (Nat.add_le_add_right hc9 2) (Nat.le_of_ble_eq_true rfl)), (Nat.le_trans (Nat.add_le_add_right hs9 12) (Nat.le_of_ble_eq_true rfl))⟩ (by decide) sc_209 rfl rfl hl.1 [] rfl (Nat.le_of_ble_eq_true rfl) dL_law_1066 (fun h0 => absurd rfl h0) (fun _ H locs hP hD hS => ?_)
  refine W.widen (k := cells + 2) (n := slots + 12) (Nat.le_refl _) (Nat.le_refl _) ?_
  refine lv_iload_n hx hb dL_law_1069 rfl (lv_at hl 1 rfl) ?_
  refine lv_icmp_ne (tgt := 1086) hx hb dL_law_1070 (by decide) (fun c9 => absurd (rfl) c9) (fun _ => ?_)
  refine lv_aload_n hx hb dL_law_1073 rfl (lv_at hl 0 rfl) ?_
  refine c_callSi (nA := 1) ([] : va_W) (wc cA P.ad ax (fx ++ (wc cA P.ad az fz sz ++ (wc cA P.ad ay fy sy ++ ([] : va_W)))) sx_r) (mL_state l hlt D cA P.ad P.adF P.adW P.tt ax _ (STG P) stg_E stg_X stg_N stg_F stg_L (by omega) hKx) G hP hD hS (List.Perm.refl _) (g_goodSX q5_181 q5_182 q1_0 q5_183) (by decide +kernel) ⟨Nat.le_of_ble_eq_true rfl, Nat.le_of_ble_eq_true rfl, (Nat.le_trans (Nat.add_le_add_right hc9 272) (Nat.le_of_ble_eq_true rfl)), (Nat.le_trans (Nat.add_le_add_right hs9 1772) (Nat.le_of_ble_eq_true rfl))⟩ rfl hl.1 [] rfl (Nat.le_of_ble_eq_true rfl) dL_law_1074 (fun r9 sx_1 H locs hok hP hD hS => ?_)
  obtain ⟨hKx, hr9⟩ := hok
  have hr9 : r9 = stA (A) := hr9
  subst hr9
  have hP : va_P D vwCl (wc cA P.ad ax (fx ++ (wc cA P.ad az fz sz ++ (wc cA P.ad ay fy sy ++ ([] : va_W)))) sx_1) H := hP
  have hD : va_D A9 (wc cA P.ad ax (fx ++ (wc cA P.ad az fz sz ++ (wc cA P.ad ay fy sy ++ ([] : va_W)))) sx_1) := hD
  refine W.widen (k := cells + 272) (n := slots + 1772) (Nat.le_refl _) (Nat.le_refl _) ?_
  refine lv_iload hx hb dL_law_1077 (lv_at hl 2 rfl) ?_
  refine lv_icmp_ne (tgt := 1086) hx hb dL_law_1079 (by decide) (fun c9 => absurd (rfl) c9) (fun _ => ?_)
  refine lv_iconst (v := 1) hx hb dL_law_1082 (by decide) ?_
  refine lv_goto (tgt := 1087) hx hb dL_law_1083 (by decide) ?_
  exact hEnd H locs _ _ ls hS (Nat.le_trans (Nat.add_le_add_right hc9 272) (Nat.le_of_ble_eq_true rfl)) (Nat.le_trans (Nat.add_le_add_right hs9 1772) (Nat.le_of_ble_eq_true rfl))
end LW0
