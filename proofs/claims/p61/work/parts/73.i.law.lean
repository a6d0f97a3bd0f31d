section LW8
variable {p : Program} {l : Launch} {e : Env} {s : State} {m : MethodId} {args : Array Value} {below : List Frame} {meth : Method} {c : Code} {H : Heap} {locs : List Loc} {cells slots : Nat} {Q : State → Prop}
variable {ls : Array Slot} {D : va_G} {A9 : Nat → Prop} {cA : Nat → ClassId} {P : PR}
set_option maxHeartbeats 4000000 in
set_option maxRecDepth 100000 in
theorem law_84 (hlt : l.stackTraces = false) (G : GC p s m args meth c cL_law 10 RL (some .boolean) A9 D (TYS cA) (STG P)) (hL : P.L < 2 ^ 31) (hEnd : ∀ (H : Heap) (locs : List Loc) (cells slots : Nat) (ls : Array Slot), va_S A9 s.heap H locs → cells ≤ 634335 → slots ≤ 7187242 → W p l e room_1 s m args below meth c H locs cells slots Q (F0 m 1087 ls [.int 1])) {ax ay : Nat → Nat} {fx fy : va_W} {sx sy : St} {A : AM} {Qx Qy : List AM} (hKx : KG sx (A4 A) (Qx ++ ([] ++ [A])) (some A) [] none none 124) (hKy : KG sy (A4 A) (Qy ++ ([A, A4a A, A4b A] ++ [A4c A])) none [] none none 127) (hP : va_P D vwCl (wc cA P.ad ax (fx ++ (wc cA P.ad ay fy sy ++ ([] : va_W))) sx) H) (hD : va_D A9 (wc cA P.ad ax (fx ++ (wc cA P.ad ay fy sy ++ ([] : va_W))) sx)) (hS : va_S A9 s.heap H locs) (hc9 : cells ≤ 6000) (hs9 : slots ≤ 100000) (hl : lv_has ls 10 [(0, .ref P.b), (1, .ref (ax 209)), (2, .ref (ay 209)), (3, .int (nI (wN A))), (4, .int (stA A))]) : W p l e room_1 s m args below meth c H locs cells slots Q (F0 m 84 ls []) := by
  have hx := G.1
  have hb := G.2.1
  refine lv_aload_n hx hb dL_law_84 rfl (lv_at hl 1 rfl) ?_
  obtain ⟨sx_a, n9, e9, hn9, hKx⟩ := u_l hKx
  refine gl_callVi (nA := 0) (mX11_undo l hlt D cA P.ad P.adF P.adW P.tt ax _ (STG P) stg_E stg_X 2000  sx 0 _ sx_a (e9)) G hP hD hS (g_good q5_93 q5_94 q5_95 q1_1 q5_96) (by decide +kernel) ⟨Nat.le_of_ble_eq_true rfl, Nat.le_of_ble_eq_true rfl, (Nat.le_trans (Nat.add_le_add_right hc9 2) (Nat.le_of_ble_eq_true rfl)), (Nat.le_trans (Nat.add_le_add_right hs9 12) (Nat.le_of_ble_eq_true rfl))⟩ (by decide) sc_209 rfl rfl hl.1 [] rfl (Nat.le_of_ble_eq_true rfl) dL_law_85 (fun h0 => absurd rfl h0) (fun _ H locs hP hD hS => ?_)
  refine W.widen (k := cells + 2) (n := slots + 12) (Nat.le_refl _) (Nat.le_refl _) ?_
  refine lv_if_lt (tgt := 137) hx hb dL_law_88 (by decide) (fun c9 => absurd c9 (nI_pos hn9)) (fun _ => ?_)
  refine lv_aload_n hx hb dL_law_91 rfl (lv_at hl 1 rfl) ?_
  refine c_callSi (nA := 1) ([] : va_W) (wc cA P.ad ax (fx ++ (wc cA P.ad ay fy sy ++ ([] : va_W))) sx_a) (mL_state l hlt D cA P.ad P.adF P.adW P.tt ax _ (STG P) stg_E stg_X stg_N stg_F stg_L (by decide) hKx) G hP hD hS (List.Perm.refl _) (g_goodSX q5_181 q5_182 q1_0 q5_183) (by decide +kernel) ⟨Nat.le_of_ble_eq_true rfl, Nat.le_of_ble_eq_true rfl, (Nat.le_trans (Nat.add_le_add_right hc9 272) (Nat.le_of_ble_eq_true rfl)), (Nat.le_trans (Nat.add_le_add_right hs9 1772) (Nat.le_of_ble_eq_true rfl))⟩ rfl hl.1 [] rfl (Nat.le_of_ble_eq_true rfl) dL_law_92 (fun r9 sx_1 H locs hok hP hD hS => ?_)
  obtain ⟨hKx, hr9⟩ := hok
  have hr9 : r9 = stA (A) := hr9
  subst hr9
  have hP : va_P D vwCl (wc cA P.ad ax (fx ++ (wc cA P.ad ay fy sy ++ ([] : va_W))) sx_1) H := hP
  have hD : va_D A9 (wc cA P.ad ax (fx ++ (wc cA P.ad ay fy sy ++ ([] : va_W))) sx_1) := hD
  refine W.widen (k := cells + 272) (n := slots + 1772) (Nat.le_refl _) (Nat.le_refl _) ?_
  refine lv_iload hx hb dL_law_95 (lv_at hl 4 rfl) ?_
  refine lv_icmp_ne (tgt := 137) hx hb dL_law_97 (by decide) (fun c9 => absurd (rfl) c9) (fun _ => ?_)
  refine lv_aload_n hx hb dL_law_100 rfl (lv_at hl 2 rfl) ?_
  obtain ⟨sy_a, n1, e9, hn9, hKy⟩ := u_l hKy
  have hKy : KG sy_a (A4c A) (Qy ++ ([A, A4a A] ++ [A4b A])) none [] none none 127 := hKy
  have hP := hP.perm sw2
  have hD := hD.perm sw2
  refine gl_callVi (nA := 0) (mX11_undo l hlt D cA P.ad P.adF P.adW P.tt ay _ (STG P) stg_E stg_X 2000  sy 0 _ sy_a (e9)) G hP hD hS (g_good q5_93 q5_94 q5_95 q1_1 q5_96) (by decide +kernel) ⟨Nat.le_of_ble_eq_true rfl, Nat.le_of_ble_eq_true rfl, (Nat.le_trans (Nat.add_le_add_right hc9 274) (Nat.le_of_ble_eq_true rfl)), (Nat.le_trans (Nat.add_le_add_right hs9 1784) (Nat.le_of_ble_eq_true rfl))⟩ (by decide) sc_209 rfl rfl hl.1 [] rfl (Nat.le_of_ble_eq_true rfl) dL_law_101 (fun h0 => absurd rfl h0) (fun _ H locs hP hD hS => ?_)
  refine W.widen (k := cells + 274) (n := slots + 1784) (Nat.le_refl _) (Nat.le_refl _) ?_
  refine lv_if_lt (tgt := 137) hx hb dL_law_104 (by decide) (fun c9 => absurd c9 (nI_pos hn9)) (fun _ => ?_)
  refine lv_aload_n hx hb dL_law_107 rfl (lv_at hl 2 rfl) ?_
  obtain ⟨sy_b, n2, e9, hn9, hKy⟩ := u_l hKy
  have hKy : KG sy_b (A4b A) (Qy ++ ([A] ++ [A4a A])) none [] none none 127 := hKy
  refine gl_callVi (nA := 0) (mX11_undo l hlt D cA P.ad P.adF P.adW P.tt ay _ (STG P) stg_E stg_X 2000  sy_a 0 _ sy_b (e9)) G hP hD hS (g_good q5_93 q5_94 q5_95 q1_1 q5_96) (by decide +kernel) ⟨Nat.le_of_ble_eq_true rfl, Nat.le_of_ble_eq_true rfl, (Nat.le_trans (Nat.add_le_add_right hc9 276) (Nat.le_of_ble_eq_true rfl)), (Nat.le_trans (Nat.add_le_add_right hs9 1796) (Nat.le_of_ble_eq_true rfl))⟩ (by decide) sc_209 rfl rfl hl.1 [] rfl (Nat.le_of_ble_eq_true rfl) dL_law_108 (fun h0 => absurd rfl h0) (fun _ H locs hP hD hS => ?_)
  refine W.widen (k := cells + 276) (n := slots + 1796) (Nat.le_refl _) (Nat.le_refl _) ?_
  refine lv_if_lt (tgt := 137) hx hb dL_law_111 (by decide) (fun c9 => absurd c9 (nI_pos hn9)) (fun _ => ?_)
  refine lv_aload_n hx hb dL_law_114 rfl (lv_at hl 2 rfl) ?_
  obtain ⟨sy_c, n3, e9, hn9, hKy⟩ := u_l hKy
  have hKy : KG sy_c (A4a A) (Qy ++ ([] ++ [A])) none [] none none 127 := hKy
  refine gl_callVi (nA := 0) (mX11_undo l hlt D cA P.ad P.adF P.adW P.tt ay _ (STG P) stg_E stg_X 2000  sy_b 0 _ sy_c (e9)) G hP hD hS (g_good q5_93 q5_94 q5_95 q1_1 q5_96) (by decide +kernel) ⟨Nat.le_of_ble_eq_true rfl, Nat.le_of_ble_eq_true rfl, (Nat.le_trans (Nat.add_le_add_right hc9 278) (Nat.le_of_ble_eq_true rfl)), (Nat.le_trans (Nat.add_le_add_right hs9 1808) (Nat.le_of_ble_eq_true rfl))⟩ (by decide) sc_209 rfl rfl hl.1 [] rfl (Nat.le_of_ble_eq_true rfl) dL_law_115 (fun h0 => absurd rfl h0) (fun _ H locs hP hD hS => ?_)
  refine W.widen (k := cells + 278) (n := slots + 1808) (Nat.le_refl _) (Nat.le_refl _) ?_
  refine lv_if_lt (tgt := 137) hx hb dL_law_118 (by decide) (fun c9 => absurd c9 (nI_pos hn9)) (fun _ => ?_)
  refine lv_aload_n hx hb dL_law_121 rfl (lv_at hl 2 rfl) ?_
  obtain ⟨sy_d, n4, e9, hn9, hKy⟩ := u_l hKy
  refine gl_callVi (nA := 0) (mX11_undo l hlt D cA P.ad P.adF P.adW P.tt ay _ (STG P) stg_E stg_X 2000  sy_c 0 _ sy_d (e9)) G hP hD hS (g_good q5_93 q5_94 q5_95 q1_1 q5_96) (by decide +kernel) ⟨Nat.le_of_ble_eq_true rfl, Nat.le_of_ble_eq_true rfl, (Nat.le_trans (Nat.add_le_add_right hc9 280) (Nat.le_of_ble_eq_true rfl)), (Nat.le_trans (Nat.add_le_add_right hs9 1820) (Nat.le_of_ble_eq_true rfl))⟩ (by decide) sc_209 rfl rfl hl.1 [] rfl (Nat.le_of_ble_eq_true rfl) dL_law_122 (fun h0 => absurd rfl h0) (fun _ H locs hP hD hS => ?_)
  refine W.widen (k := cells + 280) (n := slots + 1820) (Nat.le_refl _) (Nat.le_refl _) ?_
  refine lv_if_lt (tgt := 137) hx hb dL_law_125 (by decide) (fun c9 => absurd c9 (nI_pos hn9)) (fun _ => ?_)
  refine lv_aload_n hx hb dL_law_128 rfl (lv_at hl 2 rfl) ?_
  refine c_callSi (nA := 1) ([] : va_W) (wc cA P.ad ay (fy ++ (wc cA P.ad ax fx sx_1 ++ ([] : va_W))) sy_d) (mL_state l hlt D cA P.ad P.adF P.adW P.tt ay _ (STG P) stg_E stg_X stg_N stg_F stg_L (by decide) hKy) G hP hD hS (List.Perm.refl _) (g_goodSX q5_181 q5_182 q1_0 q5_183) (by decide +kernel) ⟨Nat.le_of_ble_eq_true rfl, Nat.le_of_ble_eq_true rfl, (Nat.le_trans (Nat.add_le_add_right hc9 550) (Nat.le_of_ble_eq_true rfl)), (Nat.le_trans (Nat.add_le_add_right hs9 3580) (Nat.le_of_ble_eq_true rfl))⟩ rfl hl.1 [] rfl (Nat.le_of_ble_eq_true rfl) dL_law_129 (fun r9 sy_2 H locs hok hP hD hS => ?_)
  obtain ⟨hKy, hr9⟩ := hok
  have hr9 : r9 = stA (A) := hr9
  subst hr9
  have hP : va_P D vwCl (wc cA P.ad ay (fy ++ (wc cA P.ad ax fx sx_1 ++ ([] : va_W))) sy_2) H := hP
  have hD : va_D A9 (wc cA P.ad ay (fy ++ (wc cA P.ad ax fx sx_1 ++ ([] : va_W))) sy_2) := hD
  refine W.widen (k := cells + 550) (n := slots + 3580) (Nat.le_refl _) (Nat.le_refl _) ?_
  refine lv_iload hx hb dL_law_132 (lv_at hl 4 rfl) ?_
  refine lv_icmp_eq (tgt := 139) hx hb dL_law_134 (by decide) (fun _ => ?_) (fun c9 => absurd (rfl) c9)
  have hP := hP.perm sw2
  have hD := hD.perm sw2
  exact law_139 hlt G hL hEnd hKx hP hD hS (Nat.le_trans (Nat.add_le_add_right hc9 550) (Nat.le_of_ble_eq_true rfl)) (Nat.le_trans (Nat.add_le_add_right hs9 3580) (Nat.le_of_ble_eq_true rfl)) (lv_sub hl [0, 1, 3, 4] rfl)
end LW8
