section LW2
variable {p : Program} {l : Launch} {e : Env} {s : State} {m : MethodId} {args : Array Value} {below : List Frame} {meth : Method} {c : Code} {H : Heap} {locs : List Loc} {cells slots : Nat} {Q : State → Prop}
variable {ls : Array Slot} {D : va_G} {A9 : Nat → Prop} {cA : Nat → ClassId} {P : PR}
set_option maxHeartbeats 4000000 in
set_option maxRecDepth 100000 in
theorem law_713 (hlt : l.stackTraces = false) (G : GC p s m args meth c cL_law 10 RL (some .boolean) A9 D (TYS cA) (STG P)) (hL : P.L < 2 ^ 31) (hEnd : ∀ (H : Heap) (locs : List Loc) (cells slots : Nat) (ls : Array Slot), va_S A9 s.heap H locs → cells ≤ 634335 → slots ≤ 7187242 → W p l e room_1 s m args below meth c H locs cells slots Q (F0 m 1087 ls [.int 1])) {ax ay az : Nat → Nat} {fx fy fz : va_W} {sx sy sz : St} {A : AM} {Hx Hz : List AM} {er fl erz flz : Option Nat} {m0 a0 : Nat} (hm0 : m0 < 8) (ha1 : 20 ≤ a0) (ha2 : a0 < 52) (hKx : KG sx A Hx (some A) [] er fl 124) (hKz : KG sz (Z3 m0 a0) Hz none [] erz flz 3) (hP : va_P D vwCl (wc cA P.ad az (fz ++ (wc cA P.ad ax fx sx ++ (wc cA P.ad ay fy sy ++ ([] : va_W)))) sz) H) (hD : va_D A9 (wc cA P.ad az (fz ++ (wc cA P.ad ax fx sx ++ (wc cA P.ad ay fy sy ++ ([] : va_W)))) sz)) (hS : va_S A9 s.heap H locs) (hc9 : cells ≤ 18000) (hs9 : slots ≤ 280000) (hl : lv_has ls 10 [(1, .ref (ax 209)), (3, .int (nI (wN A))), (4, .int (stA A)), (6, .int (nI m0)), (7, .int (nI a0)), (8, .ref (az 209))]) : W p l e room_1 s m args below meth c H locs cells slots Q (F0 m 713 ls []) := by
  have hx := G.1
  have hb := G.2.1
  have h12 : 12 ≤ a0 := by omega
  have h02 : 2 ≤ a0 := by omega
  have hlt12 : a0 - 12 < 2 ^ 31 := by omega
  have hn1 : 1 ≤ a0 - 2 := by omega
  have hn60 : a0 - 2 ≤ 60 := by omega
  have hd10 : 2 * m0 < 2 ^ 31 := by omega
  have hm31 : m0 < 2 ^ 31 := by omega
  have hm3 : m0 / 3 < 4 := by omega
  have hq2 : 2 * m0 / 10 ≤ 2 := by omega
  have hm10 : m0 < 10 := by omega
  have ha31 : a0 < 2 ^ 31 := by omega
  have hz9 : zB3 m0 a0 = true := z_all3 hm0 ha1 ha2
  unfold zB3 at hz9
  simp only [Bool.and_eq_true, decide_eq_true_eq] at hz9
  obtain ⟨-, hZ3, -, -, -, -, -, -, h14, h31, h47, h4, hmf, h10, h11, h12, h8, hja⟩ := hz9
  generalize hE3 : Z3 m0 a0 = z3 at *
  refine lv_iconst (v := nI 2) hx hb dL_law_713 (by decide) ?_
  refine lv_iconst (v := nI 2) hx hb dL_law_714 (by decide) ?_
  refine lv_iload hx hb dL_law_715 (lv_at hl 3 rfl) ?_
  refine lv_imul hx hb dL_law_717 ?_
  rw [pk_mul 2 m0]
  refine lv_bipush (v := nI 10) hx hb dL_law_718 (by decide) ?_
  refine lv_idiv hx hb dL_law_720 (by decide) ?_
  rw [show nI (2 * m0) / nI 10 = nI ((2 * m0) / 10) from pk_div hd10 (by decide) (by decide)]
  refine lv_isub hx hb dL_law_721 ?_
  rw [show nI 2 - nI (2 * m0 / 10) = nI (2 - 2 * m0 / 10) from pk_sub hq2]
  refine lv_istore (lv' := [(9, .int (nI (2 - 2 * m0 / 10))), (1, .ref (ax 209)), (3, .int (nI (wN A))), (4, .int (stA A)), (6, .int (nI m0)), (7, .int (nI a0)), (8, .ref (az 209))]) hx hb dL_law_722 hl (by decide) rfl (fun ls hl => ?_)
  refine lv_aload hx hb dL_law_724 (lv_at hl 6 rfl) ?_
  refine lv_iconst (v := nI 3) hx hb dL_law_726 (by decide) ?_
  have e9 := q_flour hKz (w := 3) (by decide)
  rw [show z3.1 (28 + 3) = 1 from h31] at e9
  refine gl_callVi (nA := 1) (mX11_flour l hlt D cA P.ad P.adF P.adW P.tt az _ (STG P) stg_E stg_X (nI 3) sz 0 _ sz (e9)) G hP hD hS (g_good q4_13 q4_14 q4_15 q1_1 q4_16) (by decide +kernel) ⟨Nat.le_of_ble_eq_true rfl, Nat.le_of_ble_eq_true rfl, (Nat.le_trans (Nat.add_le_add_right hc9 2) (Nat.le_of_ble_eq_true rfl)), (Nat.le_trans (Nat.add_le_add_right hs9 12) (Nat.le_of_ble_eq_true rfl))⟩ (by decide) sc_209 rfl rfl hl.1 [] rfl (Nat.le_of_ble_eq_true rfl) dL_law_727 (fun h0 => absurd rfl h0) (fun _ H locs hP hD hS => ?_)
  refine W.widen (k := cells + 2) (n := slots + 12) (Nat.le_refl _) (Nat.le_refl _) ?_
  refine lv_iconst (v := nI 1) hx hb dL_law_730 (by decide) ?_
  refine lv_icmp_ne (tgt := 851) hx hb dL_law_731 (by decide) (fun c9 => absurd (rfl) c9) (fun _ => ?_)
  refine lv_aload hx hb dL_law_734 (lv_at hl 6 rfl) ?_
  refine lv_iconst (v := nI 3) hx hb dL_law_736 (by decide) ?_
  refine lv_iconst (v := nI 3) hx hb dL_law_737 (by decide) ?_
  have e9 := q_recorded hKz (b := 3) (g := 3) (by decide) (by decide)
  rw [show z3.1 (32 + 4 * 3 + 3) = 1 from h47] at e9
  refine gl_callVi (nA := 2) (mX11_recorded l hlt D cA P.ad P.adF P.adW P.tt az _ (STG P) stg_E stg_X (nI 3) (nI 3) sz 0 _ sz (e9)) G hP hD hS (g_good q4_32 q4_33 q4_34 q1_1 q4_35) (by decide +kernel) ⟨Nat.le_of_ble_eq_true rfl, Nat.le_of_ble_eq_true rfl, (Nat.le_trans (Nat.add_le_add_right hc9 4) (Nat.le_of_ble_eq_true rfl)), (Nat.le_trans (Nat.add_le_add_right hs9 24) (Nat.le_of_ble_eq_true rfl))⟩ (by decide) sc_209 rfl rfl hl.1 [] rfl (Nat.le_of_ble_eq_true rfl) dL_law_738 (fun h0 => absurd rfl h0) (fun _ H locs hP hD hS => ?_)
  refine W.widen (k := cells + 4) (n := slots + 24) (Nat.le_refl _) (Nat.le_refl _) ?_
  refine lv_iconst (v := nI 1) hx hb dL_law_741 (by decide) ?_
  refine lv_icmp_ne (tgt := 851) hx hb dL_law_742 (by decide) (fun c9 => absurd (rfl) c9) (fun _ => ?_)
  refine lv_aload hx hb dL_law_745 (lv_at hl 6 rfl) ?_
  have e9 := q_sieved hKz
  rw [h4] at e9
  refine gl_callNi (nA := 0) (mX11_lostInSieves l D cA P.ad P.adF P.adW P.tt az _ (STG P) stg_E  sz _ sz (e9)) G hP hD hS (g_good q4_53 q4_54 q4_55 q1_1 q4_56) (by decide +kernel) ⟨Nat.le_of_ble_eq_true rfl, Nat.le_of_ble_eq_true rfl, (Nat.le_trans (Nat.add_le_add_right hc9 4) (Nat.le_of_ble_eq_true rfl)), (Nat.le_trans (Nat.add_le_add_right hs9 24) (Nat.le_of_ble_eq_true rfl))⟩ (by decide) sc_209 rfl rfl hl.1 [] rfl (Nat.le_of_ble_eq_true rfl) dL_law_747 (fun H locs hP hD hS => ?_)
  refine lv_bipush (v := nI 9) hx hb dL_law_750 (by decide) ?_
  refine lv_iconst (v := nI 2) hx hb dL_law_752 (by decide) ?_
  refine lv_iload hx hb dL_law_753 (lv_at hl 4 rfl) ?_
  refine lv_imul hx hb dL_law_755 ?_
  rw [pk_mul 2 m0]
  refine lv_bipush (v := nI 10) hx hb dL_law_756 (by decide) ?_
  refine lv_idiv hx hb dL_law_758 (by decide) ?_
  rw [show nI (2 * m0) / nI 10 = nI ((2 * m0) / 10) from pk_div hd10 (by decide) (by decide)]
  refine lv_iadd hx hb dL_law_759 ?_
  rw [nI_add 9 (2 * m0 / 10)]
  refine lv_icmp_ne (tgt := 851) hx hb dL_law_760 (by decide) (fun c9 => absurd (rfl) c9) (fun _ => ?_)
  refine lv_aload hx hb dL_law_763 (lv_at hl 6 rfl) ?_
  refine lv_iload hx hb dL_law_765 (lv_at hl 4 rfl) ?_
  refine lv_iconst (v := nI 3) hx hb dL_law_767 (by decide) ?_
  refine lv_idiv hx hb dL_law_768 (by decide) ?_
  rw [show nI (m0) / nI 3 = nI ((m0) / 3) from pk_div hm31 (by decide) (by decide)]
  have e9 := q_flour hKz (w := m0 / 3) hm3
  rw [hmf] at e9
  refine gl_callVi (nA := 1) (mX11_flour l hlt D cA P.ad P.adF P.adW P.tt az _ (STG P) stg_E stg_X (nI ((m0) / 3)) sz 0 _ sz (e9)) G hP hD hS (g_good q4_13 q4_14 q4_15 q1_1 q4_16) (by decide +kernel) ⟨Nat.le_of_ble_eq_true rfl, Nat.le_of_ble_eq_true rfl, (Nat.le_trans (Nat.add_le_add_right hc9 6) (Nat.le_of_ble_eq_true rfl)), (Nat.le_trans (Nat.add_le_add_right hs9 36) (Nat.le_of_ble_eq_true rfl))⟩ (by decide) sc_209 rfl rfl hl.1 [] rfl (Nat.le_of_ble_eq_true rfl) dL_law_769 (fun h0 => absurd rfl h0) (fun _ H locs hP hD hS => ?_)
  refine W.widen (k := cells + 6) (n := slots + 36) (Nat.le_refl _) (Nat.le_refl _) ?_
  refine lv_iconst (v := nI 1) hx hb dL_law_772 (by decide) ?_
  refine lv_iload hx hb dL_law_773 (lv_at hl 0 rfl) ?_
  refine lv_iadd hx hb dL_law_775 ?_
  rw [nI_add 1 (2 - 2 * m0 / 10)]
  refine lv_icmp_ne (tgt := 851) hx hb dL_law_776 (by decide) (fun c9 => absurd (rfl) c9) (fun _ => ?_)
  refine lv_aload hx hb dL_law_779 (lv_at hl 6 rfl) ?_
  refine lv_iload hx hb dL_law_781 (lv_at hl 4 rfl) ?_
  refine lv_iconst (v := nI 3) hx hb dL_law_783 (by decide) ?_
  refine lv_idiv hx hb dL_law_784 (by decide) ?_
  rw [show nI (m0) / nI 3 = nI ((m0) / 3) from pk_div hm31 (by decide) (by decide)]
  have e9 := q_flourByRecords (m := 2000) (Nat.le_refl _) hKz (w := m0 / 3) hm3
  rw [hmf] at e9
  refine gl_callVi (nA := 1) (mX11_flourByRecords l hlt D cA P.ad P.adF P.adW P.tt az _ (STG P) stg_E stg_X 2000 (nI ((m0) / 3)) sz 0 _ sz (e9)) G hP hD hS (g_good q4_24 q4_25 q4_26 q1_1 q4_27) (by decide +kernel) ⟨Nat.le_of_ble_eq_true rfl, Nat.le_of_ble_eq_true rfl, (Nat.le_trans (Nat.add_le_add_right hc9 8) (Nat.le_of_ble_eq_true rfl)), (Nat.le_trans (Nat.add_le_add_right hs9 48) (Nat.le_of_ble_eq_true rfl))⟩ (by decide) sc_209 rfl rfl hl.1 [] rfl (Nat.le_of_ble_eq_true rfl) dL_law_785 (fun h0 => absurd rfl h0) (fun _ H locs hP hD hS => ?_)
  refine W.widen (k := cells + 8) (n := slots + 48) (Nat.le_refl _) (Nat.le_refl _) ?_
  refine lv_iconst (v := nI 1) hx hb dL_law_788 (by decide) ?_
  refine lv_iload hx hb dL_law_789 (lv_at hl 0 rfl) ?_
  refine lv_iadd hx hb dL_law_791 ?_
  rw [nI_add 1 (2 - 2 * m0 / 10)]
  refine lv_icmp_ne (tgt := 851) hx hb dL_law_792 (by decide) (fun c9 => absurd (rfl) c9) (fun _ => ?_)
  refine lv_aload hx hb dL_law_795 (lv_at hl 6 rfl) ?_
  refine lv_iconst (v := nI 0) hx hb dL_law_797 (by decide) ?_
  have e9 := q_wear hKz (w := 0) (by decide)
  rw [show z3.1 (10 + 0) = 5 from h10] at e9
  refine gl_callVi (nA := 1) (mX11_wear l hlt D cA P.ad P.adF P.adW P.tt az _ (STG P) stg_E stg_X (nI 0) sz 0 _ sz (e9)) G hP hD hS (g_good q3_235 q3_236 q3_237 q1_1 q3_238) (by decide +kernel) ⟨Nat.le_of_ble_eq_true rfl, Nat.le_of_ble_eq_true rfl, (Nat.le_trans (Nat.add_le_add_right hc9 10) (Nat.le_of_ble_eq_true rfl)), (Nat.le_trans (Nat.add_le_add_right hs9 60) (Nat.le_of_ble_eq_true rfl))⟩ (by decide) sc_209 rfl rfl hl.1 [] rfl (Nat.le_of_ble_eq_true rfl) dL_law_798 (fun h0 => absurd rfl h0) (fun _ H locs hP hD hS => ?_)
  refine W.widen (k := cells + 10) (n := slots + 60) (Nat.le_refl _) (Nat.le_refl _) ?_
  refine lv_iconst (v := nI 5) hx hb dL_law_801 (by decide) ?_
  refine lv_icmp_ne (tgt := 851) hx hb dL_law_802 (by decide) (fun c9 => absurd (rfl) c9) (fun _ => ?_)
  refine lv_aload hx hb dL_law_805 (lv_at hl 6 rfl) ?_
  refine lv_iconst (v := nI 1) hx hb dL_law_807 (by decide) ?_
  have e9 := q_wear hKz (w := 1) (by decide)
  rw [show z3.1 (10 + 1) = 1 from h11] at e9
  refine gl_callVi (nA := 1) (mX11_wear l hlt D cA P.ad P.adF P.adW P.tt az _ (STG P) stg_E stg_X (nI 1) sz 0 _ sz (e9)) G hP hD hS (g_good q3_235 q3_236 q3_237 q1_1 q3_238) (by decide +kernel) ⟨Nat.le_of_ble_eq_true rfl, Nat.le_of_ble_eq_true rfl, (Nat.le_trans (Nat.add_le_add_right hc9 12) (Nat.le_of_ble_eq_true rfl)), (Nat.le_trans (Nat.add_le_add_right hs9 72) (Nat.le_of_ble_eq_true rfl))⟩ (by decide) sc_209 rfl rfl hl.1 [] rfl (Nat.le_of_ble_eq_true rfl) dL_law_808 (fun h0 => absurd rfl h0) (fun _ H locs hP hD hS => ?_)
  refine W.widen (k := cells + 12) (n := slots + 72) (Nat.le_refl _) (Nat.le_refl _) ?_
  refine lv_iconst (v := nI 1) hx hb dL_law_811 (by decide) ?_
  refine lv_icmp_ne (tgt := 851) hx hb dL_law_812 (by decide) (fun c9 => absurd (rfl) c9) (fun _ => ?_)
  refine lv_aload hx hb dL_law_815 (lv_at hl 6 rfl) ?_
  refine lv_iconst (v := nI 2) hx hb dL_law_817 (by decide) ?_
  have e9 := q_wear hKz (w := 2) (by decide)
  rw [show z3.1 (10 + 2) = 1 from h12] at e9
  refine gl_callVi (nA := 1) (mX11_wear l hlt D cA P.ad P.adF P.adW P.tt az _ (STG P) stg_E stg_X (nI 2) sz 0 _ sz (e9)) G hP hD hS (g_good q3_235 q3_236 q3_237 q1_1 q3_238) (by decide +kernel) ⟨Nat.le_of_ble_eq_true rfl, Nat.le_of_ble_eq_true rfl, (Nat.le_trans (Nat.add_le_add_right hc9 14) (Nat.le_of_ble_eq_true rfl)), (Nat.le_trans (Nat.add_le_add_right hs9 84) (Nat.le_of_ble_eq_true rfl))⟩ (by decide) sc_209 rfl rfl hl.1 [] rfl (Nat.le_of_ble_eq_true rfl) dL_law_818 (fun h0 => absurd rfl h0) (fun _ H locs hP hD hS => ?_)
  refine W.widen (k := cells + 14) (n := slots + 84) (Nat.le_refl _) (Nat.le_refl _) ?_
  refine lv_iconst (v := nI 1) hx hb dL_law_821 (by decide) ?_
  refine lv_icmp_ne (tgt := 851) hx hb dL_law_822 (by decide) (fun c9 => absurd (rfl) c9) (fun _ => ?_)
  refine lv_aload hx hb dL_law_825 (lv_at hl 6 rfl) ?_
  obtain ⟨c9, r8, sz_a, e9, hc8, hr8, hKz⟩ := qs_done (by decide) hKz hZ3 h14 h11 h8
  refine c_callLi (nA := 1) ([] : va_W) (wc cA P.ad az (fz ++ (wc cA P.ad ax fx sx ++ (wc cA P.ad ay fy sy ++ ([] : va_W)))) sz) (mL_done l hlt D cA P.ad P.adF P.adW P.tt az _ (STG P) stg_E stg_X stg_N 2000 _ c9 r8 sz_a e9 hc8) G hP hD hS (List.Perm.refl _) (g_goodL q6_126 q6_127 q1_0 q6_128) (by decide +kernel) ⟨Nat.le_of_ble_eq_true rfl, Nat.le_of_ble_eq_true rfl, (Nat.le_trans (Nat.add_le_add_right hc9 16) (Nat.le_of_ble_eq_true rfl)), (Nat.le_trans (Nat.add_le_add_right hs9 96) (Nat.le_of_ble_eq_true rfl))⟩ rfl hl.1 [] rfl (Nat.le_of_ble_eq_true rfl) dL_law_827 (fun r9 b9 H locs hok hP hD hS => ?_)
  obtain ⟨hr9, hb9⟩ := hok
  rw [hb9] at hP hD
  have hr9 : r9 = (if c9 = 0 then r8 else -1) := hr9
  subst hr9
  have hP : va_P D vwCl (wc cA P.ad az (fz ++ (wc cA P.ad ax fx sx ++ (wc cA P.ad ay fy sy ++ ([] : va_W)))) sz_a) H := hP
  have hD : va_D A9 (wc cA P.ad az (fz ++ (wc cA P.ad ax fx sx ++ (wc cA P.ad ay fy sy ++ ([] : va_W)))) sz_a) := hD
  refine W.widen (k := cells + 16) (n := slots + 96) (Nat.le_refl _) (Nat.le_refl _) ?_
  rw [hr8]
  refine lv_iload hx hb dL_law_830 (lv_at hl 5 rfl) ?_
  refine lv_iconst (v := nI 2) hx hb dL_law_832 (by decide) ?_
  refine lv_isub hx hb dL_law_833 ?_
  rw [show nI a0 - nI 2 = nI (a0 - 2) from pk_sub h02]
  refine lv_iconst (v := 1) hx hb dL_law_834 (by decide) ?_
  refine lv_iconst (v := 1) hx hb dL_law_835 (by decide) ?_
  refine c_callSi (nA := 3) (wc cA P.ad az (fz ++ (wc cA P.ad ax fx sx ++ (wc cA P.ad ay fy sy ++ ([] : va_W)))) sz_a) ([] : va_W) (mL_steps l D cA (STG P) stg_E.1 (a0 - 2) hn1 hn60) G hP hD hS (List.Perm.of_eq (List.append_nil _).symm) (g_goodSX q6_123 q6_124 q1_0 q6_125) (by decide +kernel) ⟨Nat.le_of_ble_eq_true rfl, Nat.le_of_ble_eq_true rfl, (Nat.le_trans (Nat.add_le_add_right hc9 16) (Nat.le_of_ble_eq_true rfl)), (Nat.le_trans (Nat.add_le_add_right hs9 96) (Nat.le_of_ble_eq_true rfl))⟩ rfl hl.1 [.int (rtI (a0 - 2) 1 1)] rfl (Nat.le_of_ble_eq_true rfl) dL_law_836 (fun r9 _ H locs hok hP hD hS => ?_)
  rw [List.append_nil] at hP hD
  have hr9 : r9 = rtI (a0 - 2) 1 1 := (show r9 = _ from hok).trans (rt_st hn1).symm
  subst hr9
  have hP : va_P D vwCl (wc cA P.ad az (fz ++ (wc cA P.ad ax fx sx ++ (wc cA P.ad ay fy sy ++ ([] : va_W)))) sz_a) H := hP
  have hD : va_D A9 (wc cA P.ad az (fz ++ (wc cA P.ad ax fx sx ++ (wc cA P.ad ay fy sy ++ ([] : va_W)))) sz_a) := hD
  refine lv_icmp_ne (tgt := 851) hx hb dL_law_839 (by decide) (fun c9 => absurd (rfl) c9) (fun _ => ?_)
  refine lv_aload hx hb dL_law_842 (lv_at hl 6 rfl) ?_
  obtain ⟨sz_b, hKz, e9⟩ := qs_jamN (by decide) hKz (by simpa using hja)
  refine c_callLi (nA := 1) ([] : va_W) (wc cA P.ad az (fz ++ (wc cA P.ad ax fx sx ++ (wc cA P.ad ay fy sy ++ ([] : va_W)))) sz_a) (mL_jam l hlt D cA P.ad P.adF P.adW P.tt az _ (STG P) stg_E stg_X stg_N 2000 _ 3 0 sz_b e9 (Or.inr rfl)) G hP hD hS (List.Perm.refl _) (g_goodL q6_133 q6_134 q1_0 q6_135) (by decide +kernel) ⟨Nat.le_of_ble_eq_true rfl, Nat.le_of_ble_eq_true rfl, (Nat.le_trans (Nat.add_le_add_right hc9 18) (Nat.le_of_ble_eq_true rfl)), (Nat.le_trans (Nat.add_le_add_right hs9 108) (Nat.le_of_ble_eq_true rfl))⟩ rfl hl.1 [] rfl (Nat.le_of_ble_eq_true rfl) dL_law_844 (fun r9 b9 H locs hok hP hD hS => ?_)
  obtain ⟨hr9, hb9⟩ := hok
  rw [hb9] at hP hD
  have hr9 : r9 = (-1) := hr9
  subst hr9
  have hP : va_P D vwCl (wc cA P.ad az (fz ++ (wc cA P.ad ax fx sx ++ (wc cA P.ad ay fy sy ++ ([] : va_W)))) sz_b) H := hP
  have hD : va_D A9 (wc cA P.ad az (fz ++ (wc cA P.ad ax fx sx ++ (wc cA P.ad ay fy sy ++ ([] : va_W)))) sz_b) := hD
  refine W.widen (k := cells + 18) (n := slots + 108) (Nat.le_refl _) (Nat.le_refl _) ?_
  refine lv_iconst (v := (-1)) hx hb dL_law_847 (by decide) ?_
  refine lv_icmp_eq (tgt := 853) hx hb dL_law_848 (by decide) (fun _ => ?_) (fun c9 => absurd (rfl) c9)
  rw [← hE3] at hKz
  exact law_853 hlt G hL hEnd hm0 ha1 ha2 hKx hKz hP hD hS (Nat.le_trans (Nat.add_le_add_right hc9 18) (Nat.le_of_ble_eq_true rfl)) (Nat.le_trans (Nat.add_le_add_right hs9 108) (Nat.le_of_ble_eq_true rfl)) (lv_sub hl [1, 2, 3, 5, 6] rfl)
end LW2
