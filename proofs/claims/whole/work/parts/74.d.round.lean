-- ===== the rounds of the law's loop =====
section C74
variable {p : Program} {l : Launch} {e : Env} {s : State} {m : MethodId} {args : Array Value} {below : List Frame} {meth : Method} {c : Code} {H : Heap} {locs : List Loc} {cells slots : Nat} {Q : State → Prop}
variable {ls : Array Slot} {D : va_G} {A : Nat → Prop} {cA : Nat → ClassId} {ad adF adW tt a : Nat → Nat} {ao ao2 : Nat} {ad2 a2 : Nat → Nat} {bb L : Nat} {xs : Nat → Int32}
variable {C : Nat} {b : SBb} {g : Nat → Int64} {gd : Nat → UInt64} {σ s' : St} {T : List Nat}
set_option maxHeartbeats 4000000 in
set_option maxRecDepth 100000 in
theorem lawc_50 (K : LC p l s m args meth c D A cA ad adF adW tt bb L xs) (hC : C < 512) (hi : 4 * C + 4 ≤ L) (Nx : LGo p l e s m args below meth c Q D A cA ad a ao ao2 ad2 a2 bb (C + 1)) (hG : GG σ s' C T) (hB : SBT T b) (hP : va_P D vwCl (LW cA ad a ao g T.length b ao2 gd ad2 a2 σ s') H) (hD : va_D A (LW cA ad a ao g T.length b ao2 gd ad2 a2 σ s')) (hS : va_S A s.heap H locs) (hc1 : cells ≤ 254 + 70 * C) (hc2 : slots ≤ 4842 + 680 * C) (hl : lv_has ls 9 (LL bb (a 209) (a2 0) ao ao2 (nI (4 * C)))) : W p l e room_1 s m args below meth c H locs cells slots Q (F0 m 2743 ls []) := by
  have hx := K.1.1
  have hb := K.1.2.1
  obtain ⟨c1, r, σ1, r', s2, e1, e2, hc, h13, hr, hG2⟩ := ca_outputAt hG (xs (4 * C + 1))
  refine lv_aload_n hx hb dL_law_2743 rfl (lv_at hl 2 rfl) ?_
  refine la_ld (j := 1) (n := 1) K hS (lv_at hl 1 rfl) (lv_at hl 0 rfl) hi (by decide) rfl dL_law_2744 dL_law_2745 dL_law_2747 dL_law_2748 dL_law_2749 ?_
  refine lv_aload_n hx hb dL_law_2750 rfl (lv_at hl 4 rfl) ?_
  refine la_wr (nA := 3) (As := [.ref (a 209), .int ((xs (4 * C + 1))), .ref ao]) K hC (mL_outputAt l K.2.1 D cA ad adF adW tt a _ _ stg_E stg_X stg_N stg_W stg_P stg_D T b hB ((xs (4 * C + 1))) σ c1 r σ1 ao g e1 (by simpa using hc)) hP hD hS q7_2 q7_3 q1_0 q7_4 (by decide +kernel) (by decide) hc1 hc2 rfl rfl hl dL_law_2751 dL_law_2754 (fun H locs ls hP hD hS hl => ?_)
  refine lv_aload_n hx hb dL_law_2756 rfl (lv_at hl 4 rfl) ?_
  refine la_ld (j := 1) (n := 1) K hS (lv_at hl 2 rfl) (lv_at hl 1 rfl) hi (by decide) rfl dL_law_2757 dL_law_2758 dL_law_2760 dL_law_2761 dL_law_2762 ?_
  refine la_mi (nA := 1) (As := [.int ((xs (4 * C + 1)))]) K (mX12_outputAt l D cA ad2 a2 [] ((xs (4 * C + 1))) s' r' s2 e2) hP hD hS q9_96 q9_97 q9_98 q1_16 q9_99 (by decide +kernel) (by decide) (by omega) (by omega) rfl hl.1 [] rfl (Nat.le_of_ble_eq_true rfl) dL_law_2763 (fun H locs hP hD hS => ?_)
  refine lv_istore (lv' := (7, .int r') :: (6, .int (hix [2] c1)) :: LL bb (a 209) (a2 0) ao ao2 (nI (4 * C))) hx hb dL_law_2766 hl (by decide) rfl (fun ls hl => ?_)
  exact la_tail K hC Nx hG2 hB h13 (la_fin (by decide) hc hr) hP hD hS (by omega) (by omega) hl dL_law_2768 dL_law_2769 dL_law_2772 dL_law_2774 dL_law_2779 dL_law_2781 dL_law_2784 dL_law_2785 dL_law_2786 dL_law_2787 dL_law_2789 dL_law_2790 dL_law_2791 dL_law_2796 (by decide)
set_option maxHeartbeats 4000000 in
set_option maxRecDepth 100000 in
theorem lawc_51 (K : LC p l s m args meth c D A cA ad adF adW tt bb L xs) (hC : C < 512) (hi : 4 * C + 4 ≤ L) (Nx : LGo p l e s m args below meth c Q D A cA ad a ao ao2 ad2 a2 bb (C + 1)) (hG : GG σ s' C T) (hB : SBT T b) (hP : va_P D vwCl (LW cA ad a ao g T.length b ao2 gd ad2 a2 σ s') H) (hD : va_D A (LW cA ad a ao g T.length b ao2 gd ad2 a2 σ s')) (hS : va_S A s.heap H locs) (hc1 : cells ≤ 254 + 70 * C) (hc2 : slots ≤ 4842 + 680 * C) (hl : lv_has ls 9 (LL bb (a 209) (a2 0) ao ao2 (nI (4 * C)))) : W p l e room_1 s m args below meth c H locs cells slots Q (F0 m 2799 ls []) := by
  have hx := K.1.1
  have hb := K.1.2.1
  obtain ⟨c1, r, σ1, r', s2, e1, e2, hc, h13, hr, hG2⟩ := ca_type hC hG (((xs (4 * C + 1)).toUInt32 % 65536).toInt32)
  refine lv_aload_n hx hb dL_law_2799 rfl (lv_at hl 2 rfl) ?_
  refine la_ld (j := 1) (n := 1) K hS (lv_at hl 1 rfl) (lv_at hl 0 rfl) hi (by decide) rfl dL_law_2800 dL_law_2801 dL_law_2803 dL_law_2804 dL_law_2805 ?_
  refine lv_i2c (v := ((xs (4 * C + 1)).toUInt32 % 65536).toInt32) hx hb dL_law_2806 rfl ?_
  refine lv_aload_n hx hb dL_law_2807 rfl (lv_at hl 4 rfl) ?_
  refine la_wr (nA := 3) (As := [.ref (a 209), .int (((xs (4 * C + 1)).toUInt32 % 65536).toInt32), .ref ao]) K hC (mL_type l K.2.1 D cA ad adF adW tt a _ _ stg_E stg_X stg_N (((xs (4 * C + 1)).toUInt32 % 65536).toInt32) σ c1 r σ1 ao g e1 (by simpa using hc)) hP hD hS q7_20 q7_21 q1_0 q7_22 (by decide +kernel) (by decide) hc1 hc2 rfl rfl hl dL_law_2808 dL_law_2811 (fun H locs ls hP hD hS hl => ?_)
  refine lv_aload_n hx hb dL_law_2813 rfl (lv_at hl 4 rfl) ?_
  refine la_ld (j := 1) (n := 1) K hS (lv_at hl 2 rfl) (lv_at hl 1 rfl) hi (by decide) rfl dL_law_2814 dL_law_2815 dL_law_2817 dL_law_2818 dL_law_2819 ?_
  refine lv_i2c (v := ((xs (4 * C + 1)).toUInt32 % 65536).toInt32) hx hb dL_law_2820 rfl ?_
  refine la_mi (nA := 1) (As := [.int (((xs (4 * C + 1)).toUInt32 % 65536).toInt32)]) K (mX12_type l D cA ad2 a2 [] (((xs (4 * C + 1)).toUInt32 % 65536).toInt32) s' r' s2 e2) hP hD hS q9_100 q9_101 q9_102 q1_16 q9_103 (by decide +kernel) (by decide) (by omega) (by omega) rfl hl.1 [] rfl (Nat.le_of_ble_eq_true rfl) dL_law_2821 (fun H locs hP hD hS => ?_)
  refine lv_istore (lv' := (7, .int r') :: (6, .int (hix [1, 4] c1)) :: LL bb (a 209) (a2 0) ao ao2 (nI (4 * C))) hx hb dL_law_2824 hl (by decide) rfl (fun ls hl => ?_)
  exact la_tail K hC Nx hG2 hB h13 (la_fin (by decide) hc hr) hP hD hS (by omega) (by omega) hl dL_law_2826 dL_law_2827 dL_law_2830 dL_law_2832 dL_law_2837 dL_law_2839 dL_law_2842 dL_law_2843 dL_law_2844 dL_law_2845 dL_law_2847 dL_law_2848 dL_law_2849 dL_law_2854 (by decide)
set_option maxHeartbeats 4000000 in
set_option maxRecDepth 100000 in
theorem lawc_52 (K : LC p l s m args meth c D A cA ad adF adW tt bb L xs) (hC : C < 512) (hi : 4 * C + 4 ≤ L) (Nx : LGo p l e s m args below meth c Q D A cA ad a ao ao2 ad2 a2 bb (C + 1)) (hG : GG σ s' C T) (hB : SBT T b) (hP : va_P D vwCl (LW cA ad a ao g T.length b ao2 gd ad2 a2 σ s') H) (hD : va_D A (LW cA ad a ao g T.length b ao2 gd ad2 a2 σ s')) (hS : va_S A s.heap H locs) (hc1 : cells ≤ 254 + 70 * C) (hc2 : slots ≤ 4842 + 680 * C) (hl : lv_has ls 9 (LL bb (a 209) (a2 0) ao ao2 (nI (4 * C)))) : W p l e room_1 s m args below meth c H locs cells slots Q (F0 m 2857 ls []) := by
  have hx := K.1.1
  have hb := K.1.2.1
  obtain ⟨c1, r, σ1, r', s2, e1, e2, hc, h13, hr, hG2⟩ := ca_runScript (m := 2000) (Nat.le_refl 2000) hC hG
  refine lv_aload_n hx hb dL_law_2857 rfl (lv_at hl 2 rfl) ?_
  refine lv_aload_n hx hb dL_law_2858 rfl (lv_at hl 4 rfl) ?_
  refine la_wr (nA := 2) (As := [.ref (a 209), .ref ao]) K hC (mL_runScript l K.2.1 D cA ad adF adW tt a _ _ stg_E stg_X stg_N stg_W 2000 σ c1 r σ1 ao g e1 (by simpa using hc)) hP hD hS q7_38 q7_39 q1_0 q7_40 (by decide +kernel) (by decide) hc1 hc2 rfl rfl hl dL_law_2859 dL_law_2862 (fun H locs ls hP hD hS hl => ?_)
  refine lv_aload_n hx hb dL_law_2864 rfl (lv_at hl 4 rfl) ?_
  refine la_mi (nA := 0) (As := []) K (mX12_runScript l D cA ad2 a2 [] 2000 s' r' s2 e2) hP hD hS q9_104 q9_105 q9_106 q1_16 q9_107 (by decide +kernel) (by decide) (by omega) (by omega) rfl hl.1 [] rfl (Nat.le_of_ble_eq_true rfl) dL_law_2865 (fun H locs hP hD hS => ?_)
  refine lv_istore (lv' := (7, .int r') :: (6, .int (hix [1, 4] c1)) :: LL bb (a 209) (a2 0) ao ao2 (nI (4 * C))) hx hb dL_law_2868 hl (by decide) rfl (fun ls hl => ?_)
  exact la_tail K hC Nx hG2 hB h13 (la_fin (by decide) hc hr) hP hD hS (by omega) (by omega) hl dL_law_2870 dL_law_2871 dL_law_2874 dL_law_2876 dL_law_2881 dL_law_2883 dL_law_2886 dL_law_2887 dL_law_2888 dL_law_2889 dL_law_2891 dL_law_2892 dL_law_2893 dL_law_2898 (by decide)
set_option maxHeartbeats 4000000 in
set_option maxRecDepth 100000 in
theorem lawc_53 (K : LC p l s m args meth c D A cA ad adF adW tt bb L xs) (hC : C < 512) (hi : 4 * C + 4 ≤ L) (Nx : LGo p l e s m args below meth c Q D A cA ad a ao ao2 ad2 a2 bb (C + 1)) (hG : GG σ s' C T) (hB : SBT T b) (hP : va_P D vwCl (LW cA ad a ao g T.length b ao2 gd ad2 a2 σ s') H) (hD : va_D A (LW cA ad a ao g T.length b ao2 gd ad2 a2 σ s')) (hS : va_S A s.heap H locs) (hc1 : cells ≤ 254 + 70 * C) (hc2 : slots ≤ 4842 + 680 * C) (hl : lv_has ls 9 (LL bb (a 209) (a2 0) ao ao2 (nI (4 * C)))) : W p l e room_1 s m args below meth c H locs cells slots Q (F0 m 2901 ls []) := by
  have hx := K.1.1
  have hb := K.1.2.1
  obtain ⟨c1, r, σ1, r', s2, e1, e2, hc, h13, hr, hG2⟩ := ca_errorPosition hG
  refine lv_aload_n hx hb dL_law_2901 rfl (lv_at hl 2 rfl) ?_
  refine lv_aload_n hx hb dL_law_2902 rfl (lv_at hl 4 rfl) ?_
  refine la_wr (nA := 2) (As := [.ref (a 209), .ref ao]) K hC (mL_errorPosition l K.2.1 D cA ad adF adW tt a _ _ stg_E stg_X stg_N σ c1 r σ1 ao g e1 (by simpa using hc)) hP hD hS q7_118 q7_119 q1_0 q7_120 (by decide +kernel) (by decide) hc1 hc2 rfl rfl hl dL_law_2903 dL_law_2906 (fun H locs ls hP hD hS hl => ?_)
  refine lv_aload_n hx hb dL_law_2908 rfl (lv_at hl 4 rfl) ?_
  refine la_mi (nA := 0) (As := []) K (mX12_errorPosition l D cA ad2 a2 [] s' r' s2 e2) hP hD hS q9_136 q9_137 q9_138 q1_16 q9_139 (by decide +kernel) (by decide) (by omega) (by omega) rfl hl.1 [] rfl (Nat.le_of_ble_eq_true rfl) dL_law_2909 (fun H locs hP hD hS => ?_)
  refine lv_istore (lv' := (7, .int r') :: (6, .int (hix [3] c1)) :: LL bb (a 209) (a2 0) ao ao2 (nI (4 * C))) hx hb dL_law_2912 hl (by decide) rfl (fun ls hl => ?_)
  exact la_tail K hC Nx hG2 hB h13 (la_fin (by decide) hc hr) hP hD hS (by omega) (by omega) hl dL_law_2914 dL_law_2915 dL_law_2918 dL_law_2920 dL_law_2925 dL_law_2927 dL_law_2930 dL_law_2931 dL_law_2932 dL_law_2933 dL_law_2935 dL_law_2936 dL_law_2937 dL_law_2942 (by decide)
set_option maxHeartbeats 4000000 in
set_option maxRecDepth 100000 in
theorem lawc_54 (K : LC p l s m args meth c D A cA ad adF adW tt bb L xs) (hC : C < 512) (hi : 4 * C + 4 ≤ L) (Nx : LGo p l e s m args below meth c Q D A cA ad a ao ao2 ad2 a2 bb (C + 1)) (hG : GG σ s' C T) (hB : SBT T b) (hP : va_P D vwCl (LW cA ad a ao g T.length b ao2 gd ad2 a2 σ s') H) (hD : va_D A (LW cA ad a ao g T.length b ao2 gd ad2 a2 σ s')) (hS : va_S A s.heap H locs) (hc1 : cells ≤ 254 + 70 * C) (hc2 : slots ≤ 4842 + 680 * C) (hl : lv_has ls 9 (LL bb (a 209) (a2 0) ao ao2 (nI (4 * C)))) : W p l e room_1 s m args below meth c H locs cells slots Q (F0 m 2945 ls []) := by
  have hx := K.1.1
  have hb := K.1.2.1
  obtain ⟨c1, r, σ1, r', s2, e1, e2, hc, h13, hr, hG2⟩ := ca_failedCommand hG
  refine lv_aload_n hx hb dL_law_2945 rfl (lv_at hl 2 rfl) ?_
  refine lv_aload_n hx hb dL_law_2946 rfl (lv_at hl 4 rfl) ?_
  refine la_wr (nA := 2) (As := [.ref (a 209), .ref ao]) K hC (mL_failedCommand l K.2.1 D cA ad adF adW tt a _ _ stg_E stg_X stg_N σ c1 r σ1 ao g e1 (by simpa using hc)) hP hD hS q7_126 q7_127 q1_0 q7_128 (by decide +kernel) (by decide) hc1 hc2 rfl rfl hl dL_law_2947 dL_law_2950 (fun H locs ls hP hD hS hl => ?_)
  refine lv_aload_n hx hb dL_law_2952 rfl (lv_at hl 4 rfl) ?_
  refine la_mi (nA := 0) (As := []) K (mX12_failedCommand l D cA ad2 a2 [] s' r' s2 e2) hP hD hS q9_140 q9_141 q9_142 q1_16 q9_143 (by decide +kernel) (by decide) (by omega) (by omega) rfl hl.1 [] rfl (Nat.le_of_ble_eq_true rfl) dL_law_2953 (fun H locs hP hD hS => ?_)
  refine lv_istore (lv' := (7, .int r') :: (6, .int (hix [3] c1)) :: LL bb (a 209) (a2 0) ao ao2 (nI (4 * C))) hx hb dL_law_2956 hl (by decide) rfl (fun ls hl => ?_)
  exact la_tail K hC Nx hG2 hB h13 (la_fin (by decide) hc hr) hP hD hS (by omega) (by omega) hl dL_law_2958 dL_law_2959 dL_law_2962 dL_law_2964 dL_law_2969 dL_law_2971 dL_law_2974 dL_law_2975 dL_law_2976 dL_law_2977 dL_law_2979 dL_law_2980 dL_law_2981 dL_law_2986 (by decide)
set_option maxHeartbeats 4000000 in
set_option maxRecDepth 100000 in
theorem lawc_55 (K : LC p l s m args meth c D A cA ad adF adW tt bb L xs) (hC : C < 512) (hi : 4 * C + 4 ≤ L) (Nx : LGo p l e s m args below meth c Q D A cA ad a ao ao2 ad2 a2 bb (C + 1)) (hG : GG σ s' C T) (hB : SBT T b) (hP : va_P D vwCl (LW cA ad a ao g T.length b ao2 gd ad2 a2 σ s') H) (hD : va_D A (LW cA ad a ao g T.length b ao2 gd ad2 a2 σ s')) (hS : va_S A s.heap H locs) (hc1 : cells ≤ 254 + 70 * C) (hc2 : slots ≤ 4842 + 680 * C) (hl : lv_has ls 9 (LL bb (a 209) (a2 0) ao ao2 (nI (4 * C)))) : W p l e room_1 s m args below meth c H locs cells slots Q (F0 m 2989 ls []) := by
  have hx := K.1.1
  have hb := K.1.2.1
  obtain ⟨c1, r, σ1, r', s2, e1, e2, hc, h13, hr, hG2⟩ := ca_undo (m := 2000) (Nat.le_refl 2000) hC hG
  refine lv_aload_n hx hb dL_law_2989 rfl (lv_at hl 2 rfl) ?_
  refine lv_aload_n hx hb dL_law_2990 rfl (lv_at hl 4 rfl) ?_
  refine la_wr (nA := 2) (As := [.ref (a 209), .ref ao]) K hC (mL_undo l K.2.1 D cA ad adF adW tt a _ _ stg_E stg_X stg_N 2000 σ c1 r σ1 ao g e1 (by simpa using hc)) hP hD hS q7_133 q7_134 q1_0 q7_135 (by decide +kernel) (by decide) hc1 hc2 rfl rfl hl dL_law_2991 dL_law_2994 (fun H locs ls hP hD hS hl => ?_)
  refine lv_aload_n hx hb dL_law_2996 rfl (lv_at hl 4 rfl) ?_
  refine la_mi (nA := 0) (As := []) K (mX12_undo l D cA ad2 a2 [] 2000 s' r' s2 e2) hP hD hS q9_144 q9_145 q9_146 q1_16 q9_147 (by decide +kernel) (by decide) (by omega) (by omega) rfl hl.1 [] rfl (Nat.le_of_ble_eq_true rfl) dL_law_2997 (fun H locs hP hD hS => ?_)
  refine lv_istore (lv' := (7, .int r') :: (6, .int (hix [4] c1)) :: LL bb (a 209) (a2 0) ao ao2 (nI (4 * C))) hx hb dL_law_3000 hl (by decide) rfl (fun ls hl => ?_)
  exact la_tail K hC Nx hG2 hB h13 (la_fin (by decide) hc hr) hP hD hS (by omega) (by omega) hl dL_law_3002 dL_law_3003 dL_law_3006 dL_law_3008 dL_law_3013 dL_law_3015 dL_law_3018 dL_law_3019 dL_law_3020 dL_law_3021 dL_law_3023 dL_law_3024 dL_law_3025 dL_law_3030 (by decide)
set_option maxHeartbeats 4000000 in
set_option maxRecDepth 100000 in
theorem lawc_56 (K : LC p l s m args meth c D A cA ad adF adW tt bb L xs) (hC : C < 512) (hi : 4 * C + 4 ≤ L) (Nx : LGo p l e s m args below meth c Q D A cA ad a ao ao2 ad2 a2 bb (C + 1)) (hG : GG σ s' C T) (hB : SBT T b) (hP : va_P D vwCl (LW cA ad a ao g T.length b ao2 gd ad2 a2 σ s') H) (hD : va_D A (LW cA ad a ao g T.length b ao2 gd ad2 a2 σ s')) (hS : va_S A s.heap H locs) (hc1 : cells ≤ 254 + 70 * C) (hc2 : slots ≤ 4842 + 680 * C) (hl : lv_has ls 9 (LL bb (a 209) (a2 0) ao ao2 (nI (4 * C)))) : W p l e room_1 s m args below meth c H locs cells slots Q (F0 m 3033 ls []) := by
  have hx := K.1.1
  have hb := K.1.2.1
  obtain ⟨r, σ1, s2, e1, e2, hG2⟩ := ca_save (m := 2000) (Nat.le_refl 2000) hC hG
  refine lv_aload_n hx hb dL_law_3033 rfl (lv_at hl 2 rfl) ?_
  refine la_x (nA := 0) (As := []) K (mX11_save l D cA ad adF adW tt a _ _ stg_E 2000 σ r σ1 e1) hP hD hS q4_164 q4_165 q4_166 q1_1 q4_167 (by decide +kernel) (by decide) (by omega) (by omega) rfl hl.1 [] rfl (Nat.le_of_ble_eq_true rfl) dL_law_3034 (fun H locs hP hD hS => ?_)
  refine lv_aload_n hx hb dL_law_3037 rfl (lv_at hl 3 rfl) ?_
  refine la_mi (nA := 0) (As := []) K (mX12_save l D cA ad2 a2 [] 2000 s' r s2 e2) hP hD hS q9_148 q9_149 q9_150 q1_16 q9_151 (by decide +kernel) (by decide) (by omega) (by omega) rfl hl.1 [.int r] rfl (Nat.le_of_ble_eq_true rfl) dL_law_3038 (fun H locs hP hD hS => ?_)
  refine lv_icmp_eq (tgt := 3090) hx hb dL_law_3041 (by decide) (fun _ => ?_) (fun h => absurd rfl h)
  exact la_end K Nx hG2 hB hP hD hS (by omega) (by omega) hl
set_option maxHeartbeats 4000000 in
set_option maxRecDepth 100000 in
theorem lawc_57 (K : LC p l s m args meth c D A cA ad adF adW tt bb L xs) (hC : C < 512) (hi : 4 * C + 4 ≤ L) (Nx : LGo p l e s m args below meth c Q D A cA ad a ao ao2 ad2 a2 bb (C + 1)) (hG : GG σ s' C T) (hB : SBT T b) (hP : va_P D vwCl (LW cA ad a ao g T.length b ao2 gd ad2 a2 σ s') H) (hD : va_D A (LW cA ad a ao g T.length b ao2 gd ad2 a2 σ s')) (hS : va_S A s.heap H locs) (hc1 : cells ≤ 254 + 70 * C) (hc2 : slots ≤ 4842 + 680 * C) (hl : lv_has ls 9 (LL bb (a 209) (a2 0) ao ao2 (nI (4 * C)))) : W p l e room_1 s m args below meth c H locs cells slots Q (F0 m 3046 ls []) := by
  have hx := K.1.1
  have hb := K.1.2.1
  obtain ⟨c1, r, σ1, r', s2, e1, e2, hc, h13, hr, hG2⟩ := ca_restore (m := 2000) (Nat.le_refl 2000) hC hG
  refine lv_aload_n hx hb dL_law_3046 rfl (lv_at hl 2 rfl) ?_
  refine lv_aload_n hx hb dL_law_3047 rfl (lv_at hl 4 rfl) ?_
  refine la_wr (nA := 2) (As := [.ref (a 209), .ref ao]) K hC (mL_restore l K.2.1 D cA ad adF adW tt a _ _ stg_E stg_X stg_N 2000 σ c1 r σ1 ao g e1 (by simpa using hc)) hP hD hS q7_145 q7_146 q1_0 q7_147 (by decide +kernel) (by decide) hc1 hc2 rfl rfl hl dL_law_3048 dL_law_3051 (fun H locs ls hP hD hS hl => ?_)
  refine lv_aload_n hx hb dL_law_3053 rfl (lv_at hl 4 rfl) ?_
  refine la_mi (nA := 0) (As := []) K (mX12_restore l D cA ad2 a2 [] 2000 s' r' s2 e2) hP hD hS q9_152 q9_153 q9_154 q1_16 q9_155 (by decide +kernel) (by decide) (by omega) (by omega) rfl hl.1 [] rfl (Nat.le_of_ble_eq_true rfl) dL_law_3054 (fun H locs hP hD hS => ?_)
  refine lv_istore (lv' := (7, .int r') :: (6, .int (hix [4] c1)) :: LL bb (a 209) (a2 0) ao ao2 (nI (4 * C))) hx hb dL_law_3057 hl (by decide) rfl (fun ls hl => ?_)
  exact la_tail K hC Nx hG2 hB h13 (la_fin (by decide) hc hr) hP hD hS (by omega) (by omega) hl dL_law_3059 dL_law_3060 dL_law_3063 dL_law_3065 dL_law_3070 dL_law_3072 dL_law_3075 dL_law_3076 dL_law_3077 dL_law_3078 dL_law_3080 dL_law_3081 dL_law_3082 dL_law_3087 (by decide)
end C74
