-- ===== the rounds of the law's loop =====
section C74
variable {p : Program} {l : Launch} {e : Env} {s : State} {m : MethodId} {args : Array Value} {below : List Frame} {meth : Method} {c : Code} {H : Heap} {locs : List Loc} {cells slots : Nat} {Q : State → Prop}
variable {ls : Array Slot} {D : va_G} {A : Nat → Prop} {cA : Nat → ClassId} {ad adF adW tt a : Nat → Nat} {ao ao2 : Nat} {ad2 a2 : Nat → Nat} {bb L : Nat} {xs : Nat → Int32}
variable {C : Nat} {b : SBb} {g : Nat → Int64} {gd : Nat → UInt64} {σ s' : St} {T : List Nat}
set_option maxHeartbeats 4000000 in
set_option maxRecDepth 100000 in
theorem lawc_32 (K : LC p l s m args meth c D A cA ad adF adW tt bb L xs) (hC : C < 512) (hi : 4 * C + 4 ≤ L) (Nx : LGo p l e s m args below meth c Q D A cA ad a ao ao2 ad2 a2 bb (C + 1)) (hG : GG σ s' C T) (hB : SBT T b) (hP : va_P D vwCl (LW cA ad a ao g T.length b ao2 gd ad2 a2 σ s') H) (hD : va_D A (LW cA ad a ao g T.length b ao2 gd ad2 a2 σ s')) (hS : va_S A s.heap H locs) (hc1 : cells ≤ 254 + 70 * C) (hc2 : slots ≤ 4842 + 680 * C) (hl : lv_has ls 9 (LL bb (a 209) (a2 0) ao ao2 (nI (4 * C)))) : W p l e room_1 s m args below meth c H locs cells slots Q (F0 m 1974 ls []) := by
  have hx := K.1.1
  have hb := K.1.2.1
  obtain ⟨r, σ1, s2, e1, e2, hG2⟩ := ca_groundByParts (m := 2000) (Nat.le_refl 2000) hG
  refine lv_aload_n hx hb dL_law_1974 rfl (lv_at hl 2 rfl) ?_
  refine la_x (nA := 0) (As := []) K (mX11_groundByParts l D cA ad adF adW tt a _ _ stg_E 2000 σ r σ1 e1) hP hD hS q2_112 q2_113 q2_114 q1_1 q2_115 (by decide +kernel) (by decide) (by omega) (by omega) rfl hl.1 [] rfl (Nat.le_of_ble_eq_true rfl) dL_law_1975 (fun H locs hP hD hS => ?_)
  refine lv_aload_n hx hb dL_law_1978 rfl (lv_at hl 3 rfl) ?_
  refine la_mi (nA := 0) (As := []) K (mX12_groundByParts l D cA ad2 a2 [] s' r s2 e2) hP hD hS q8_235 q8_236 q8_237 q1_16 q8_238 (by decide +kernel) (by decide) (by omega) (by omega) rfl hl.1 [.int r] rfl (Nat.le_of_ble_eq_true rfl) dL_law_1979 (fun H locs hP hD hS => ?_)
  refine lv_icmp_eq (tgt := 3090) hx hb dL_law_1982 (by decide) (fun _ => ?_) (fun h => absurd rfl h)
  exact la_end K Nx hG2 hB hP hD hS (by omega) (by omega) hl
set_option maxHeartbeats 4000000 in
set_option maxRecDepth 100000 in
theorem lawc_33 (K : LC p l s m args meth c D A cA ad adF adW tt bb L xs) (hC : C < 512) (hi : 4 * C + 4 ≤ L) (Nx : LGo p l e s m args below meth c Q D A cA ad a ao ao2 ad2 a2 bb (C + 1)) (hG : GG σ s' C T) (hB : SBT T b) (hP : va_P D vwCl (LW cA ad a ao g T.length b ao2 gd ad2 a2 σ s') H) (hD : va_D A (LW cA ad a ao g T.length b ao2 gd ad2 a2 σ s')) (hS : va_S A s.heap H locs) (hc1 : cells ≤ 254 + 70 * C) (hc2 : slots ≤ 4842 + 680 * C) (hl : lv_has ls 9 (LL bb (a 209) (a2 0) ao ao2 (nI (4 * C)))) : W p l e room_1 s m args below meth c H locs cells slots Q (F0 m 1987 ls []) := by
  have hx := K.1.1
  have hb := K.1.2.1
  obtain ⟨r, σ1, s2, e1, e2, hG2⟩ := ca_lostInSieves hG
  refine lv_aload_n hx hb dL_law_1987 rfl (lv_at hl 2 rfl) ?_
  refine la_x (nA := 0) (As := []) K (mX11_lostInSieves l D cA ad adF adW tt a _ _ stg_E σ r σ1 e1) hP hD hS q2_124 q2_125 q2_126 q1_1 q2_127 (by decide +kernel) (by decide) (by omega) (by omega) rfl hl.1 [] rfl (Nat.le_of_ble_eq_true rfl) dL_law_1988 (fun H locs hP hD hS => ?_)
  refine lv_aload_n hx hb dL_law_1991 rfl (lv_at hl 3 rfl) ?_
  refine la_mi (nA := 0) (As := []) K (mX12_lostInSieves l D cA ad2 a2 [] s' r s2 e2) hP hD hS q8_239 q9_0 q9_1 q1_16 q9_2 (by decide +kernel) (by decide) (by omega) (by omega) rfl hl.1 [.int r] rfl (Nat.le_of_ble_eq_true rfl) dL_law_1992 (fun H locs hP hD hS => ?_)
  refine lv_icmp_eq (tgt := 3090) hx hb dL_law_1995 (by decide) (fun _ => ?_) (fun h => absurd rfl h)
  exact la_end K Nx hG2 hB hP hD hS (by omega) (by omega) hl
set_option maxHeartbeats 4000000 in
set_option maxRecDepth 100000 in
theorem lawc_34 (K : LC p l s m args meth c D A cA ad adF adW tt bb L xs) (hC : C < 512) (hi : 4 * C + 4 ≤ L) (Nx : LGo p l e s m args below meth c Q D A cA ad a ao ao2 ad2 a2 bb (C + 1)) (hG : GG σ s' C T) (hB : SBT T b) (hP : va_P D vwCl (LW cA ad a ao g T.length b ao2 gd ad2 a2 σ s') H) (hD : va_D A (LW cA ad a ao g T.length b ao2 gd ad2 a2 σ s')) (hS : va_S A s.heap H locs) (hc1 : cells ≤ 254 + 70 * C) (hc2 : slots ≤ 4842 + 680 * C) (hl : lv_has ls 9 (LL bb (a 209) (a2 0) ao ao2 (nI (4 * C)))) : W p l e room_1 s m args below meth c H locs cells slots Q (F0 m 2000 ls []) := by
  have hx := K.1.1
  have hb := K.1.2.1
  obtain ⟨r, σ1, s2, e1, e2, hG2⟩ := ca_lostForRoom hG
  refine lv_aload_n hx hb dL_law_2000 rfl (lv_at hl 2 rfl) ?_
  refine la_x (nA := 0) (As := []) K (mX11_lostForRoom l D cA ad adF adW tt a _ _ stg_E σ r σ1 e1) hP hD hS q2_128 q2_129 q2_130 q1_1 q2_131 (by decide +kernel) (by decide) (by omega) (by omega) rfl hl.1 [] rfl (Nat.le_of_ble_eq_true rfl) dL_law_2001 (fun H locs hP hD hS => ?_)
  refine lv_aload_n hx hb dL_law_2004 rfl (lv_at hl 3 rfl) ?_
  refine la_mi (nA := 0) (As := []) K (mX12_lostForRoom l D cA ad2 a2 [] s' r s2 e2) hP hD hS q9_3 q9_4 q9_5 q1_16 q9_6 (by decide +kernel) (by decide) (by omega) (by omega) rfl hl.1 [.int r] rfl (Nat.le_of_ble_eq_true rfl) dL_law_2005 (fun H locs hP hD hS => ?_)
  refine lv_icmp_eq (tgt := 3090) hx hb dL_law_2008 (by decide) (fun _ => ?_) (fun h => absurd rfl h)
  exact la_end K Nx hG2 hB hP hD hS (by omega) (by omega) hl
set_option maxHeartbeats 4000000 in
set_option maxRecDepth 100000 in
theorem lawc_35 (K : LC p l s m args meth c D A cA ad adF adW tt bb L xs) (hC : C < 512) (hi : 4 * C + 4 ≤ L) (Nx : LGo p l e s m args below meth c Q D A cA ad a ao ao2 ad2 a2 bb (C + 1)) (hG : GG σ s' C T) (hB : SBT T b) (hP : va_P D vwCl (LW cA ad a ao g T.length b ao2 gd ad2 a2 σ s') H) (hD : va_D A (LW cA ad a ao g T.length b ao2 gd ad2 a2 σ s')) (hS : va_S A s.heap H locs) (hc1 : cells ≤ 254 + 70 * C) (hc2 : slots ≤ 4842 + 680 * C) (hl : lv_has ls 9 (LL bb (a 209) (a2 0) ao ao2 (nI (4 * C)))) : W p l e room_1 s m args below meth c H locs cells slots Q (F0 m 2013 ls []) := by
  have hx := K.1.1
  have hb := K.1.2.1
  obtain ⟨c1, r, σ1, r', s2, e1, e2, hc, h13, hr, hG2⟩ := ca_stepsUntilDone (m := 2000) (Nat.le_refl 2000) hC hG (xs (4 * C + 1))
  refine lv_aload_n hx hb dL_law_2013 rfl (lv_at hl 2 rfl) ?_
  refine la_ld (j := 1) (n := 1) K hS (lv_at hl 1 rfl) (lv_at hl 0 rfl) hi (by decide) rfl dL_law_2014 dL_law_2015 dL_law_2017 dL_law_2018 dL_law_2019 ?_
  refine lv_aload_n hx hb dL_law_2020 rfl (lv_at hl 4 rfl) ?_
  refine la_wr (nA := 3) (As := [.ref (a 209), .int ((xs (4 * C + 1))), .ref ao]) K hC (mL_stepsUntilDone l K.2.1 D cA ad adF adW tt a _ _ stg_E stg_X stg_N 2000 ((xs (4 * C + 1))) σ c1 r σ1 ao g e1 (by simpa using hc)) hP hD hS q6_97 q6_98 q1_0 q6_99 (by decide +kernel) (by decide) hc1 hc2 rfl rfl hl dL_law_2021 dL_law_2024 (fun H locs ls hP hD hS hl => ?_)
  refine lv_aload_n hx hb dL_law_2026 rfl (lv_at hl 4 rfl) ?_
  refine la_ld (j := 1) (n := 1) K hS (lv_at hl 2 rfl) (lv_at hl 1 rfl) hi (by decide) rfl dL_law_2027 dL_law_2028 dL_law_2030 dL_law_2031 dL_law_2032 ?_
  refine la_mi (nA := 1) (As := [.int ((xs (4 * C + 1)))]) K (mX12_stepsUntilDone l D cA ad2 a2 [] 2000 ((xs (4 * C + 1))) s' r' s2 e2) hP hD hS q9_7 q9_8 q9_9 q1_16 q9_10 (by decide +kernel) (by decide) (by omega) (by omega) rfl hl.1 [] rfl (Nat.le_of_ble_eq_true rfl) dL_law_2033 (fun H locs hP hD hS => ?_)
  refine lv_istore (lv' := (7, .int r') :: (6, .int (hix [2, 3] c1)) :: LL bb (a 209) (a2 0) ao ao2 (nI (4 * C))) hx hb dL_law_2036 hl (by decide) rfl (fun ls hl => ?_)
  exact la_tail K hC Nx hG2 hB h13 (la_fin (by decide) hc hr) hP hD hS (by omega) (by omega) hl dL_law_2038 dL_law_2039 dL_law_2042 dL_law_2044 dL_law_2049 dL_law_2051 dL_law_2054 dL_law_2055 dL_law_2056 dL_law_2057 dL_law_2059 dL_law_2060 dL_law_2061 dL_law_2066 (by decide)
set_option maxHeartbeats 4000000 in
set_option maxRecDepth 100000 in
theorem lawc_36 (K : LC p l s m args meth c D A cA ad adF adW tt bb L xs) (hC : C < 512) (hi : 4 * C + 4 ≤ L) (Nx : LGo p l e s m args below meth c Q D A cA ad a ao ao2 ad2 a2 bb (C + 1)) (hG : GG σ s' C T) (hB : SBT T b) (hP : va_P D vwCl (LW cA ad a ao g T.length b ao2 gd ad2 a2 σ s') H) (hD : va_D A (LW cA ad a ao g T.length b ao2 gd ad2 a2 σ s')) (hS : va_S A s.heap H locs) (hc1 : cells ≤ 254 + 70 * C) (hc2 : slots ≤ 4842 + 680 * C) (hl : lv_has ls 9 (LL bb (a 209) (a2 0) ao ao2 (nI (4 * C)))) : W p l e room_1 s m args below meth c H locs cells slots Q (F0 m 2069 ls []) := by
  have hx := K.1.1
  have hb := K.1.2.1
  obtain ⟨c1, r, σ1, r', s2, e1, e2, hc, h13, hr, hG2⟩ := ca_stepsUntilDoneByRate (m := 2000) (Nat.le_refl 2000) hC hG (xs (4 * C + 1))
  refine lv_aload_n hx hb dL_law_2069 rfl (lv_at hl 2 rfl) ?_
  refine la_ld (j := 1) (n := 1) K hS (lv_at hl 1 rfl) (lv_at hl 0 rfl) hi (by decide) rfl dL_law_2070 dL_law_2071 dL_law_2073 dL_law_2074 dL_law_2075 ?_
  refine lv_aload_n hx hb dL_law_2076 rfl (lv_at hl 4 rfl) ?_
  refine la_wr (nA := 3) (As := [.ref (a 209), .int ((xs (4 * C + 1))), .ref ao]) K hC (mL_stepsUntilDoneByRate l K.2.1 D cA ad adF adW tt a _ _ stg_E stg_X stg_N ((xs (4 * C + 1))) σ c1 r σ1 ao g e1 (by simpa using hc)) hP hD hS q6_108 q6_109 q1_0 q6_110 (by decide +kernel) (by decide) hc1 hc2 rfl rfl hl dL_law_2077 dL_law_2080 (fun H locs ls hP hD hS hl => ?_)
  refine lv_aload_n hx hb dL_law_2082 rfl (lv_at hl 4 rfl) ?_
  refine la_ld (j := 1) (n := 1) K hS (lv_at hl 2 rfl) (lv_at hl 1 rfl) hi (by decide) rfl dL_law_2083 dL_law_2084 dL_law_2086 dL_law_2087 dL_law_2088 ?_
  refine la_mi (nA := 1) (As := [.int ((xs (4 * C + 1)))]) K (mX12_stepsUntilDoneByRate l D cA ad2 a2 [] 2000 ((xs (4 * C + 1))) s' r' s2 e2) hP hD hS q9_15 q9_16 q9_17 q1_16 q9_18 (by decide +kernel) (by decide) (by omega) (by omega) rfl hl.1 [] rfl (Nat.le_of_ble_eq_true rfl) dL_law_2089 (fun H locs hP hD hS => ?_)
  refine lv_istore (lv' := (7, .int r') :: (6, .int (hix [2, 3] c1)) :: LL bb (a 209) (a2 0) ao ao2 (nI (4 * C))) hx hb dL_law_2092 hl (by decide) rfl (fun ls hl => ?_)
  exact la_tail K hC Nx hG2 hB h13 (la_fin (by decide) hc hr) hP hD hS (by omega) (by omega) hl dL_law_2094 dL_law_2095 dL_law_2098 dL_law_2100 dL_law_2105 dL_law_2107 dL_law_2110 dL_law_2111 dL_law_2112 dL_law_2113 dL_law_2115 dL_law_2116 dL_law_2117 dL_law_2122 (by decide)
set_option maxHeartbeats 4000000 in
set_option maxRecDepth 100000 in
theorem lawc_37 (K : LC p l s m args meth c D A cA ad adF adW tt bb L xs) (hC : C < 512) (hi : 4 * C + 4 ≤ L) (Nx : LGo p l e s m args below meth c Q D A cA ad a ao ao2 ad2 a2 bb (C + 1)) (hG : GG σ s' C T) (hB : SBT T b) (hP : va_P D vwCl (LW cA ad a ao g T.length b ao2 gd ad2 a2 σ s') H) (hD : va_D A (LW cA ad a ao g T.length b ao2 gd ad2 a2 σ s')) (hS : va_S A s.heap H locs) (hc1 : cells ≤ 254 + 70 * C) (hc2 : slots ≤ 4842 + 680 * C) (hl : lv_has ls 9 (LL bb (a 209) (a2 0) ao ao2 (nI (4 * C)))) : W p l e room_1 s m args below meth c H locs cells slots Q (F0 m 2125 ls []) := by
  have hx := K.1.1
  have hb := K.1.2.1
  obtain ⟨c1, r, σ1, r', s2, e1, e2, hc, h13, hr, hG2⟩ := ca_stepsUntilJam (m := 2000) (Nat.le_refl 2000) hC hG (xs (4 * C + 1))
  refine lv_aload_n hx hb dL_law_2125 rfl (lv_at hl 2 rfl) ?_
  refine la_ld (j := 1) (n := 1) K hS (lv_at hl 1 rfl) (lv_at hl 0 rfl) hi (by decide) rfl dL_law_2126 dL_law_2127 dL_law_2129 dL_law_2130 dL_law_2131 ?_
  refine lv_aload_n hx hb dL_law_2132 rfl (lv_at hl 4 rfl) ?_
  refine la_wr (nA := 3) (As := [.ref (a 209), .int ((xs (4 * C + 1))), .ref ao]) K hC (mL_stepsUntilJam l K.2.1 D cA ad adF adW tt a _ _ stg_E stg_X stg_N 2000 ((xs (4 * C + 1))) σ c1 r σ1 ao g e1 (by simpa using hc)) hP hD hS q6_115 q6_116 q1_0 q6_117 (by decide +kernel) (by decide) hc1 hc2 rfl rfl hl dL_law_2133 dL_law_2136 (fun H locs ls hP hD hS hl => ?_)
  refine lv_aload_n hx hb dL_law_2138 rfl (lv_at hl 4 rfl) ?_
  refine la_ld (j := 1) (n := 1) K hS (lv_at hl 2 rfl) (lv_at hl 1 rfl) hi (by decide) rfl dL_law_2139 dL_law_2140 dL_law_2142 dL_law_2143 dL_law_2144 ?_
  refine la_mi (nA := 1) (As := [.int ((xs (4 * C + 1)))]) K (mX12_stepsUntilJam l D cA ad2 a2 [] 2000 ((xs (4 * C + 1))) s' r' s2 e2) hP hD hS q9_20 q9_21 q9_22 q1_16 q9_23 (by decide +kernel) (by decide) (by omega) (by omega) rfl hl.1 [] rfl (Nat.le_of_ble_eq_true rfl) dL_law_2145 (fun H locs hP hD hS => ?_)
  refine lv_istore (lv' := (7, .int r') :: (6, .int (hix [2, 3] c1)) :: LL bb (a 209) (a2 0) ao ao2 (nI (4 * C))) hx hb dL_law_2148 hl (by decide) rfl (fun ls hl => ?_)
  exact la_tail K hC Nx hG2 hB h13 (la_fin (by decide) hc hr) hP hD hS (by omega) (by omega) hl dL_law_2150 dL_law_2151 dL_law_2154 dL_law_2156 dL_law_2161 dL_law_2163 dL_law_2166 dL_law_2167 dL_law_2168 dL_law_2169 dL_law_2171 dL_law_2172 dL_law_2173 dL_law_2178 (by decide)
set_option maxHeartbeats 4000000 in
set_option maxRecDepth 100000 in
theorem lawc_38 (K : LC p l s m args meth c D A cA ad adF adW tt bb L xs) (hC : C < 512) (hi : 4 * C + 4 ≤ L) (Nx : LGo p l e s m args below meth c Q D A cA ad a ao ao2 ad2 a2 bb (C + 1)) (hG : GG σ s' C T) (hB : SBT T b) (hP : va_P D vwCl (LW cA ad a ao g T.length b ao2 gd ad2 a2 σ s') H) (hD : va_D A (LW cA ad a ao g T.length b ao2 gd ad2 a2 σ s')) (hS : va_S A s.heap H locs) (hc1 : cells ≤ 254 + 70 * C) (hc2 : slots ≤ 4842 + 680 * C) (hl : lv_has ls 9 (LL bb (a 209) (a2 0) ao ao2 (nI (4 * C)))) : W p l e room_1 s m args below meth c H locs cells slots Q (F0 m 2181 ls []) := by
  have hx := K.1.1
  have hb := K.1.2.1
  obtain ⟨c1, r, σ1, r', s2, e1, e2, hc, h13, hr, hG2⟩ := ca_groundWithin (m := 2000) (Nat.le_refl 2000) hC hG (xs (4 * C + 1))
  refine lv_aload_n hx hb dL_law_2181 rfl (lv_at hl 2 rfl) ?_
  refine la_ld (j := 1) (n := 1) K hS (lv_at hl 1 rfl) (lv_at hl 0 rfl) hi (by decide) rfl dL_law_2182 dL_law_2183 dL_law_2185 dL_law_2186 dL_law_2187 ?_
  refine lv_aload_n hx hb dL_law_2188 rfl (lv_at hl 4 rfl) ?_
  refine la_wr (nA := 3) (As := [.ref (a 209), .int ((xs (4 * C + 1))), .ref ao]) K hC (mL_groundWithin l K.2.1 D cA ad adF adW tt a _ _ stg_E stg_X stg_N 2000 ((xs (4 * C + 1))) σ c1 r σ1 ao g e1 (by simpa using hc)) hP hD hS q6_126 q6_127 q1_0 q6_128 (by decide +kernel) (by decide) hc1 hc2 rfl rfl hl dL_law_2189 dL_law_2192 (fun H locs ls hP hD hS hl => ?_)
  refine lv_aload_n hx hb dL_law_2194 rfl (lv_at hl 4 rfl) ?_
  refine la_ld (j := 1) (n := 1) K hS (lv_at hl 2 rfl) (lv_at hl 1 rfl) hi (by decide) rfl dL_law_2195 dL_law_2196 dL_law_2198 dL_law_2199 dL_law_2200 ?_
  refine la_mi (nA := 1) (As := [.int ((xs (4 * C + 1)))]) K (mX12_groundWithin l D cA ad2 a2 [] 2000 ((xs (4 * C + 1))) s' r' s2 e2) hP hD hS q9_24 q9_25 q9_26 q1_16 q9_27 (by decide +kernel) (by decide) (by omega) (by omega) rfl hl.1 [] rfl (Nat.le_of_ble_eq_true rfl) dL_law_2201 (fun H locs hP hD hS => ?_)
  refine lv_istore (lv' := (7, .int r') :: (6, .int (hix [1] c1)) :: LL bb (a 209) (a2 0) ao ao2 (nI (4 * C))) hx hb dL_law_2204 hl (by decide) rfl (fun ls hl => ?_)
  exact la_tail K hC Nx hG2 hB h13 (la_fin (by decide) hc hr) hP hD hS (by omega) (by omega) hl dL_law_2206 dL_law_2207 dL_law_2210 dL_law_2212 dL_law_2217 dL_law_2219 dL_law_2222 dL_law_2223 dL_law_2224 dL_law_2225 dL_law_2227 dL_law_2228 dL_law_2229 dL_law_2234 (by decide)
set_option maxHeartbeats 4000000 in
set_option maxRecDepth 100000 in
theorem lawc_39 (K : LC p l s m args meth c D A cA ad adF adW tt bb L xs) (hC : C < 512) (hi : 4 * C + 4 ≤ L) (Nx : LGo p l e s m args below meth c Q D A cA ad a ao ao2 ad2 a2 bb (C + 1)) (hG : GG σ s' C T) (hB : SBT T b) (hP : va_P D vwCl (LW cA ad a ao g T.length b ao2 gd ad2 a2 σ s') H) (hD : va_D A (LW cA ad a ao g T.length b ao2 gd ad2 a2 σ s')) (hS : va_S A s.heap H locs) (hc1 : cells ≤ 254 + 70 * C) (hc2 : slots ≤ 4842 + 680 * C) (hl : lv_has ls 9 (LL bb (a 209) (a2 0) ao ao2 (nI (4 * C)))) : W p l e room_1 s m args below meth c H locs cells slots Q (F0 m 2237 ls []) := by
  have hx := K.1.1
  have hb := K.1.2.1
  obtain ⟨r, σ1, s2, e1, e2, hG2⟩ := ca_doneCount hG
  refine lv_aload_n hx hb dL_law_2237 rfl (lv_at hl 2 rfl) ?_
  refine la_x (nA := 0) (As := []) K (mX11_doneCount l D cA ad adF adW tt a _ _ stg_E σ r σ1 e1) hP hD hS q2_132 q2_133 q2_134 q1_1 q2_135 (by decide +kernel) (by decide) (by omega) (by omega) rfl hl.1 [] rfl (Nat.le_of_ble_eq_true rfl) dL_law_2238 (fun H locs hP hD hS => ?_)
  refine lv_aload_n hx hb dL_law_2241 rfl (lv_at hl 3 rfl) ?_
  refine la_mi (nA := 0) (As := []) K (mX12_doneCount l D cA ad2 a2 [] s' r s2 e2) hP hD hS q9_28 q9_29 q9_30 q1_16 q9_31 (by decide +kernel) (by decide) (by omega) (by omega) rfl hl.1 [.int r] rfl (Nat.le_of_ble_eq_true rfl) dL_law_2242 (fun H locs hP hD hS => ?_)
  refine lv_icmp_eq (tgt := 3090) hx hb dL_law_2245 (by decide) (fun _ => ?_) (fun h => absurd rfl h)
  exact la_end K Nx hG2 hB hP hD hS (by omega) (by omega) hl
set_option maxHeartbeats 4000000 in
set_option maxRecDepth 100000 in
theorem lawc_40 (K : LC p l s m args meth c D A cA ad adF adW tt bb L xs) (hC : C < 512) (hi : 4 * C + 4 ≤ L) (Nx : LGo p l e s m args below meth c Q D A cA ad a ao ao2 ad2 a2 bb (C + 1)) (hG : GG σ s' C T) (hB : SBT T b) (hP : va_P D vwCl (LW cA ad a ao g T.length b ao2 gd ad2 a2 σ s') H) (hD : va_D A (LW cA ad a ao g T.length b ao2 gd ad2 a2 σ s')) (hS : va_S A s.heap H locs) (hc1 : cells ≤ 254 + 70 * C) (hc2 : slots ≤ 4842 + 680 * C) (hl : lv_has ls 9 (LL bb (a 209) (a2 0) ao ao2 (nI (4 * C)))) : W p l e room_1 s m args below meth c H locs cells slots Q (F0 m 2250 ls []) := by
  have hx := K.1.1
  have hb := K.1.2.1
  obtain ⟨c1, r, σ1, r', s2, e1, e2, hc, h13, hr, hG2⟩ := ca_doneNumber hG hC (xs (4 * C + 1))
  refine lv_aload_n hx hb dL_law_2250 rfl (lv_at hl 2 rfl) ?_
  refine la_ld (j := 1) (n := 1) K hS (lv_at hl 1 rfl) (lv_at hl 0 rfl) hi (by decide) rfl dL_law_2251 dL_law_2252 dL_law_2254 dL_law_2255 dL_law_2256 ?_
  refine lv_aload_n hx hb dL_law_2257 rfl (lv_at hl 4 rfl) ?_
  refine la_wr (nA := 3) (As := [.ref (a 209), .int ((xs (4 * C + 1))), .ref ao]) K hC (mL_doneNumber l K.2.1 D cA ad adF adW tt a _ _ stg_E stg_X stg_N ((xs (4 * C + 1))) σ c1 r σ1 ao g e1 (by simpa using hc)) hP hD hS q6_134 q6_135 q1_0 q6_136 (by decide +kernel) (by decide) hc1 hc2 rfl rfl hl dL_law_2258 dL_law_2261 (fun H locs ls hP hD hS hl => ?_)
  refine lv_aload_n hx hb dL_law_2263 rfl (lv_at hl 4 rfl) ?_
  refine la_ld (j := 1) (n := 1) K hS (lv_at hl 2 rfl) (lv_at hl 1 rfl) hi (by decide) rfl dL_law_2264 dL_law_2265 dL_law_2267 dL_law_2268 dL_law_2269 ?_
  refine la_mi (nA := 1) (As := [.int ((xs (4 * C + 1)))]) K (mX12_doneNumber l D cA ad2 a2 [] ((xs (4 * C + 1))) s' r' s2 e2) hP hD hS q9_32 q9_33 q9_34 q1_16 q9_35 (by decide +kernel) (by decide) (by omega) (by omega) rfl hl.1 [] rfl (Nat.le_of_ble_eq_true rfl) dL_law_2270 (fun H locs hP hD hS => ?_)
  refine lv_istore (lv' := (7, .int r') :: (6, .int (hix [3] c1)) :: LL bb (a 209) (a2 0) ao ao2 (nI (4 * C))) hx hb dL_law_2273 hl (by decide) rfl (fun ls hl => ?_)
  exact la_tail K hC Nx hG2 hB h13 (la_fin (by decide) hc hr) hP hD hS (by omega) (by omega) hl dL_law_2275 dL_law_2276 dL_law_2279 dL_law_2281 dL_law_2286 dL_law_2288 dL_law_2291 dL_law_2292 dL_law_2293 dL_law_2294 dL_law_2296 dL_law_2297 dL_law_2298 dL_law_2303 (by decide)
set_option maxHeartbeats 4000000 in
set_option maxRecDepth 100000 in
theorem lawc_41 (K : LC p l s m args meth c D A cA ad adF adW tt bb L xs) (hC : C < 512) (hi : 4 * C + 4 ≤ L) (Nx : LGo p l e s m args below meth c Q D A cA ad a ao ao2 ad2 a2 bb (C + 1)) (hG : GG σ s' C T) (hB : SBT T b) (hP : va_P D vwCl (LW cA ad a ao g T.length b ao2 gd ad2 a2 σ s') H) (hD : va_D A (LW cA ad a ao g T.length b ao2 gd ad2 a2 σ s')) (hS : va_S A s.heap H locs) (hc1 : cells ≤ 254 + 70 * C) (hc2 : slots ≤ 4842 + 680 * C) (hl : lv_has ls 9 (LL bb (a 209) (a2 0) ao ao2 (nI (4 * C)))) : W p l e room_1 s m args below meth c H locs cells slots Q (F0 m 2306 ls []) := by
  have hx := K.1.1
  have hb := K.1.2.1
  obtain ⟨c1, r, σ1, r', s2, e1, e2, hc, h13, hr, hG2⟩ := ca_doneWheel hG hC (xs (4 * C + 1))
  refine lv_aload_n hx hb dL_law_2306 rfl (lv_at hl 2 rfl) ?_
  refine la_ld (j := 1) (n := 1) K hS (lv_at hl 1 rfl) (lv_at hl 0 rfl) hi (by decide) rfl dL_law_2307 dL_law_2308 dL_law_2310 dL_law_2311 dL_law_2312 ?_
  refine lv_aload_n hx hb dL_law_2313 rfl (lv_at hl 4 rfl) ?_
  refine la_wr (nA := 3) (As := [.ref (a 209), .int ((xs (4 * C + 1))), .ref ao]) K hC (mL_doneWheel l K.2.1 D cA ad adF adW tt a _ _ stg_E stg_X stg_N ((xs (4 * C + 1))) σ c1 r σ1 ao g e1 (by simpa using hc)) hP hD hS q6_150 q6_151 q1_0 q6_152 (by decide +kernel) (by decide) hc1 hc2 rfl rfl hl dL_law_2314 dL_law_2317 (fun H locs ls hP hD hS hl => ?_)
  refine lv_aload_n hx hb dL_law_2319 rfl (lv_at hl 4 rfl) ?_
  refine la_ld (j := 1) (n := 1) K hS (lv_at hl 2 rfl) (lv_at hl 1 rfl) hi (by decide) rfl dL_law_2320 dL_law_2321 dL_law_2323 dL_law_2324 dL_law_2325 ?_
  refine la_mi (nA := 1) (As := [.int ((xs (4 * C + 1)))]) K (mX12_doneWheel l D cA ad2 a2 [] ((xs (4 * C + 1))) s' r' s2 e2) hP hD hS q9_40 q9_41 q9_42 q1_16 q9_43 (by decide +kernel) (by decide) (by omega) (by omega) rfl hl.1 [] rfl (Nat.le_of_ble_eq_true rfl) dL_law_2326 (fun H locs hP hD hS => ?_)
  refine lv_istore (lv' := (7, .int r') :: (6, .int (hix [3] c1)) :: LL bb (a 209) (a2 0) ao ao2 (nI (4 * C))) hx hb dL_law_2329 hl (by decide) rfl (fun ls hl => ?_)
  exact la_tail K hC Nx hG2 hB h13 (la_fin (by decide) hc hr) hP hD hS (by omega) (by omega) hl dL_law_2331 dL_law_2332 dL_law_2335 dL_law_2337 dL_law_2342 dL_law_2344 dL_law_2347 dL_law_2348 dL_law_2349 dL_law_2350 dL_law_2352 dL_law_2353 dL_law_2354 dL_law_2359 (by decide)
set_option maxHeartbeats 4000000 in
set_option maxRecDepth 100000 in
theorem lawc_42 (K : LC p l s m args meth c D A cA ad adF adW tt bb L xs) (hC : C < 512) (hi : 4 * C + 4 ≤ L) (Nx : LGo p l e s m args below meth c Q D A cA ad a ao ao2 ad2 a2 bb (C + 1)) (hG : GG σ s' C T) (hB : SBT T b) (hP : va_P D vwCl (LW cA ad a ao g T.length b ao2 gd ad2 a2 σ s') H) (hD : va_D A (LW cA ad a ao g T.length b ao2 gd ad2 a2 σ s')) (hS : va_S A s.heap H locs) (hc1 : cells ≤ 254 + 70 * C) (hc2 : slots ≤ 4842 + 680 * C) (hl : lv_has ls 9 (LL bb (a 209) (a2 0) ao ao2 (nI (4 * C)))) : W p l e room_1 s m args below meth c H locs cells slots Q (F0 m 2362 ls []) := by
  have hx := K.1.1
  have hb := K.1.2.1
  obtain ⟨c1, r, σ1, r', s2, e1, e2, hc, h13, hr, hG2⟩ := ca_doneTime hG hC (xs (4 * C + 1))
  refine lv_aload_n hx hb dL_law_2362 rfl (lv_at hl 2 rfl) ?_
  refine la_ld (j := 1) (n := 1) K hS (lv_at hl 1 rfl) (lv_at hl 0 rfl) hi (by decide) rfl dL_law_2363 dL_law_2364 dL_law_2366 dL_law_2367 dL_law_2368 ?_
  refine lv_aload_n hx hb dL_law_2369 rfl (lv_at hl 4 rfl) ?_
  refine la_wr (nA := 3) (As := [.ref (a 209), .int ((xs (4 * C + 1))), .ref ao]) K hC (mL_doneTime l K.2.1 D cA ad adF adW tt a _ _ stg_E stg_X stg_N ((xs (4 * C + 1))) σ c1 r σ1 ao g e1 (by simpa using hc)) hP hD hS q6_157 q6_158 q1_0 q6_159 (by decide +kernel) (by decide) hc1 hc2 rfl rfl hl dL_law_2370 dL_law_2373 (fun H locs ls hP hD hS hl => ?_)
  refine lv_aload_n hx hb dL_law_2375 rfl (lv_at hl 4 rfl) ?_
  refine la_ld (j := 1) (n := 1) K hS (lv_at hl 2 rfl) (lv_at hl 1 rfl) hi (by decide) rfl dL_law_2376 dL_law_2377 dL_law_2379 dL_law_2380 dL_law_2381 ?_
  refine la_mi (nA := 1) (As := [.int ((xs (4 * C + 1)))]) K (mX12_doneTime l D cA ad2 a2 [] ((xs (4 * C + 1))) s' r' s2 e2) hP hD hS q9_44 q9_45 q9_46 q1_16 q9_47 (by decide +kernel) (by decide) (by omega) (by omega) rfl hl.1 [] rfl (Nat.le_of_ble_eq_true rfl) dL_law_2382 (fun H locs hP hD hS => ?_)
  refine lv_istore (lv' := (7, .int r') :: (6, .int (hix [3] c1)) :: LL bb (a 209) (a2 0) ao ao2 (nI (4 * C))) hx hb dL_law_2385 hl (by decide) rfl (fun ls hl => ?_)
  exact la_tail K hC Nx hG2 hB h13 (la_fin (by decide) hc hr) hP hD hS (by omega) (by omega) hl dL_law_2387 dL_law_2388 dL_law_2391 dL_law_2393 dL_law_2398 dL_law_2400 dL_law_2403 dL_law_2404 dL_law_2405 dL_law_2406 dL_law_2408 dL_law_2409 dL_law_2410 dL_law_2415 (by decide)
set_option maxHeartbeats 4000000 in
set_option maxRecDepth 100000 in
theorem lawc_43 (K : LC p l s m args meth c D A cA ad adF adW tt bb L xs) (hC : C < 512) (hi : 4 * C + 4 ≤ L) (Nx : LGo p l e s m args below meth c Q D A cA ad a ao ao2 ad2 a2 bb (C + 1)) (hG : GG σ s' C T) (hB : SBT T b) (hP : va_P D vwCl (LW cA ad a ao g T.length b ao2 gd ad2 a2 σ s') H) (hD : va_D A (LW cA ad a ao g T.length b ao2 gd ad2 a2 σ s')) (hS : va_S A s.heap H locs) (hc1 : cells ≤ 254 + 70 * C) (hc2 : slots ≤ 4842 + 680 * C) (hl : lv_has ls 9 (LL bb (a 209) (a2 0) ao ao2 (nI (4 * C)))) : W p l e room_1 s m args below meth c H locs cells slots Q (F0 m 2418 ls []) := by
  have hx := K.1.1
  have hb := K.1.2.1
  obtain ⟨c1, r, σ1, r', s2, e1, e2, hc, h13, hr, hG2⟩ := ca_wheelByWear (m := 2000) (Nat.le_refl 2000) hG (xs (4 * C + 1))
  refine lv_aload_n hx hb dL_law_2418 rfl (lv_at hl 2 rfl) ?_
  refine la_ld (j := 1) (n := 1) K hS (lv_at hl 1 rfl) (lv_at hl 0 rfl) hi (by decide) rfl dL_law_2419 dL_law_2420 dL_law_2422 dL_law_2423 dL_law_2424 ?_
  refine lv_aload_n hx hb dL_law_2425 rfl (lv_at hl 4 rfl) ?_
  refine la_wr (nA := 3) (As := [.ref (a 209), .int ((xs (4 * C + 1))), .ref ao]) K hC (mL_wheelByWear l K.2.1 D cA ad adF adW tt a _ _ stg_E stg_X stg_N 2000 ((xs (4 * C + 1))) σ c1 r σ1 ao g e1 (by simpa using hc)) hP hD hS q6_164 q6_165 q1_0 q6_166 (by decide +kernel) (by decide) hc1 hc2 rfl rfl hl dL_law_2426 dL_law_2429 (fun H locs ls hP hD hS hl => ?_)
  refine lv_aload_n hx hb dL_law_2431 rfl (lv_at hl 4 rfl) ?_
  refine la_ld (j := 1) (n := 1) K hS (lv_at hl 2 rfl) (lv_at hl 1 rfl) hi (by decide) rfl dL_law_2432 dL_law_2433 dL_law_2435 dL_law_2436 dL_law_2437 ?_
  refine la_mi (nA := 1) (As := [.int ((xs (4 * C + 1)))]) K (mX12_wheelByWear l D cA ad2 a2 [] 2000 ((xs (4 * C + 1))) s' r' s2 e2) hP hD hS q9_48 q9_49 q9_50 q1_16 q9_51 (by decide +kernel) (by decide) (by omega) (by omega) rfl hl.1 [] rfl (Nat.le_of_ble_eq_true rfl) dL_law_2438 (fun H locs hP hD hS => ?_)
  refine lv_istore (lv' := (7, .int r') :: (6, .int (hix [3] c1)) :: LL bb (a 209) (a2 0) ao ao2 (nI (4 * C))) hx hb dL_law_2441 hl (by decide) rfl (fun ls hl => ?_)
  exact la_tail K hC Nx hG2 hB h13 (la_fin (by decide) hc hr) hP hD hS (by omega) (by omega) hl dL_law_2443 dL_law_2444 dL_law_2447 dL_law_2449 dL_law_2454 dL_law_2456 dL_law_2459 dL_law_2460 dL_law_2461 dL_law_2462 dL_law_2464 dL_law_2465 dL_law_2466 dL_law_2471 (by decide)
set_option maxHeartbeats 4000000 in
set_option maxRecDepth 100000 in
theorem lawc_44 (K : LC p l s m args meth c D A cA ad adF adW tt bb L xs) (hC : C < 512) (hi : 4 * C + 4 ≤ L) (Nx : LGo p l e s m args below meth c Q D A cA ad a ao ao2 ad2 a2 bb (C + 1)) (hG : GG σ s' C T) (hB : SBT T b) (hP : va_P D vwCl (LW cA ad a ao g T.length b ao2 gd ad2 a2 σ s') H) (hD : va_D A (LW cA ad a ao g T.length b ao2 gd ad2 a2 σ s')) (hS : va_S A s.heap H locs) (hc1 : cells ≤ 254 + 70 * C) (hc2 : slots ≤ 4842 + 680 * C) (hl : lv_has ls 9 (LL bb (a 209) (a2 0) ao ao2 (nI (4 * C)))) : W p l e room_1 s m args below meth c H locs cells slots Q (F0 m 2474 ls []) := by
  have hx := K.1.1
  have hb := K.1.2.1
  obtain ⟨c1, r, σ1, r', s2, e1, e2, hc, h13, hr, hG2⟩ := ca_bandByGrains (m := 2000) (Nat.le_refl 2000) hC hG (xs (4 * C + 1))
  refine lv_aload_n hx hb dL_law_2474 rfl (lv_at hl 2 rfl) ?_
  refine la_ld (j := 1) (n := 1) K hS (lv_at hl 1 rfl) (lv_at hl 0 rfl) hi (by decide) rfl dL_law_2475 dL_law_2476 dL_law_2478 dL_law_2479 dL_law_2480 ?_
  refine lv_aload_n hx hb dL_law_2481 rfl (lv_at hl 4 rfl) ?_
  refine la_wr (nA := 3) (As := [.ref (a 209), .int ((xs (4 * C + 1))), .ref ao]) K hC (mL_bandByGrains l K.2.1 D cA ad adF adW tt a _ _ stg_E stg_X stg_N 2000 ((xs (4 * C + 1))) σ c1 r σ1 ao g e1 (by simpa using hc)) hP hD hS q6_179 q6_180 q1_0 q6_181 (by decide +kernel) (by decide) hc1 hc2 rfl rfl hl dL_law_2482 dL_law_2485 (fun H locs ls hP hD hS hl => ?_)
  refine lv_aload_n hx hb dL_law_2487 rfl (lv_at hl 4 rfl) ?_
  refine la_ld (j := 1) (n := 1) K hS (lv_at hl 2 rfl) (lv_at hl 1 rfl) hi (by decide) rfl dL_law_2488 dL_law_2489 dL_law_2491 dL_law_2492 dL_law_2493 ?_
  refine la_mi (nA := 1) (As := [.int ((xs (4 * C + 1)))]) K (mX12_bandByGrains l D cA ad2 a2 [] 2000 ((xs (4 * C + 1))) s' r' s2 e2) hP hD hS q9_56 q9_57 q9_58 q1_16 q9_59 (by decide +kernel) (by decide) (by omega) (by omega) rfl hl.1 [] rfl (Nat.le_of_ble_eq_true rfl) dL_law_2494 (fun H locs hP hD hS => ?_)
  refine lv_istore (lv' := (7, .int r') :: (6, .int (hix [3] c1)) :: LL bb (a 209) (a2 0) ao ao2 (nI (4 * C))) hx hb dL_law_2497 hl (by decide) rfl (fun ls hl => ?_)
  exact la_tail K hC Nx hG2 hB h13 (la_fin (by decide) hc hr) hP hD hS (by omega) (by omega) hl dL_law_2499 dL_law_2500 dL_law_2503 dL_law_2505 dL_law_2510 dL_law_2512 dL_law_2515 dL_law_2516 dL_law_2517 dL_law_2518 dL_law_2520 dL_law_2521 dL_law_2522 dL_law_2527 (by decide)
set_option maxHeartbeats 4000000 in
set_option maxRecDepth 100000 in
theorem lawc_45 (K : LC p l s m args meth c D A cA ad adF adW tt bb L xs) (hC : C < 512) (hi : 4 * C + 4 ≤ L) (Nx : LGo p l e s m args below meth c Q D A cA ad a ao ao2 ad2 a2 bb (C + 1)) (hG : GG σ s' C T) (hB : SBT T b) (hP : va_P D vwCl (LW cA ad a ao g T.length b ao2 gd ad2 a2 σ s') H) (hD : va_D A (LW cA ad a ao g T.length b ao2 gd ad2 a2 σ s')) (hS : va_S A s.heap H locs) (hc1 : cells ≤ 254 + 70 * C) (hc2 : slots ≤ 4842 + 680 * C) (hl : lv_has ls 9 (LL bb (a 209) (a2 0) ao ao2 (nI (4 * C)))) : W p l e room_1 s m args below meth c H locs cells slots Q (F0 m 2530 ls []) := by
  have hx := K.1.1
  have hb := K.1.2.1
  obtain ⟨c1, r, σ1, r', s2, e1, e2, hc, h13, hr, hG2⟩ := ca_meanLoudness (m := 2000) (Nat.le_refl 2000) hC hG
  refine lv_aload_n hx hb dL_law_2530 rfl (lv_at hl 2 rfl) ?_
  refine lv_aload hx hb dL_law_2531 (lv_at hl 5 rfl) ?_
  refine la_wrD (nA := 2) (As := [.ref (a 209), .ref ao2]) K hC (mL_meanLoudness l K.2.1 D cA ad adF adW tt a _ _ stg_E stg_X stg_N 2000 σ c1 r σ1 ao2 gd e1 (by simpa using hc)) hP hD hS q6_198 q6_199 q1_0 q6_200 (by decide +kernel) (by decide) hc1 hc2 rfl rfl hl dL_law_2533 dL_law_2536 (fun H locs ls hP hD hS hl => ?_)
  refine lv_aload_n hx hb dL_law_2538 rfl (lv_at hl 4 rfl) ?_
  refine la_md (nA := 0) (As := []) K (mX12_meanLoudness l D cA ad2 a2 [] 2000 s' r' s2 e2) hP hD hS q9_68 q9_69 q9_70 q1_16 q9_71 (by decide +kernel) (by decide) (by omega) (by omega) rfl hl.1 [] rfl (Nat.le_of_ble_eq_true rfl) dL_law_2539 (fun H locs hP hD hS => ?_)
  refine lv_dstore (lv' := (7, .double r') :: (6, .int (hix [6] c1)) :: LL bb (a 209) (a2 0) ao ao2 (nI (4 * C))) hx hb dL_law_2542 hl (by decide) rfl (fun ls hl => ?_)
  exact la_tailD K hC Nx hG2 hB h13 (la_finD (by decide) hc hr) hP hD hS (by omega) (by omega) hl dL_law_2544 dL_law_2545 dL_law_2548 dL_law_2550 dL_law_2555 dL_law_2557 dL_law_2560 dL_law_2562 dL_law_2563 dL_law_2564 dL_law_2566 dL_law_2567 dL_law_2592 (by decide)
set_option maxHeartbeats 4000000 in
set_option maxRecDepth 100000 in
theorem lawc_46 (K : LC p l s m args meth c D A cA ad adF adW tt bb L xs) (hC : C < 512) (hi : 4 * C + 4 ≤ L) (Nx : LGo p l e s m args below meth c Q D A cA ad a ao ao2 ad2 a2 bb (C + 1)) (hG : GG σ s' C T) (hB : SBT T b) (hP : va_P D vwCl (LW cA ad a ao g T.length b ao2 gd ad2 a2 σ s') H) (hD : va_D A (LW cA ad a ao g T.length b ao2 gd ad2 a2 σ s')) (hS : va_S A s.heap H locs) (hc1 : cells ≤ 254 + 70 * C) (hc2 : slots ≤ 4842 + 680 * C) (hl : lv_has ls 9 (LL bb (a 209) (a2 0) ao ao2 (nI (4 * C)))) : W p l e room_1 s m args below meth c H locs cells slots Q (F0 m 2595 ls []) := by
  have hx := K.1.1
  have hb := K.1.2.1
  obtain ⟨c1, r, σ1, r', s2, e1, e2, hc, h13, hr, hG2⟩ := ca_lostShare hC hG
  refine lv_aload_n hx hb dL_law_2595 rfl (lv_at hl 2 rfl) ?_
  refine lv_aload hx hb dL_law_2596 (lv_at hl 5 rfl) ?_
  refine la_wrD (nA := 2) (As := [.ref (a 209), .ref ao2]) K hC (mL_lostShare l K.2.1 D cA ad adF adW tt a _ _ stg_E stg_X stg_N σ c1 r σ1 ao2 gd e1 (by simpa using hc) (fun h => nn_f2d (hr h).2)) hP hD hS q6_226 q6_227 q1_0 q6_228 (by decide +kernel) (by decide) hc1 hc2 rfl rfl hl dL_law_2598 dL_law_2601 (fun H locs ls hP hD hS hl => ?_)
  refine lv_aload_n hx hb dL_law_2603 rfl (lv_at hl 4 rfl) ?_
  refine la_mf (nA := 0) (As := []) K (mX12_lostShare l D cA ad2 a2 [] s' r' s2 e2) hP hD hS q9_72 q9_73 q9_74 q1_16 q9_75 (by decide +kernel) (by decide) (by omega) (by omega) rfl hl.1 [] rfl (Nat.le_of_ble_eq_true rfl) dL_law_2604 (fun H locs hP hD hS => ?_)
  refine lv_fstore (lv' := (7, .float r') :: (6, .int (hix [6] c1)) :: LL bb (a 209) (a2 0) ao ao2 (nI (4 * C))) hx hb dL_law_2607 hl (by decide) rfl (fun ls hl => ?_)
  exact la_tailF K hC Nx hG2 hB h13 (la_finF (by decide) hc hr) hP hD hS (by omega) (by omega) hl dL_law_2609 dL_law_2610 dL_law_2613 dL_law_2615 dL_law_2620 dL_law_2622 dL_law_2625 dL_law_2627 dL_law_2628 dL_law_2629 dL_law_2631 dL_law_2632 dL_law_2633 dL_law_2658 (by decide)
set_option maxHeartbeats 4000000 in
set_option maxRecDepth 100000 in
theorem lawc_47 (K : LC p l s m args meth c D A cA ad adF adW tt bb L xs) (hC : C < 512) (hi : 4 * C + 4 ≤ L) (Nx : LGo p l e s m args below meth c Q D A cA ad a ao ao2 ad2 a2 bb (C + 1)) (hG : GG σ s' C T) (hB : SBT T b) (hP : va_P D vwCl (LW cA ad a ao g T.length b ao2 gd ad2 a2 σ s') H) (hD : va_D A (LW cA ad a ao g T.length b ao2 gd ad2 a2 σ s')) (hS : va_S A s.heap H locs) (hc1 : cells ≤ 254 + 70 * C) (hc2 : slots ≤ 4842 + 680 * C) (hl : lv_has ls 9 (LL bb (a 209) (a2 0) ao ao2 (nI (4 * C)))) : W p l e room_1 s m args below meth c H locs cells slots Q (F0 m 2661 ls []) := by
  have hx := K.1.1
  have hb := K.1.2.1
  obtain ⟨r, σ1, s2, e1, e2, hG2⟩ := ca_isConsistent (m := 2000) (Nat.le_refl 2000) hC hG
  refine lv_aload_n hx hb dL_law_2661 rfl (lv_at hl 2 rfl) ?_
  refine la_x (nA := 0) (As := []) K (mX11_isConsistent l D cA ad adF adW tt a _ _ stg_E 2000 σ r σ1 e1) hP hD hS q2_136 q2_137 q2_138 q1_1 q2_139 (by decide +kernel) (by decide) (by omega) (by omega) rfl hl.1 [] rfl (Nat.le_of_ble_eq_true rfl) dL_law_2662 (fun H locs hP hD hS => ?_)
  refine lv_aload_n hx hb dL_law_2665 rfl (lv_at hl 3 rfl) ?_
  refine la_mi (nA := 0) (As := []) K (mX12_isConsistent l D cA ad2 a2 [] s' r s2 e2) hP hD hS q9_76 q9_77 q9_78 q1_16 q9_79 (by decide +kernel) (by decide) (by omega) (by omega) rfl hl.1 [.int r] rfl (Nat.le_of_ble_eq_true rfl) dL_law_2666 (fun H locs hP hD hS => ?_)
  refine lv_icmp_eq (tgt := 3090) hx hb dL_law_2669 (by decide) (fun _ => ?_) (fun h => absurd rfl h)
  exact la_end K Nx hG2 hB hP hD hS (by omega) (by omega) hl
end C74
