-- ===== p61: the law's texts =====
/-- the letters of the law's texts -/
def vT : List (List Nat) := [[103, 101, 97, 114, 32, 49, 32, 52, 59, 109, 101, 115, 104, 32, 55, 32, 57, 59, 99, 108, 101, 97, 114, 32, 50, 59, 115, 116, 101, 112, 32, 51], [115, 116, 101, 112, 59, 103, 101, 97, 114, 32, 48, 32, 54], [115, 116, 101, 112, 32, 52, 49], [115], [115, 116], [110, 111, 105, 115, 101, 32, 48, 32, 57], [115, 116, 101, 112, 32], [103, 101, 97, 114, 32, 48], [100, 114, 111, 112, 32, 49, 50, 51], [], [115, 104, 105, 112, 32, 48, 32, 54, 59], [115, 120], [99, 108, 101, 97, 114, 32, 48, 48], [122], [110, 111, 105, 115, 101, 32, 50, 32, 53, 32], [59, 110, 111, 105, 115, 101, 32, 51, 32, 57, 32, 49, 48, 59, 110, 111, 105, 115, 101, 32, 50, 32, 53, 32, 49, 59, 103, 101, 97, 114, 32, 48, 32, 53, 59, 109, 101, 115, 104, 32, 51, 32, 57]]
def vLen : List Nat := [32, 13, 7, 1, 2, 9, 5, 6, 8, 0, 9, 2, 8, 1, 10, 43]
def vByt : List (List Int32) := [[103, 101, 97, 114, 32, 49, 32, 52, 59, 109, 101, 115, 104, 32, 55, 32, 57, 59, 99, 108, 101, 97, 114, 32, 50, 59, 115, 116, 101, 112, 32, 51], [115, 116, 101, 112, 59, 103, 101, 97, 114, 32, 48, 32, 54], [115, 116, 101, 112, 32, 52, 49], [115], [115, 116], [110, 111, 105, 115, 101, 32, 48, 32, 57], [115, 116, 101, 112, 32], [103, 101, 97, 114, 32, 48], [100, 114, 111, 112, 32, 49, 50, 51], [], [115, 104, 105, 112, 32, 48, 32, 54, 59], [115, 120], [99, 108, 101, 97, 114, 32, 48, 48], [122], [110, 111, 105, 115, 101, 32, 50, 32, 53, 32], [59, 110, 111, 105, 115, 101, 32, 51, 32, 57, 32, 49, 48, 59, 110, 111, 105, 115, 101, 32, 50, 32, 53, 32, 49, 59, 103, 101, 97, 114, 32, 48, 32, 53, 59, 109, 101, 115, 104, 32, 51, 32, 57]]
def STV (adV tv : Nat → Nat) (ST : gST) : Prop := ∀ (A : Nat → Prop) (U : State), ST A U → vk_S 16 vLen vByt adV tv A U U.heap
noncomputable def hJ1_charAt_3b067 (p1 : Int32) (p2 : Int32) (s0 : St) : Option (Int32 × St) :=
  BND p1 16 <|
  OB (fJ0_checkIndex_df160 p2 (Int32.ofNat (vLen.getD p1.toNatClampNeg 0)) s0) fun r2 s3 =>
  BND p1 16 <|
  BND p2 (vLen.getD p1.toNatClampNeg 0) <|
  CH (((((vByt.getD p1.toNatClampNeg []).getD p2.toNatClampNeg 0) &&& 255).toUInt32 % 65536).toInt32) <|
  some (((((vByt.getD p1.toNatClampNeg []).getD p2.toNatClampNeg 0) &&& 255).toUInt32 % 65536).toInt32, s3)
set_option maxHeartbeats 4000000 in
set_option maxRecDepth 100000 in
theorem nJ1_charAt_3b067 (l : Launch) (D : va_G) (cA : Nat → ClassId) (ad adF adW tt a : Nat → Nat) (fr : va_W) (ST : gST) (hT : STE ad adF adW tt ST) (hW : STW adW tt ST) (adV tv : Nat → Nat) (hV : STV adV tv ST) (p1 : Int32) (p2 : Int32) (s0 : St) (r : Int32) (s' : St) (h : hJ1_charAt_3b067 p1 p2 s0 = some (r, s')) : gMet l yJ1_charAt_3b067 cJ1_charAt_3b067 2 (some .char) 2 D (TYS cA) ST (wc cA ad a fr s0) [.ref (tv p1.toNatClampNeg), .int p2] (fun A => gQi D (TYS cA) A (wc cA ad a fr) r s') := by
  refine g_ofWF hT.1 (by decide +kernel) (Nat.le_of_ble_eq_true rfl) ?_
  intro p e s m args below meth c ls A G hP hD hl
  have G : GC p s m args meth c cJ1_charAt_3b067 2 RJ1 (some .char) A D (TYS cA) ST := G
  have hx := G.1
  have hb := G.2.1
  have hS : va_S A s.heap s.heap [] := va_S.rf
  have hl : lv_has ls 2 [(0, .ref (tv p1.toNatClampNeg)), (1, .int p2)] := hl
  unfold hJ1_charAt_3b067 at h
  refine lv_iload_n hx hb dJ1_charAt_3b067_0 rfl (lv_at hl 1 rfl) ?_
  refine lv_aload_n hx hb dJ1_charAt_3b067_1 rfl (lv_at hl 0 rfl) ?_
  obtain ⟨b1, h⟩ := bnd_e h
  refine va_tlen (v := Int32.ofNat (vLen.getD p1.toNatClampNeg 0)) hx hb ((hV _ _ G.2.2.2.2.2.2.2.2.2.2.1).1 _ (vp_lt b1)).2.2.2 hS rfl dJ1_charAt_3b067_2 ?_
  obtain ⟨r2, s3, g4, h⟩ := ob_e h
  refine g_callSXv (nA := 2) (mJ0_checkIndex_df160 l D cA ad adF adW tt a fr ST hT hW p2 (Int32.ofNat (vLen.getD p1.toNatClampNeg 0)) s0 r2 s3 g4) G hP hD hS (g_goodSX q4_218 q4_219 q1_14 q4_220) (by decide +kernel) (by decide) rfl hl.1 [] rfl (Nat.le_of_ble_eq_true rfl) dJ1_charAt_3b067_3 (fun H locs hP hD hS => ?_)
  refine lv_aload_n hx hb dJ1_charAt_3b067_6 rfl (lv_at hl 0 rfl) ?_
  refine lv_iload_n hx hb dJ1_charAt_3b067_7 rfl (lv_at hl 1 rfl) ?_
  obtain ⟨b6, h⟩ := bnd_e h
  obtain ⟨b5, h⟩ := bnd_e h
  refine va_tb hx hb ((hV _ _ G.2.2.2.2.2.2.2.2.2.2.1).1 _ (vp_lt b6)).2.2.2 hS b5 rfl dJ1_charAt_3b067_8 ?_
  refine lv_sipush (v := 255) hx hb dJ1_charAt_3b067_9 (by decide) ?_
  refine lv_iand hx hb dJ1_charAt_3b067_12 ?_
  refine lv_i2c hx hb dJ1_charAt_3b067_13 rfl ?_
  obtain ⟨b7, h⟩ := ch_e h
  exact g_ret G hP hD hS h (ch_n b7) dJ1_charAt_3b067_14
noncomputable def hJ0_coder_7d493 (p0 : Int32) (s0 : St) : Option (Int32 × St) :=
  if (1 : Int32) = 0 then
    some (1, s0)
  else
    BND p0 16 <|
    some (0, s0)
set_option maxHeartbeats 4000000 in
set_option maxRecDepth 100000 in
theorem nJ0_coder_7d493 (l : Launch) (D : va_G) (cA : Nat → ClassId) (ad adF adW tt a : Nat → Nat) (fr : va_W) (ST : gST) (hT : STE ad adF adW tt ST) (hW : STW adW tt ST) (adV tv : Nat → Nat) (hV : STV adV tv ST) (p0 : Int32) (s0 : St) (r : Int32) (s' : St) (h : hJ0_coder_7d493 p0 s0 = some (r, s')) : gMet l yJ0_coder_7d493 cJ0_coder_7d493 1 (some .byte) 0 D (TYS cA) ST (wc cA ad a fr s0) [.ref (adV p0.toNatClampNeg)] (fun A => gQi D (TYS cA) A (wc cA ad a fr) r s') := by
  refine g_ofWF hT.1 (by decide +kernel) (Nat.le_of_ble_eq_true rfl) ?_
  intro p e s m args below meth c ls A G hP hD hl
  have G : GC p s m args meth c cJ0_coder_7d493 1 RJ0 (some .byte) A D (TYS cA) ST := G
  have hx := G.1
  have hb := G.2.1
  have hS : va_S A s.heap s.heap [] := va_S.rf
  have hl : lv_has ls 1 [(0, .ref (adV p0.toNatClampNeg))] := hl
  unfold hJ0_coder_7d493 at h
  refine va_gets hx hb (hW _ _ G.2.2.2.2.2.2.2.2.2.2.1).1 hS G.2.2.2.1 (G.2.2.2.2.1 _ q4_206) (fun _ h9 => h9) dJ0_coder_7d493_0 ?_
  refine lv_if_eq (tgt := 13) hx hb dJ0_coder_7d493_3 (by decide) (fun c1 => ?_) (fun c1 => ?_)
  · replace h := it_t c1 h
    refine lv_iconst (v := 1) hx hb dJ0_coder_7d493_13 (by decide) ?_
    exact g_ret G hP hD hS h rfl dJ0_coder_7d493_14
  · replace h := it_f c1 h
    refine lv_aload_n hx hb dJ0_coder_7d493_6 rfl (lv_at hl 0 rfl) ?_
    obtain ⟨b2, h⟩ := bnd_e h
    refine vk_getf hx hb ((hV _ _ G.2.2.2.2.2.2.2.2.2.2.1).1 _ (vp_lt b2)).2.1 hS G.2.2.2.1 (G.2.2.2.2.1 _ q7_74) (fun _ h9 => h9) dJ0_coder_7d493_7 ?_
    refine lv_goto (tgt := 14) hx hb dJ0_coder_7d493_10 (by decide) ?_
    exact g_ret G hP hD hS h rfl dJ0_coder_7d493_14
noncomputable def hJ0_isLatin1_aae02 (p0 : Int32) (s0 : St) : Option (Int32 × St) :=
  if (1 : Int32) = 0 then
    some (0, s0)
  else
    BND p0 16 <|
    if (0 : Int32) = 0 then
      some (1, s0)
    else
      some (0, s0)
set_option maxHeartbeats 4000000 in
set_option maxRecDepth 100000 in
theorem nJ0_isLatin1_aae02 (l : Launch) (D : va_G) (cA : Nat → ClassId) (ad adF adW tt a : Nat → Nat) (fr : va_W) (ST : gST) (hT : STE ad adF adW tt ST) (hW : STW adW tt ST) (adV tv : Nat → Nat) (hV : STV adV tv ST) (p0 : Int32) (s0 : St) (r : Int32) (s' : St) (h : hJ0_isLatin1_aae02 p0 s0 = some (r, s')) : gMet l yJ0_isLatin1_aae02 cJ0_isLatin1_aae02 1 (some .boolean) 0 D (TYS cA) ST (wc cA ad a fr s0) [.ref (adV p0.toNatClampNeg)] (fun A => gQi D (TYS cA) A (wc cA ad a fr) r s') := by
  refine g_ofWF hT.1 (by decide +kernel) (Nat.le_of_ble_eq_true rfl) ?_
  intro p e s m args below meth c ls A G hP hD hl
  have G : GC p s m args meth c cJ0_isLatin1_aae02 1 RJ0 (some .boolean) A D (TYS cA) ST := G
  have hx := G.1
  have hb := G.2.1
  have hS : va_S A s.heap s.heap [] := va_S.rf
  have hl : lv_has ls 1 [(0, .ref (adV p0.toNatClampNeg))] := hl
  unfold hJ0_isLatin1_aae02 at h
  refine va_gets hx hb (hW _ _ G.2.2.2.2.2.2.2.2.2.2.1).1 hS G.2.2.2.1 (G.2.2.2.2.1 _ q4_206) (fun _ h9 => h9) dJ0_isLatin1_aae02_0 ?_
  refine lv_if_eq (tgt := 17) hx hb dJ0_isLatin1_aae02_3 (by decide) (fun c1 => ?_) (fun c1 => ?_)
  · replace h := it_t c1 h
    refine lv_iconst (v := 0) hx hb dJ0_isLatin1_aae02_17 (by decide) ?_
    exact g_ret G hP hD hS h rfl dJ0_isLatin1_aae02_18
  · replace h := it_f c1 h
    refine lv_aload_n hx hb dJ0_isLatin1_aae02_6 rfl (lv_at hl 0 rfl) ?_
    obtain ⟨b2, h⟩ := bnd_e h
    refine vk_getf hx hb ((hV _ _ G.2.2.2.2.2.2.2.2.2.2.1).1 _ (vp_lt b2)).2.1 hS G.2.2.2.1 (G.2.2.2.2.1 _ q7_74) (fun _ h9 => h9) dJ0_isLatin1_aae02_7 ?_
    refine lv_if_ne (tgt := 17) hx hb dJ0_isLatin1_aae02_10 (by decide) (fun c3 => ?_) (fun c3 => ?_)
    · replace h := it_f c3 h
      refine lv_iconst (v := 0) hx hb dJ0_isLatin1_aae02_17 (by decide) ?_
      exact g_ret G hP hD hS h rfl dJ0_isLatin1_aae02_18
    · replace h := it_t c3 h
      refine lv_iconst (v := 1) hx hb dJ0_isLatin1_aae02_13 (by decide) ?_
      refine lv_goto (tgt := 18) hx hb dJ0_isLatin1_aae02_14 (by decide) ?_
      exact g_ret G hP hD hS h rfl dJ0_isLatin1_aae02_18
noncomputable def hJ0_length_8abf5 (p0 : Int32) (s0 : St) : Option (Int32 × St) :=
  BND p0 16 <|
  BND p0 16 <|
  BND p0 16 <|
  OB (hJ0_coder_7d493 p0 s0) fun r3 s4 =>
  some ((Int32.ofNat (vLen.getD p0.toNatClampNeg 0)) >>> (r3 &&& 31), s4)
set_option maxHeartbeats 4000000 in
set_option maxRecDepth 100000 in
theorem nJ0_length_8abf5 (l : Launch) (D : va_G) (cA : Nat → ClassId) (ad adF adW tt a : Nat → Nat) (fr : va_W) (ST : gST) (hT : STE ad adF adW tt ST) (hW : STW adW tt ST) (adV tv : Nat → Nat) (hV : STV adV tv ST) (p0 : Int32) (s0 : St) (r : Int32) (s' : St) (h : hJ0_length_8abf5 p0 s0 = some (r, s')) : gMet l yJ0_length_8abf5 cJ0_length_8abf5 1 (some .int) 1 D (TYS cA) ST (wc cA ad a fr s0) [.ref (adV p0.toNatClampNeg)] (fun A => gQi D (TYS cA) A (wc cA ad a fr) r s') := by
  refine g_ofWF hT.1 (by decide +kernel) (Nat.le_of_ble_eq_true rfl) ?_
  intro p e s m args below meth c ls A G hP hD hl
  have G : GC p s m args meth c cJ0_length_8abf5 1 RJ0 (some .int) A D (TYS cA) ST := G
  have hx := G.1
  have hb := G.2.1
  have hS : va_S A s.heap s.heap [] := va_S.rf
  have hl : lv_has ls 1 [(0, .ref (adV p0.toNatClampNeg))] := hl
  unfold hJ0_length_8abf5 at h
  refine lv_aload_n hx hb dJ0_length_8abf5_0 rfl (lv_at hl 0 rfl) ?_
  obtain ⟨b1, h⟩ := bnd_e h
  refine vk_getf hx hb ((hV _ _ G.2.2.2.2.2.2.2.2.2.2.1).1 _ (vp_lt b1)).2.2.1 hS G.2.2.2.1 (G.2.2.2.2.1 _ q7_73) (fun _ h9 => h9) dJ0_length_8abf5_1 ?_
  obtain ⟨b2, h⟩ := bnd_e h
  refine va_tlen (v := Int32.ofNat (vLen.getD p0.toNatClampNeg 0)) hx hb ((hV _ _ G.2.2.2.2.2.2.2.2.2.2.1).1 _ (vp_lt b2)).2.2.2 hS rfl dJ0_length_8abf5_4 ?_
  refine lv_aload_n hx hb dJ0_length_8abf5_5 rfl (lv_at hl 0 rfl) ?_
  obtain ⟨b6, h⟩ := bnd_e h
  obtain ⟨r3, s4, g5, h⟩ := ob_e h
  refine g_callWi (nA := 0) (nJ0_coder_7d493 l D cA ad adF adW tt a fr ST hT hW adV tv hV p0 s0 r3 s4 g5) G hP hD hS (g_good q4_202 q4_203 q4_204 q1_14 q4_205) (by decide +kernel) (by decide) (vk_recv (hV _ _ G.2.2.2.2.2.2.2.2.2.2.1) (vp_lt b6) hS) rfl hl.1 [.int (Int32.ofNat (vLen.getD p0.toNatClampNeg 0))] rfl (Nat.le_of_ble_eq_true rfl) dJ0_length_8abf5_6 (fun H locs hP hD hS => ?_)
  refine lv_ishr hx hb dJ0_length_8abf5_9 ?_
  exact g_ret G hP hD hS h rfl dJ0_length_8abf5_10
noncomputable def hJ0_charAt_5068e (p0 : Int32) (p1 : Int32) (s0 : St) : Option (Int32 × St) :=
  BND p0 16 <|
  OB (hJ0_isLatin1_aae02 p0 s0) fun r1 s2 =>
  if r1 = 0 then
    BND p0 16 <|
    none
  else
    BND p0 16 <|
    OB (hJ1_charAt_3b067 p0 p1 s2) fun r8 s9 =>
    CH r8 <|
    some (r8, s9)
set_option maxHeartbeats 4000000 in
set_option maxRecDepth 100000 in
theorem nJ0_charAt_5068e (l : Launch) (D : va_G) (cA : Nat → ClassId) (ad adF adW tt a : Nat → Nat) (fr : va_W) (ST : gST) (hT : STE ad adF adW tt ST) (hW : STW adW tt ST) (adV tv : Nat → Nat) (hV : STV adV tv ST) (p0 : Int32) (p1 : Int32) (s0 : St) (r : Int32) (s' : St) (h : hJ0_charAt_5068e p0 p1 s0 = some (r, s')) : gMet l yJ0_charAt_5068e cJ0_charAt_5068e 2 (some .char) 3 D (TYS cA) ST (wc cA ad a fr s0) [.ref (adV p0.toNatClampNeg), .int p1] (fun A => gQi D (TYS cA) A (wc cA ad a fr) r s') := by
  refine g_ofWF hT.1 (by decide +kernel) (Nat.le_of_ble_eq_true rfl) ?_
  intro p e s m args below meth c ls A G hP hD hl
  have G : GC p s m args meth c cJ0_charAt_5068e 2 RJ0 (some .char) A D (TYS cA) ST := G
  have hx := G.1
  have hb := G.2.1
  have hS : va_S A s.heap s.heap [] := va_S.rf
  have hl : lv_has ls 2 [(0, .ref (adV p0.toNatClampNeg)), (1, .int p1)] := hl
  unfold hJ0_charAt_5068e at h
  refine lv_aload_n hx hb dJ0_charAt_5068e_0 rfl (lv_at hl 0 rfl) ?_
  obtain ⟨b4, h⟩ := bnd_e h
  obtain ⟨r1, s2, g3, h⟩ := ob_e h
  refine g_callWi (nA := 0) (nJ0_isLatin1_aae02 l D cA ad adF adW tt a fr ST hT hW adV tv hV p0 s0 r1 s2 g3) G hP hD hS (g_good q4_211 q4_212 q4_213 q1_14 q4_214) (by decide +kernel) (by decide) (vk_recv (hV _ _ G.2.2.2.2.2.2.2.2.2.2.1) (vp_lt b4) hS) rfl hl.1 [] rfl (Nat.le_of_ble_eq_true rfl) dJ0_charAt_5068e_1 (fun H locs hP hD hS => ?_)
  refine lv_if_eq (tgt := 16) hx hb dJ0_charAt_5068e_4 (by decide) (fun c5 => ?_) (fun c5 => ?_)
  · replace h := it_t c5 h
    refine lv_aload_n hx hb dJ0_charAt_5068e_16 rfl (lv_at hl 0 rfl) ?_
    obtain ⟨b6, h⟩ := bnd_e h
    refine vk_getf hx hb ((hV _ _ G.2.2.2.2.2.2.2.2.2.2.1).1 _ (vp_lt b6)).2.2.1 hS G.2.2.2.1 (G.2.2.2.2.1 _ q7_73) (fun _ h9 => h9) dJ0_charAt_5068e_17 ?_
    refine lv_iload_n hx hb dJ0_charAt_5068e_20 rfl (lv_at hl 1 rfl) ?_
    cases h
  · replace h := it_f c5 h
    refine lv_aload_n hx hb dJ0_charAt_5068e_7 rfl (lv_at hl 0 rfl) ?_
    obtain ⟨b7, h⟩ := bnd_e h
    refine vk_getf hx hb ((hV _ _ G.2.2.2.2.2.2.2.2.2.2.1).1 _ (vp_lt b7)).2.2.1 hS G.2.2.2.1 (G.2.2.2.2.1 _ q7_73) (fun _ h9 => h9) dJ0_charAt_5068e_8 ?_
    refine lv_iload_n hx hb dJ0_charAt_5068e_11 rfl (lv_at hl 1 rfl) ?_
    obtain ⟨r8, s9, g10, h⟩ := ob_e h
    refine g_callSXi (nA := 2) (nJ1_charAt_3b067 l D cA ad adF adW tt a fr ST hT hW adV tv hV p0 p1 s2 r8 s9 g10) G hP hD hS (g_goodSX q4_215 q4_216 q1_35 q4_217) (by decide +kernel) (by decide) rfl hl.1 [] rfl (Nat.le_of_ble_eq_true rfl) dJ0_charAt_5068e_12 (fun H locs hP hD hS => ?_)
    obtain ⟨b11, h⟩ := ch_e h
    exact g_ret G hP hD hS h (ch_n b11) dJ0_charAt_5068e_15
theorem v_ok : ((List.range 16).all fun k => decide (vLen.getD k 0 = (vT.getD k []).length) && (List.range (vLen.getD k 0)).all fun i => decide (((((vByt.getD k []).getD i 0) &&& 255).toUInt32 % 65536).toInt32 = nI ((vT.getD k []).getD i 0)) && (decide (vp_nar .char (((((vByt.getD k []).getD i 0) &&& 255).toUInt32 % 65536).toInt32) = ((((vByt.getD k []).getD i 0) &&& 255).toUInt32 % 65536).toInt32) && (decide (32 ≤ (vT.getD k []).getD i 0) && decide ((vT.getD k []).getD i 0 ≤ 126)))) = true := by decide +kernel
theorem v_len {σ : St} {k : Nat} (hk : k < 16) : hJ0_length_8abf5 (nI k) σ = some (nI (vT.getD k []).length, σ) := by
  have h9 := List.all_eq_true.mp v_ok k (List.mem_range.mpr hk)
  rw [Bool.and_eq_true] at h9
  have h1 := of_decide_eq_true h9.1
  have h2 : (nI k).toNatClampNeg = k := nI_clamp (by omega)
  have h3 : vLen.getD k 0 < 100 := by
    have : (List.range 16).all (fun k => decide (vLen.getD k 0 < 100)) = true := by decide
    exact of_decide_eq_true (List.all_eq_true.mp this k (List.mem_range.mpr hk))
  have e0 : ∀ x : Int32, x >>> ((0 : Int32) &&& 31) = x := fun x => by
    rw [show ((0 : Int32) &&& 31) = 0 from by decide]
    exact Int32.shiftRight_zero
  unfold hJ0_length_8abf5 hJ0_coder_7d493
  rw [if_neg (show ¬ (1 : Int32) = 0 by decide)]
  rw [pu_BND hk (by omega), pu_BND hk (by omega), pu_BND hk (by omega), pu_BND hk (by omega), pu_OB, h2, e0, h1]
  rfl
theorem v_chr {σ : St} {k i : Nat} (hk : k < 16) (hi : i < (vT.getD k []).length) : hJ0_charAt_5068e (nI k) (nI i) σ = some (nI ((vT.getD k []).getD i 0), σ) ∧ 32 ≤ (vT.getD k []).getD i 0 ∧ (vT.getD k []).getD i 0 ≤ 126 := by
  have h9 := List.all_eq_true.mp v_ok k (List.mem_range.mpr hk)
  rw [Bool.and_eq_true] at h9
  have h1 := of_decide_eq_true h9.1
  have h8 := List.all_eq_true.mp h9.2 i (List.mem_range.mpr (by omega))
  rw [Bool.and_eq_true, Bool.and_eq_true, Bool.and_eq_true] at h8
  have a1 := of_decide_eq_true h8.1
  have a2 := of_decide_eq_true h8.2.1
  have a3 := of_decide_eq_true h8.2.2.1
  have a4 := of_decide_eq_true h8.2.2.2
  have h3 : vLen.getD k 0 < 100 := by
    have : (List.range 16).all (fun k => decide (vLen.getD k 0 < 100)) = true := by decide
    exact of_decide_eq_true (List.all_eq_true.mp this k (List.mem_range.mpr hk))
  have h2 : (nI k).toNatClampNeg = k := nI_clamp (by omega)
  have h4 : (nI i).toNatClampNeg = i := nI_clamp (by omega)
  refine ⟨?_, a3, a4⟩
  have ec : fJ0_checkIndex_df160 (nI i) (Int32.ofNat (vLen.getD k 0)) σ = some (0, σ) := by
    unfold fJ0_checkIndex_df160 fCI
    rw [if_neg (nI_pos (by omega)), if_pos (show nI i < Int32.ofNat (vLen.getD k 0) from nI_lt (a := i) (b := vLen.getD k 0) (by omega) (by omega)), pu_OB]
  unfold hJ0_charAt_5068e hJ0_isLatin1_aae02 hJ1_charAt_3b067
  rw [if_neg (show ¬ (1 : Int32) = 0 by decide), if_pos rfl]
  rw [pu_BND hk (by omega), pu_BND hk (by omega), pu_OB, if_neg (show ¬ (1 : Int32) = 0 by decide), pu_BND hk (by omega), pu_BND hk (by omega), h2, ec, pu_OB, pu_BND hk (by omega), pu_BND (by omega) (by omega), h4]
  unfold CH
  rw [if_pos a2, pu_OB, if_pos a2, a1]
