theorem look_out_dummy : True := trivial
def fX12_thrown (s0 : St) : Option (Int32 × St) :=
  some (s0 0 13, s0)
set_option maxHeartbeats 4000000 in
set_option maxRecDepth 100000 in
theorem mX12_thrown (l : Launch) (D : va_G) (cA : Nat → ClassId) (ad a : Nat → Nat) (fr : va_W) (s0 : St) (r : Int32) (s' : St) (h : fX12_thrown s0 = some (r, s')) : gMet l yX12_thrown cX12_thrown 1 (some .int) 0 D (TYS cA) ST0 (wm cA ad a fr s0) [.ref (a 0)] (fun A => gQi D (TYS cA) A (wm cA ad a fr) r s') := by
  refine g_ofW st0_ok (by decide) (Nat.le_of_ble_eq_true rfl) ?_
  intro p e s m args below meth c ls A G hP hD hl
  have G : GC p s m args meth c cX12_thrown 1 RX12 (some .int) A D (TYS cA) ST0 := G
  have hx := G.1
  have hb := G.2.1
  have hS : va_S A s.heap s.heap [] := va_S.rf
  have hl : lv_has ls 1 [(0, .ref (a 0))] := hl
  unfold fX12_thrown at h
  refine lv_aload_n hx hb dX12_thrown_0 rfl (lv_at hl 0 rfl) ?_
  refine gf12_thrown G hP dX12_thrown_1 ?_
  exact g_ret G hP hD hS h rfl dX12_thrown_4
noncomputable def fX12_copy_L3b (nF : Nat) (p1 p1n : Nat) (p3 p3n : Nat) (K3 : Int32 → Int32 → Int32 → St → Option (Int32 × St)) (x1 : Int32) (x3 : Int32) (x4 : Int32) (s1 : St) : Option (Int32 × St) :=
  if 156 ≤ x4 then
    some (0, s1)
  else
    BND (x1 + x4) p1n <|
    BND (x3 + x4) p3n <|
    LET (u2 s1 p3 (x3 + x4).toNatClampNeg (s1 p1 (x1 + x4).toNatClampNeg)) fun s4 =>
    LET (x4 + 1) fun y5 =>
    K3 x1 x3 y5 s4
noncomputable def fX12_copy_L3 (nF : Nat) (p1 p1n : Nat) (p3 p3n : Nat) : Nat → Int32 → Int32 → Int32 → St → Option (Int32 × St) := fun k => Nat.rec (fun _ _ _ _ => none) (fun _ K => fX12_copy_L3b nF p1 p1n p3 p3n K) k
theorem fX12_copy_L3_s (nF : Nat) (p1 p1n : Nat) (p3 p3n : Nat) (k : Nat) : fX12_copy_L3 nF p1 p1n p3 p3n (k + 1) = fX12_copy_L3b nF p1 p1n p3 p3n (fX12_copy_L3 nF p1 p1n p3 p3n k) := rfl
noncomputable def fX12_copy (nF : Nat) (p1 p1n : Nat) (p3 p3n : Nat) (p2 : Int32) (p4 : Int32) (s0 : St) : Option (Int32 × St) :=
  fX12_copy_L3 nF p1 p1n p3 p3n nF p2 p4 0 s0
set_option maxHeartbeats 4000000 in
set_option maxRecDepth 100000 in
theorem mX12_copy (l : Launch) (D : va_G) (cA : Nat → ClassId) (ad a : Nat → Nat) (fr : va_W) (nF : Nat) (p1 p1n : Nat) (p3 p3n : Nat) (hp1 : p1 < 9) (hsp1 : sh12 p1 = .inr (.inl (0, p1n))) (hp3 : p3 < 9) (hsp3 : sh12 p3 = .inr (.inl (0, p3n))) (p2 : Int32) (p4 : Int32) (s0 : St) (r : Int32) (s' : St) (h : fX12_copy nF p1 p1n p3 p3n p2 p4 s0 = some (r, s')) : gMet l yX12_copy cX12_copy 5 none 0 D (TYS cA) ST0 (wm cA ad a fr s0) [.ref (a p1), .int p2, .ref (a p3), .int p4] (fun A => gQv D (TYS cA) A (wm cA ad a fr) s') := by
  refine g_ofW st0_ok (by decide) (Nat.le_of_ble_eq_true rfl) ?_
  intro p e s m args below meth c ls A G hP hD hl
  have G : GC p s m args meth c cX12_copy 5 RX12 none A D (TYS cA) ST0 := G
  have hx := G.1
  have hb := G.2.1
  have hS : va_S A s.heap s.heap [] := va_S.rf
  have hl : lv_has ls 5 [(0, .ref (a p1)), (1, .int p2), (2, .ref (a p3)), (3, .int p4)] := hl
  have hB3 : ∀ (K3 : Int32 → Int32 → Int32 → St → Option (Int32 × St)), (∀ (x1 : Int32) (x3 : Int32) (x4 : Int32) (s1 : St), K3 x1 x3 x4 s1 = some (r, s') → ∀ (H : Heap) (locs : List Loc) (ls : Array Slot), va_P D vwCl (wm cA ad a fr s1) H → va_D A (wm cA ad a fr s1) → va_S A s.heap H locs → lv_has ls 5 [(0, .ref (a p1)), (1, .int x1), (2, .ref (a p3)), (3, .int x3), (4, .int x4)] → W p l e (RM 0) s m args below meth c H locs 0 0 (MQ below (gQv D (TYS cA) A (wm cA ad a fr) s') args s 0 0 A) (F0 m 3 ls [])) → ∀ (x1 : Int32) (x3 : Int32) (x4 : Int32) (s1 : St), fX12_copy_L3b nF p1 p1n p3 p3n K3 x1 x3 x4 s1 = some (r, s') → ∀ (H : Heap) (locs : List Loc) (ls : Array Slot), va_P D vwCl (wm cA ad a fr s1) H → va_D A (wm cA ad a fr s1) → va_S A s.heap H locs → lv_has ls 5 [(0, .ref (a p1)), (1, .int x1), (2, .ref (a p3)), (3, .int x3), (4, .int x4)] → W p l e (RM 0) s m args below meth c H locs 0 0 (MQ below (gQv D (TYS cA) A (wm cA ad a fr) s') args s 0 0 A) (F0 m 3 ls []) := by
    intro K3 hK3 x1 x3 x4 s1 h H locs ls hP hD hS hl
    unfold fX12_copy_L3b at h
    refine lv_iload hx hb dX12_copy_3 (lv_at hl 4 rfl) ?_
    refine lv_sipush (v := 156) hx hb dX12_copy_5 (by decide) ?_
    refine lv_icmp_ge (tgt := 29) hx hb dX12_copy_8 (by decide) (fun c1 => ?_) (fun c1 => ?_)
    · replace h := it_t c1 h
      exact g_vret G hP hD hS h dX12_copy_29
    · replace h := it_f c1 h
      refine lv_aload_n hx hb dX12_copy_11 rfl (lv_at hl 2 rfl) ?_
      refine lv_iload_n hx hb dX12_copy_12 rfl (lv_at hl 3 rfl) ?_
      refine lv_iload hx hb dX12_copy_13 (lv_at hl 4 rfl) ?_
      refine lv_iadd hx hb dX12_copy_15 ?_
      refine lv_aload_n hx hb dX12_copy_16 rfl (lv_at hl 0 rfl) ?_
      refine lv_iload_n hx hb dX12_copy_17 rfl (lv_at hl 1 rfl) ?_
      refine lv_iload hx hb dX12_copy_18 (lv_at hl 4 rfl) ?_
      refine lv_iadd hx hb dX12_copy_20 ?_
      obtain ⟨b2, h⟩ := bnd_e h
      refine g_ald (t := 0) (ty := .int) (Or.inl rfl) G hP p1 hp1 hsp1 rfl b2 dX12_copy_21 ?_
      obtain ⟨b3, h⟩ := bnd_e h
      refine g_ast (t := 0) (ty := .int) (Or.inl rfl) G hP hD hS p3 hp3 hsp3 rfl b3 dX12_copy_22 (fun s4 es4 H locs hP hD hS => ?_)
      replace h := let_e es4 h
      obtain ⟨y5, ey5⟩ : ∃ y : Int32, y = x4 + 1 := ⟨_, rfl⟩
      replace h := let_e ey5 h
      refine lv_iinc (v := y5) (lv' := [(4, .int y5), (0, .ref (a p1)), (1, .int x1), (2, .ref (a p3)), (3, .int x3)]) hx hb dX12_copy_23 hl (k := 4) rfl (by rw [ey5]; rfl) (by decide) rfl (fun ls hl => ?_)
      refine lv_goto (tgt := 3) hx hb dX12_copy_26 (by decide) ?_
      exact hK3 x1 x3 y5 s4 h H _ ls hP hD hS (lv_sub hl [1, 2, 3, 4, 0] rfl)
  have hL3 : ∀ k : Nat, ∀ (x1 : Int32) (x3 : Int32) (x4 : Int32) (s1 : St), fX12_copy_L3 nF p1 p1n p3 p3n k x1 x3 x4 s1 = some (r, s') → ∀ (H : Heap) (locs : List Loc) (ls : Array Slot), va_P D vwCl (wm cA ad a fr s1) H → va_D A (wm cA ad a fr s1) → va_S A s.heap H locs → lv_has ls 5 [(0, .ref (a p1)), (1, .int x1), (2, .ref (a p3)), (3, .int x3), (4, .int x4)] → W p l e (RM 0) s m args below meth c H locs 0 0 (MQ below (gQv D (TYS cA) A (wm cA ad a fr) s') args s 0 0 A) (F0 m 3 ls []) := by
    intro k
    induction k with
    | zero => intro x1 x3 x4 s1 h; cases h
    | succ k ih => exact hB3 (fX12_copy_L3 nF p1 p1n p3 p3n k) ih
  unfold fX12_copy at h
  refine lv_iconst (v := 0) hx hb dX12_copy_0 (by decide) ?_
  refine lv_istore (lv' := [(4, .int 0), (0, .ref (a p1)), (1, .int p2), (2, .ref (a p3)), (3, .int p4)]) hx hb dX12_copy_1 hl (by decide) rfl (fun ls hl => ?_)
  exact hL3 nF p2 p4 0 s0 h _ _ ls hP hD hS (lv_sub hl [1, 2, 3, 4, 0] rfl)
noncomputable def fX12_begin (nF : Nat) (s0 : St) : Option (Int32 × St) :=
  OB (fX12_copy nF 1 156 2 156 0 0 s0) fun r1 s2 =>
  some (0, s2)
set_option maxHeartbeats 4000000 in
set_option maxRecDepth 100000 in
theorem mX12_begin (l : Launch) (D : va_G) (cA : Nat → ClassId) (ad a : Nat → Nat) (fr : va_W) (nF : Nat) (s0 : St) (r : Int32) (s' : St) (h : fX12_begin nF s0 = some (r, s')) : gMet l yX12_begin cX12_begin 1 none 1 D (TYS cA) ST0 (wm cA ad a fr s0) [.ref (a 0)] (fun A => gQv D (TYS cA) A (wm cA ad a fr) s') := by
  refine g_ofW st0_ok (by decide) (Nat.le_of_ble_eq_true rfl) ?_
  intro p e s m args below meth c ls A G hP hD hl
  have G : GC p s m args meth c cX12_begin 1 RX12 none A D (TYS cA) ST0 := G
  have hx := G.1
  have hb := G.2.1
  have hS : va_S A s.heap s.heap [] := va_S.rf
  have hl : lv_has ls 1 [(0, .ref (a 0))] := hl
  unfold fX12_begin at h
  refine lv_aload_n hx hb dX12_begin_0 rfl (lv_at hl 0 rfl) ?_
  refine gf12_g G hP dX12_begin_1 ?_
  refine lv_iconst (v := 0) hx hb dX12_begin_4 (by decide) ?_
  refine lv_aload_n hx hb dX12_begin_5 rfl (lv_at hl 0 rfl) ?_
  refine gf12_before G hP dX12_begin_6 ?_
  refine lv_iconst (v := 0) hx hb dX12_begin_9 (by decide) ?_
  obtain ⟨r1, s2, g3, h⟩ := ob_e h
  refine g_callSv (nA := 4) (mX12_copy l D cA ad a fr nF 1 156 2 156 (by decide) sh12_1 (by decide) sh12_2 0 0 s0 r1 s2 g3) G hP hD hS (g_goodS q7_227 q7_228 q1_16 q7_229) (by decide +kernel) (by decide) rfl hl.1 [] rfl (Nat.le_of_ble_eq_true rfl) dX12_begin_10 (fun H locs hP hD hS => ?_)
  exact g_vret G hP hD hS h dX12_begin_13
def fX12_in (p1 : Int32) (p2 : Int32) (p3 : Int32) (s0 : St) : Option (Int32 × St) :=
  if p1 < p2 then
    some (0, s0)
  else
    if p3 < p1 then
      some (0, s0)
    else
      some (1, s0)
set_option maxHeartbeats 4000000 in
set_option maxRecDepth 100000 in
theorem mX12_in (l : Launch) (D : va_G) (cA : Nat → ClassId) (ad a : Nat → Nat) (fr : va_W) (p1 : Int32) (p2 : Int32) (p3 : Int32) (s0 : St) (r : Int32) (s' : St) (h : fX12_in p1 p2 p3 s0 = some (r, s')) : gMet l yX12_in cX12_in 3 (some .boolean) 0 D (TYS cA) ST0 (wm cA ad a fr s0) [.int p1, .int p2, .int p3] (fun A => gQi D (TYS cA) A (wm cA ad a fr) r s') := by
  refine g_ofW st0_ok (by decide) (Nat.le_of_ble_eq_true rfl) ?_
  intro p e s m args below meth c ls A G hP hD hl
  have G : GC p s m args meth c cX12_in 3 RX12 (some .boolean) A D (TYS cA) ST0 := G
  have hx := G.1
  have hb := G.2.1
  have hS : va_S A s.heap s.heap [] := va_S.rf
  have hl : lv_has ls 3 [(0, .int p1), (1, .int p2), (2, .int p3)] := hl
  unfold fX12_in at h
  refine lv_iload_n hx hb dX12_in_0 rfl (lv_at hl 0 rfl) ?_
  refine lv_iload_n hx hb dX12_in_1 rfl (lv_at hl 1 rfl) ?_
  refine lv_icmp_lt (tgt := 14) hx hb dX12_in_2 (by decide) (fun c1 => ?_) (fun c1 => ?_)
  · replace h := it_t c1 h
    refine lv_iconst (v := 0) hx hb dX12_in_14 (by decide) ?_
    exact g_ret G hP hD hS h rfl dX12_in_15
  · replace h := it_f c1 h
    refine lv_iload_n hx hb dX12_in_5 rfl (lv_at hl 0 rfl) ?_
    refine lv_iload_n hx hb dX12_in_6 rfl (lv_at hl 2 rfl) ?_
    refine lv_icmp_gt (tgt := 14) hx hb dX12_in_7 (by decide) (fun c2 => ?_) (fun c2 => ?_)
    · replace h := it_t c2 h
      refine lv_iconst (v := 0) hx hb dX12_in_14 (by decide) ?_
      exact g_ret G hP hD hS h rfl dX12_in_15
    · replace h := it_f c2 h
      refine lv_iconst (v := 1) hx hb dX12_in_10 (by decide) ?_
      refine lv_goto (tgt := 15) hx hb dX12_in_11 (by decide) ?_
      exact g_ret G hP hD hS h rfl dX12_in_15
def fX12_isBand (p1 : Int32) (s0 : St) : Option (Int32 × St) :=
  OB (fX12_in p1 0 7 s0) fun r1 s2 =>
  BL r1 <|
  some (r1, s2)
set_option maxHeartbeats 4000000 in
set_option maxRecDepth 100000 in
theorem mX12_isBand (l : Launch) (D : va_G) (cA : Nat → ClassId) (ad a : Nat → Nat) (fr : va_W) (p1 : Int32) (s0 : St) (r : Int32) (s' : St) (h : fX12_isBand p1 s0 = some (r, s')) : gMet l yX12_isBand cX12_isBand 1 (some .boolean) 1 D (TYS cA) ST0 (wm cA ad a fr s0) [.int p1] (fun A => gQi D (TYS cA) A (wm cA ad a fr) r s') := by
  refine g_ofW st0_ok (by decide) (Nat.le_of_ble_eq_true rfl) ?_
  intro p e s m args below meth c ls A G hP hD hl
  have G : GC p s m args meth c cX12_isBand 1 RX12 (some .boolean) A D (TYS cA) ST0 := G
  have hx := G.1
  have hb := G.2.1
  have hS : va_S A s.heap s.heap [] := va_S.rf
  have hl : lv_has ls 1 [(0, .int p1)] := hl
  unfold fX12_isBand at h
  refine lv_iload_n hx hb dX12_isBand_0 rfl (lv_at hl 0 rfl) ?_
  refine lv_iconst (v := 0) hx hb dX12_isBand_1 (by decide) ?_
  refine lv_bipush (v := 7) hx hb dX12_isBand_2 (by decide) ?_
  obtain ⟨r1, s2, g3, h⟩ := ob_e h
  refine g_callSi (nA := 3) (mX12_in l D cA ad a fr p1 0 7 s0 r1 s2 g3) G hP hD hS (g_goodS q7_237 q7_238 q1_16 q7_239) (by decide +kernel) (by decide) rfl hl.1 [] rfl (Nat.le_of_ble_eq_true rfl) dX12_isBand_4 (fun H locs hP hD hS => ?_)
  obtain ⟨b4, h⟩ := bl_e h
  exact g_ret G hP hD hS h (bl_n b4) dX12_isBand_7
def fX12_fails (p1 : Int32) (s0 : St) : Option (Int32 × St) :=
  LET (u2 s0 0 13 p1) fun s1 =>
  some (0, s1)
set_option maxHeartbeats 4000000 in
set_option maxRecDepth 100000 in
theorem mX12_fails (l : Launch) (D : va_G) (cA : Nat → ClassId) (ad a : Nat → Nat) (fr : va_W) (p1 : Int32) (s0 : St) (r : Int32) (s' : St) (h : fX12_fails p1 s0 = some (r, s')) : gMet l yX12_fails cX12_fails 2 (some .int) 0 D (TYS cA) ST0 (wm cA ad a fr s0) [.ref (a 0), .int p1] (fun A => gQi D (TYS cA) A (wm cA ad a fr) r s') := by
  refine g_ofW st0_ok (by decide) (Nat.le_of_ble_eq_true rfl) ?_
  intro p e s m args below meth c ls A G hP hD hl
  have G : GC p s m args meth c cX12_fails 2 RX12 (some .int) A D (TYS cA) ST0 := G
  have hx := G.1
  have hb := G.2.1
  have hS : va_S A s.heap s.heap [] := va_S.rf
  have hl : lv_has ls 2 [(0, .ref (a 0)), (1, .int p1)] := hl
  unfold fX12_fails at h
  refine lv_aload_n hx hb dX12_fails_0 rfl (lv_at hl 0 rfl) ?_
  refine lv_iload_n hx hb dX12_fails_1 rfl (lv_at hl 1 rfl) ?_
  refine pf12_thrown G hP hD hS dX12_fails_2 (fun s1 es1 H locs hP hD hS => ?_)
  replace h := let_e es1 h
  refine lv_iconst (v := 0) hx hb dX12_fails_5 (by decide) ?_
  exact g_ret G hP hD hS h rfl dX12_fails_6
noncomputable def fX12_holder_L2b (nF : Nat) (K2 : Int32 → Int32 → St → Option (Int32 × St)) (x1 : Int32) (x2 : Int32) (s1 : St) : Option (Int32 × St) :=
  if 3 ≤ x2 then
    some ((-1), s1)
  else
    BND (13 + x2) 156 <|
    if (s1 1 (13 + x2).toNatClampNeg) = (x1 + 1) then
      some (x2, s1)
    else
      LET (x2 + 1) fun y4 =>
      K2 x1 y4 s1
noncomputable def fX12_holder_L2 (nF : Nat) : Nat → Int32 → Int32 → St → Option (Int32 × St) := fun k => Nat.rec (fun _ _ _ => none) (fun _ K => fX12_holder_L2b nF K) k
theorem fX12_holder_L2_s (nF : Nat) (k : Nat) : fX12_holder_L2 nF (k + 1) = fX12_holder_L2b nF (fX12_holder_L2 nF k) := rfl
noncomputable def fX12_holder (nF : Nat) (p1 : Int32) (s0 : St) : Option (Int32 × St) :=
  fX12_holder_L2 nF nF p1 0 s0
set_option maxHeartbeats 4000000 in
set_option maxRecDepth 100000 in
theorem mX12_holder (l : Launch) (D : va_G) (cA : Nat → ClassId) (ad a : Nat → Nat) (fr : va_W) (nF : Nat) (p1 : Int32) (s0 : St) (r : Int32) (s' : St) (h : fX12_holder nF p1 s0 = some (r, s')) : gMet l yX12_holder cX12_holder 3 (some .int) 0 D (TYS cA) ST0 (wm cA ad a fr s0) [.ref (a 0), .int p1] (fun A => gQi D (TYS cA) A (wm cA ad a fr) r s') := by
  refine g_ofW st0_ok (by decide) (Nat.le_of_ble_eq_true rfl) ?_
  intro p e s m args below meth c ls A G hP hD hl
  have G : GC p s m args meth c cX12_holder 3 RX12 (some .int) A D (TYS cA) ST0 := G
  have hx := G.1
  have hb := G.2.1
  have hS : va_S A s.heap s.heap [] := va_S.rf
  have hl : lv_has ls 3 [(0, .ref (a 0)), (1, .int p1)] := hl
  have hB2 : ∀ (K2 : Int32 → Int32 → St → Option (Int32 × St)), (∀ (x1 : Int32) (x2 : Int32) (s1 : St), K2 x1 x2 s1 = some (r, s') → ∀ (H : Heap) (locs : List Loc) (ls : Array Slot), va_P D vwCl (wm cA ad a fr s1) H → va_D A (wm cA ad a fr s1) → va_S A s.heap H locs → lv_has ls 3 [(0, .ref (a 0)), (1, .int x1), (2, .int x2)] → W p l e (RM 0) s m args below meth c H locs 0 0 (MQ below (gQi D (TYS cA) A (wm cA ad a fr) r s') args s 0 0 A) (F0 m 2 ls [])) → ∀ (x1 : Int32) (x2 : Int32) (s1 : St), fX12_holder_L2b nF K2 x1 x2 s1 = some (r, s') → ∀ (H : Heap) (locs : List Loc) (ls : Array Slot), va_P D vwCl (wm cA ad a fr s1) H → va_D A (wm cA ad a fr s1) → va_S A s.heap H locs → lv_has ls 3 [(0, .ref (a 0)), (1, .int x1), (2, .int x2)] → W p l e (RM 0) s m args below meth c H locs 0 0 (MQ below (gQi D (TYS cA) A (wm cA ad a fr) r s') args s 0 0 A) (F0 m 2 ls []) := by
    intro K2 hK2 x1 x2 s1 h H locs ls hP hD hS hl
    unfold fX12_holder_L2b at h
    refine lv_iload_n hx hb dX12_holder_2 rfl (lv_at hl 2 rfl) ?_
    refine lv_iconst (v := 3) hx hb dX12_holder_3 (by decide) ?_
    refine lv_icmp_ge (tgt := 30) hx hb dX12_holder_4 (by decide) (fun c1 => ?_) (fun c1 => ?_)
    · replace h := it_t c1 h
      refine lv_iconst (v := (-1)) hx hb dX12_holder_30 (by decide) ?_
      exact g_ret G hP hD hS h rfl dX12_holder_31
    · replace h := it_f c1 h
      refine lv_aload_n hx hb dX12_holder_7 rfl (lv_at hl 0 rfl) ?_
      refine gf12_g G hP dX12_holder_8 ?_
      refine lv_bipush (v := 13) hx hb dX12_holder_11 (by decide) ?_
      refine lv_iload_n hx hb dX12_holder_13 rfl (lv_at hl 2 rfl) ?_
      refine lv_iadd hx hb dX12_holder_14 ?_
      obtain ⟨b2, h⟩ := bnd_e h
      refine al12_1 G hP b2 dX12_holder_15 ?_
      refine lv_iload_n hx hb dX12_holder_16 rfl (lv_at hl 1 rfl) ?_
      refine lv_iconst (v := 1) hx hb dX12_holder_17 (by decide) ?_
      refine lv_iadd hx hb dX12_holder_18 ?_
      refine lv_icmp_ne (tgt := 24) hx hb dX12_holder_19 (by decide) (fun c3 => ?_) (fun c3 => ?_)
      · replace h := it_f c3 h
        obtain ⟨y4, ey4⟩ : ∃ y : Int32, y = x2 + 1 := ⟨_, rfl⟩
        replace h := let_e ey4 h
        refine lv_iinc (v := y4) (lv' := [(2, .int y4), (0, .ref (a 0)), (1, .int x1)]) hx hb dX12_holder_24 hl (k := 2) rfl (by rw [ey4]; rfl) (by decide) rfl (fun ls hl => ?_)
        refine lv_goto (tgt := 2) hx hb dX12_holder_27 (by decide) ?_
        exact hK2 x1 y4 s1 h H _ ls hP hD hS (lv_sub hl [1, 2, 0] rfl)
      · replace h := it_t c3 h
        refine lv_iload_n hx hb dX12_holder_22 rfl (lv_at hl 2 rfl) ?_
        exact g_ret G hP hD hS h rfl dX12_holder_23
  have hL2 : ∀ k : Nat, ∀ (x1 : Int32) (x2 : Int32) (s1 : St), fX12_holder_L2 nF k x1 x2 s1 = some (r, s') → ∀ (H : Heap) (locs : List Loc) (ls : Array Slot), va_P D vwCl (wm cA ad a fr s1) H → va_D A (wm cA ad a fr s1) → va_S A s.heap H locs → lv_has ls 3 [(0, .ref (a 0)), (1, .int x1), (2, .int x2)] → W p l e (RM 0) s m args below meth c H locs 0 0 (MQ below (gQi D (TYS cA) A (wm cA ad a fr) r s') args s 0 0 A) (F0 m 2 ls []) := by
    intro k
    induction k with
    | zero => intro x1 x2 s1 h; cases h
    | succ k ih => exact hB2 (fX12_holder_L2 nF k) ih
  unfold fX12_holder at h
  refine lv_iconst (v := 0) hx hb dX12_holder_0 (by decide) ?_
  refine lv_istore_n (lv' := [(2, .int 0), (0, .ref (a 0)), (1, .int p1)]) hx hb dX12_holder_1 rfl hl (by decide) rfl (fun ls hl => ?_)
  exact hL2 nF p1 0 s0 h _ _ ls hP hD hS (lv_sub hl [1, 2, 0] rfl)
noncomputable def fX12_waits (nF : Nat) (p1 : Int32) (s0 : St) : Option (Int32 × St) :=
  BND (72 + p1) 156 <|
  OB (fX12_holder nF (s0 1 (72 + p1).toNatClampNeg) s0) fun r2 s3 =>
  if r2 = ((-1)) then
    some (1, s3)
  else
    some (0, s3)
set_option maxHeartbeats 4000000 in
set_option maxRecDepth 100000 in
theorem mX12_waits (l : Launch) (D : va_G) (cA : Nat → ClassId) (ad a : Nat → Nat) (fr : va_W) (nF : Nat) (p1 : Int32) (s0 : St) (r : Int32) (s' : St) (h : fX12_waits nF p1 s0 = some (r, s')) : gMet l yX12_waits cX12_waits 2 (some .boolean) 1 D (TYS cA) ST0 (wm cA ad a fr s0) [.ref (a 0), .int p1] (fun A => gQi D (TYS cA) A (wm cA ad a fr) r s') := by
  refine g_ofW st0_ok (by decide) (Nat.le_of_ble_eq_true rfl) ?_
  intro p e s m args below meth c ls A G hP hD hl
  have G : GC p s m args meth c cX12_waits 2 RX12 (some .boolean) A D (TYS cA) ST0 := G
  have hx := G.1
  have hb := G.2.1
  have hS : va_S A s.heap s.heap [] := va_S.rf
  have hl : lv_has ls 2 [(0, .ref (a 0)), (1, .int p1)] := hl
  unfold fX12_waits at h
  refine lv_aload_n hx hb dX12_waits_0 rfl (lv_at hl 0 rfl) ?_
  refine lv_aload_n hx hb dX12_waits_1 rfl (lv_at hl 0 rfl) ?_
  refine gf12_g G hP dX12_waits_2 ?_
  refine lv_bipush (v := 72) hx hb dX12_waits_5 (by decide) ?_
  refine lv_iload_n hx hb dX12_waits_7 rfl (lv_at hl 1 rfl) ?_
  refine lv_iadd hx hb dX12_waits_8 ?_
  obtain ⟨b1, h⟩ := bnd_e h
  refine al12_1 G hP b1 dX12_waits_9 ?_
  obtain ⟨r2, s3, g4, h⟩ := ob_e h
  refine g_callVi (nA := 1) (mX12_holder l D cA ad a fr nF (s0 1 (72 + p1).toNatClampNeg) s0 r2 s3 g4) G hP hD hS (g_good q8_12 q8_14 qs_27 q1_16 q8_15) (by decide +kernel) (by decide) (by decide) sh12_0 rfl rfl hl.1 [] rfl (Nat.le_of_ble_eq_true rfl) dX12_waits_10 (fun H locs hP hD hS => ?_)
  refine lv_iconst (v := (-1)) hx hb dX12_waits_13 (by decide) ?_
  refine lv_icmp_ne (tgt := 21) hx hb dX12_waits_14 (by decide) (fun c5 => ?_) (fun c5 => ?_)
  · replace h := it_f c5 h
    refine lv_iconst (v := 0) hx hb dX12_waits_21 (by decide) ?_
    exact g_ret G hP hD hS h rfl dX12_waits_22
  · replace h := it_t c5 h
    refine lv_iconst (v := 1) hx hb dX12_waits_17 (by decide) ?_
    refine lv_goto (tgt := 22) hx hb dX12_waits_18 (by decide) ?_
    exact g_ret G hP hD hS h rfl dX12_waits_22
noncomputable def fX12_waiting_B28 (nF : Nat) (K4 : Int32 → Int32 → St → Option (Int32 × St)) (x2 : Int32) (z0 : Int32) (z1 : Int32) (s1 : St) : Option (Int32 × St) :=
  LET (z1 + z0) fun y1 =>
  LET (x2 + 1) fun y2 =>
  K4 y1 y2 s1
noncomputable def fX12_waiting_L4b (nF : Nat) (K4 : Int32 → Int32 → St → Option (Int32 × St)) (x1 : Int32) (x2 : Int32) (s1 : St) : Option (Int32 × St) :=
  BND 2 156 <|
  if (s1 1 (2 : Int32).toNatClampNeg) ≤ x2 then
    some (x1, s1)
  else
    OB (fX12_waits nF x2 s1) fun r5 s6 =>
    if r5 = 0 then
      fX12_waiting_B28 nF K4 x2 0 x1 s6
    else
      fX12_waiting_B28 nF K4 x2 1 x1 s6
noncomputable def fX12_waiting_L4 (nF : Nat) : Nat → Int32 → Int32 → St → Option (Int32 × St) := fun k => Nat.rec (fun _ _ _ => none) (fun _ K => fX12_waiting_L4b nF K) k
theorem fX12_waiting_L4_s (nF : Nat) (k : Nat) : fX12_waiting_L4 nF (k + 1) = fX12_waiting_L4b nF (fX12_waiting_L4 nF k) := rfl
noncomputable def fX12_waiting (nF : Nat) (s0 : St) : Option (Int32 × St) :=
  fX12_waiting_L4 nF nF 0 0 s0
set_option maxHeartbeats 4000000 in
set_option maxRecDepth 100000 in
theorem mX12_waiting (l : Launch) (D : va_G) (cA : Nat → ClassId) (ad a : Nat → Nat) (fr : va_W) (nF : Nat) (s0 : St) (r : Int32) (s' : St) (h : fX12_waiting nF s0 = some (r, s')) : gMet l yX12_waiting cX12_waiting 3 (some .int) 2 D (TYS cA) ST0 (wm cA ad a fr s0) [.ref (a 0)] (fun A => gQi D (TYS cA) A (wm cA ad a fr) r s') := by
  refine g_ofW st0_ok (by decide) (Nat.le_of_ble_eq_true rfl) ?_
  intro p e s m args below meth c ls A G hP hD hl
  have G : GC p s m args meth c cX12_waiting 3 RX12 (some .int) A D (TYS cA) ST0 := G
  have hx := G.1
  have hb := G.2.1
  have hS : va_S A s.heap s.heap [] := va_S.rf
  have hl : lv_has ls 3 [(0, .ref (a 0))] := hl
  have hB28 : ∀ (K4 : Int32 → Int32 → St → Option (Int32 × St)), (∀ (x1 : Int32) (x2 : Int32) (s1 : St), K4 x1 x2 s1 = some (r, s') → ∀ (H : Heap) (locs : List Loc) (ls : Array Slot), va_P D vwCl (wm cA ad a fr s1) H → va_D A (wm cA ad a fr s1) → va_S A s.heap H locs → lv_has ls 3 [(0, .ref (a 0)), (1, .int x1), (2, .int x2)] → W p l e (RM 2) s m args below meth c H locs 0 0 (MQ below (gQi D (TYS cA) A (wm cA ad a fr) r s') args s 0 0 A) (F0 m 4 ls [])) → ∀ (x2 : Int32) (z0 : Int32) (z1 : Int32) (s1 : St), fX12_waiting_B28 nF K4 x2 z0 z1 s1 = some (r, s') → ∀ (H : Heap) (locs : List Loc) (ls : Array Slot), va_P D vwCl (wm cA ad a fr s1) H → va_D A (wm cA ad a fr s1) → va_S A s.heap H locs → lv_has ls 3 [(0, .ref (a 0)), (2, .int x2)] → W p l e (RM 2) s m args below meth c H locs 0 0 (MQ below (gQi D (TYS cA) A (wm cA ad a fr) r s') args s 0 0 A) (F0 m 28 ls [.int z0, .int z1]) := by
    intro K4 hK4 x2 z0 z1 s1 h H locs ls hP hD hS hl
    unfold fX12_waiting_B28 at h
    refine lv_iadd hx hb dX12_waiting_28 ?_
    refine lv_topi (fun y1 ey1 => ?_)
    replace h := let_e ey1 h
    refine lv_istore_n (lv' := [(1, .int y1), (0, .ref (a 0)), (2, .int x2)]) hx hb dX12_waiting_29 rfl hl (by decide) rfl (fun ls hl => ?_)
    obtain ⟨y2, ey2⟩ : ∃ y : Int32, y = x2 + 1 := ⟨_, rfl⟩
    replace h := let_e ey2 h
    refine lv_iinc (v := y2) (lv' := [(2, .int y2), (1, .int y1), (0, .ref (a 0))]) hx hb dX12_waiting_30 hl (k := 2) rfl (by rw [ey2]; rfl) (by decide) rfl (fun ls hl => ?_)
    refine lv_goto (tgt := 4) hx hb dX12_waiting_33 (by decide) ?_
    exact hK4 y1 y2 s1 h H _ ls hP hD hS (lv_sub hl [2, 1, 0] rfl)
  have hB4 : ∀ (K4 : Int32 → Int32 → St → Option (Int32 × St)), (∀ (x1 : Int32) (x2 : Int32) (s1 : St), K4 x1 x2 s1 = some (r, s') → ∀ (H : Heap) (locs : List Loc) (ls : Array Slot), va_P D vwCl (wm cA ad a fr s1) H → va_D A (wm cA ad a fr s1) → va_S A s.heap H locs → lv_has ls 3 [(0, .ref (a 0)), (1, .int x1), (2, .int x2)] → W p l e (RM 2) s m args below meth c H locs 0 0 (MQ below (gQi D (TYS cA) A (wm cA ad a fr) r s') args s 0 0 A) (F0 m 4 ls [])) → ∀ (x1 : Int32) (x2 : Int32) (s1 : St), fX12_waiting_L4b nF K4 x1 x2 s1 = some (r, s') → ∀ (H : Heap) (locs : List Loc) (ls : Array Slot), va_P D vwCl (wm cA ad a fr s1) H → va_D A (wm cA ad a fr s1) → va_S A s.heap H locs → lv_has ls 3 [(0, .ref (a 0)), (1, .int x1), (2, .int x2)] → W p l e (RM 2) s m args below meth c H locs 0 0 (MQ below (gQi D (TYS cA) A (wm cA ad a fr) r s') args s 0 0 A) (F0 m 4 ls []) := by
    intro K4 hK4 x1 x2 s1 h H locs ls hP hD hS hl
    unfold fX12_waiting_L4b at h
    refine lv_iload_n hx hb dX12_waiting_4 rfl (lv_at hl 2 rfl) ?_
    refine lv_aload_n hx hb dX12_waiting_5 rfl (lv_at hl 0 rfl) ?_
    refine gf12_g G hP dX12_waiting_6 ?_
    refine lv_iconst (v := 2) hx hb dX12_waiting_9 (by decide) ?_
    obtain ⟨b3, h⟩ := bnd_e h
    refine al12_1 G hP b3 dX12_waiting_10 ?_
    refine lv_icmp_ge (tgt := 36) hx hb dX12_waiting_11 (by decide) (fun c4 => ?_) (fun c4 => ?_)
    · replace h := it_t c4 h
      refine lv_iload_n hx hb dX12_waiting_36 rfl (lv_at hl 1 rfl) ?_
      exact g_ret G hP hD hS h rfl dX12_waiting_37
    · replace h := it_f c4 h
      refine lv_iload_n hx hb dX12_waiting_14 rfl (lv_at hl 1 rfl) ?_
      refine lv_aload_n hx hb dX12_waiting_15 rfl (lv_at hl 0 rfl) ?_
      refine lv_iload_n hx hb dX12_waiting_16 rfl (lv_at hl 2 rfl) ?_
      obtain ⟨r5, s6, g7, h⟩ := ob_e h
      refine g_callVi (nA := 1) (mX12_waits l D cA ad a fr nF x2 s1 r5 s6 g7) G hP hD hS (g_good q8_8 q8_10 qs_26 q1_16 q8_11) (by decide +kernel) (by decide) (by decide) sh12_0 rfl rfl hl.1 [.int x1] rfl (Nat.le_of_ble_eq_true rfl) dX12_waiting_17 (fun H locs hP hD hS => ?_)
      refine lv_if_eq (tgt := 27) hx hb dX12_waiting_20 (by decide) (fun c8 => ?_) (fun c8 => ?_)
      · replace h := it_t c8 h
        refine lv_iconst (v := 0) hx hb dX12_waiting_27 (by decide) ?_
        exact hB28 K4 hK4 x2 0 x1 s6 h H _ ls hP hD hS (lv_sub hl [0, 2] rfl)
      · replace h := it_f c8 h
        refine lv_iconst (v := 1) hx hb dX12_waiting_23 (by decide) ?_
        refine lv_goto (tgt := 28) hx hb dX12_waiting_24 (by decide) ?_
        exact hB28 K4 hK4 x2 1 x1 s6 h H _ ls hP hD hS (lv_sub hl [0, 2] rfl)
  have hL4 : ∀ k : Nat, ∀ (x1 : Int32) (x2 : Int32) (s1 : St), fX12_waiting_L4 nF k x1 x2 s1 = some (r, s') → ∀ (H : Heap) (locs : List Loc) (ls : Array Slot), va_P D vwCl (wm cA ad a fr s1) H → va_D A (wm cA ad a fr s1) → va_S A s.heap H locs → lv_has ls 3 [(0, .ref (a 0)), (1, .int x1), (2, .int x2)] → W p l e (RM 2) s m args below meth c H locs 0 0 (MQ below (gQi D (TYS cA) A (wm cA ad a fr) r s') args s 0 0 A) (F0 m 4 ls []) := by
    intro k
    induction k with
    | zero => intro x1 x2 s1 h; cases h
    | succ k ih => exact hB4 (fX12_waiting_L4 nF k) ih
  unfold fX12_waiting at h
  refine lv_iconst (v := 0) hx hb dX12_waiting_0 (by decide) ?_
  refine lv_istore_n (lv' := [(1, .int 0), (0, .ref (a 0))]) hx hb dX12_waiting_1 rfl hl (by decide) rfl (fun ls hl => ?_)
  refine lv_iconst (v := 0) hx hb dX12_waiting_2 (by decide) ?_
  refine lv_istore_n (lv' := [(2, .int 0), (1, .int 0), (0, .ref (a 0))]) hx hb dX12_waiting_3 rfl hl (by decide) rfl (fun ls hl => ?_)
  exact hL4 nF 0 0 s0 h _ _ ls hP hD hS (lv_sub hl [2, 1, 0] rfl)
def fX12_done (p1 : Int32) (s0 : St) : Option (Int32 × St) :=
  LET (u2 s0 0 13 0) fun s1 =>
  some (p1, s1)
set_option maxHeartbeats 4000000 in
set_option maxRecDepth 100000 in
theorem mX12_done (l : Launch) (D : va_G) (cA : Nat → ClassId) (ad a : Nat → Nat) (fr : va_W) (p1 : Int32) (s0 : St) (r : Int32) (s' : St) (h : fX12_done p1 s0 = some (r, s')) : gMet l yX12_done cX12_done 2 (some .int) 0 D (TYS cA) ST0 (wm cA ad a fr s0) [.ref (a 0), .int p1] (fun A => gQi D (TYS cA) A (wm cA ad a fr) r s') := by
  refine g_ofW st0_ok (by decide) (Nat.le_of_ble_eq_true rfl) ?_
  intro p e s m args below meth c ls A G hP hD hl
  have G : GC p s m args meth c cX12_done 2 RX12 (some .int) A D (TYS cA) ST0 := G
  have hx := G.1
  have hb := G.2.1
  have hS : va_S A s.heap s.heap [] := va_S.rf
  have hl : lv_has ls 2 [(0, .ref (a 0)), (1, .int p1)] := hl
  unfold fX12_done at h
  refine lv_aload_n hx hb dX12_done_0 rfl (lv_at hl 0 rfl) ?_
  refine lv_iconst (v := 0) hx hb dX12_done_1 (by decide) ?_
  refine pf12_thrown G hP hD hS dX12_done_2 (fun s1 es1 H locs hP hD hS => ?_)
  replace h := let_e es1 h
  refine lv_iload_n hx hb dX12_done_5 rfl (lv_at hl 1 rfl) ?_
  exact g_ret G hP hD hS h rfl dX12_done_6
noncomputable def fX12_adds_B27 (nF : Nat) (s1 : St) : Option (Int32 × St) :=
  OB (fX12_fails 1 s1) fun r1 s2 =>
  some (r1, s2)
noncomputable def fX12_adds (nF : Nat) (p1 : Int32) (p2 : Int32) (p3 : Int32) (s0 : St) : Option (Int32 × St) :=
  OB (fX12_isBand p1 s0) fun r4 s5 =>
  if r4 = 0 then
    fX12_adds_B27 nF s5
  else
    OB (fX12_in p2 1 9 s5) fun r8 s9 =>
    if r8 = 0 then
      fX12_adds_B27 nF s9
    else
      OB (fX12_in p3 1 60 s9) fun r12 s13 =>
      if r12 = 0 then
        fX12_adds_B27 nF s13
      else
        OB (fX12_waiting nF s13) fun r16 s17 =>
        if r16 = 12 then
          OB (fX12_fails 2 s17) fun r41 s42 =>
          some (r41, s42)
        else
          BND 2 156 <|
          LET (s17 1 (2 : Int32).toNatClampNeg) fun y21 =>
          BND 1 156 <|
          BND (72 + y21) 156 <|
          LET (u2 s17 1 (72 + y21).toNatClampNeg (s17 1 (1 : Int32).toNatClampNeg)) fun s24 =>
          BND (87 + y21) 156 <|
          LET (u2 s24 1 (87 + y21).toNatClampNeg p1) fun s26 =>
          BND (102 + y21) 156 <|
          LET (u2 s26 1 (102 + y21).toNatClampNeg p2) fun s28 =>
          BND (117 + y21) 156 <|
          LET (u2 s28 1 (117 + y21).toNatClampNeg p3) fun s30 =>
          BND 2 156 <|
          BND 2 156 <|
          LET (u2 s30 1 (2 : Int32).toNatClampNeg ((s30 1 (2 : Int32).toNatClampNeg) + 1)) fun s33 =>
          BND 1 156 <|
          BND 1 156 <|
          LET (u2 s33 1 (1 : Int32).toNatClampNeg ((s33 1 (1 : Int32).toNatClampNeg) + 1)) fun s36 =>
          BND (72 + y21) 156 <|
          OB (fX12_done (s36 1 (72 + y21).toNatClampNeg) s36) fun r38 s39 =>
          some (r38, s39)
set_option maxHeartbeats 4000000 in
set_option maxRecDepth 100000 in
theorem mX12_adds (l : Launch) (D : va_G) (cA : Nat → ClassId) (ad a : Nat → Nat) (fr : va_W) (nF : Nat) (p1 : Int32) (p2 : Int32) (p3 : Int32) (s0 : St) (r : Int32) (s' : St) (h : fX12_adds nF p1 p2 p3 s0 = some (r, s')) : gMet l yX12_adds cX12_adds 5 (some .int) 3 D (TYS cA) ST0 (wm cA ad a fr s0) [.ref (a 0), .int p1, .int p2, .int p3] (fun A => gQi D (TYS cA) A (wm cA ad a fr) r s') := by
  refine g_ofW st0_ok (by decide) (Nat.le_of_ble_eq_true rfl) ?_
  intro p e s m args below meth c ls A G hP hD hl
  have G : GC p s m args meth c cX12_adds 5 RX12 (some .int) A D (TYS cA) ST0 := G
  have hx := G.1
  have hb := G.2.1
  have hS : va_S A s.heap s.heap [] := va_S.rf
  have hl : lv_has ls 5 [(0, .ref (a 0)), (1, .int p1), (2, .int p2), (3, .int p3)] := hl
  have hB27 : ∀ (s1 : St), fX12_adds_B27 nF s1 = some (r, s') → ∀ (H : Heap) (locs : List Loc) (ls : Array Slot), va_P D vwCl (wm cA ad a fr s1) H → va_D A (wm cA ad a fr s1) → va_S A s.heap H locs → lv_has ls 5 [(0, .ref (a 0))] → W p l e (RM 3) s m args below meth c H locs 0 0 (MQ below (gQi D (TYS cA) A (wm cA ad a fr) r s') args s 0 0 A) (F0 m 27 ls []) := by
    intro s1 h H locs ls hP hD hS hl
    unfold fX12_adds_B27 at h
    refine lv_aload_n hx hb dX12_adds_27 rfl (lv_at hl 0 rfl) ?_
    refine lv_iconst (v := 1) hx hb dX12_adds_28 (by decide) ?_
    obtain ⟨r1, s2, g3, h⟩ := ob_e h
    refine g_callVi (nA := 1) (mX12_fails l D cA ad a fr 1 s1 r1 s2 g3) G hP hD hS (g_good q8_0 q8_2 qs_24 q1_16 q8_3) (by decide +kernel) (by decide) (by decide) sh12_0 rfl rfl hl.1 [] rfl (Nat.le_of_ble_eq_true rfl) dX12_adds_29 (fun H locs hP hD hS => ?_)
    exact g_ret G hP hD hS h rfl dX12_adds_32
  unfold fX12_adds at h
  refine lv_iload_n hx hb dX12_adds_0 rfl (lv_at hl 1 rfl) ?_
  obtain ⟨r4, s5, g6, h⟩ := ob_e h
  refine g_callSi (nA := 1) (mX12_isBand l D cA ad a fr p1 s0 r4 s5 g6) G hP hD hS (g_goodS q7_234 q7_235 q1_16 q7_236) (by decide +kernel) (by decide) rfl hl.1 [] rfl (Nat.le_of_ble_eq_true rfl) dX12_adds_1 (fun H locs hP hD hS => ?_)
  refine lv_if_eq (tgt := 27) hx hb dX12_adds_4 (by decide) (fun c7 => ?_) (fun c7 => ?_)
  · replace h := it_t c7 h
    exact hB27  s5 h _ _ ls hP hD hS (lv_sub hl [0] rfl)
  · replace h := it_f c7 h
    refine lv_iload_n hx hb dX12_adds_7 rfl (lv_at hl 2 rfl) ?_
    refine lv_iconst (v := 1) hx hb dX12_adds_8 (by decide) ?_
    refine lv_bipush (v := 9) hx hb dX12_adds_9 (by decide) ?_
    obtain ⟨r8, s9, g10, h⟩ := ob_e h
    refine g_callSi (nA := 3) (mX12_in l D cA ad a fr p2 1 9 s5 r8 s9 g10) G hP hD hS (g_goodS q7_237 q7_238 q1_16 q7_239) (by decide +kernel) (by decide) rfl hl.1 [] rfl (Nat.le_of_ble_eq_true rfl) dX12_adds_11 (fun H locs hP hD hS => ?_)
    refine lv_if_eq (tgt := 27) hx hb dX12_adds_14 (by decide) (fun c11 => ?_) (fun c11 => ?_)
    · replace h := it_t c11 h
      exact hB27  s9 h _ _ ls hP hD hS (lv_sub hl [0] rfl)
    · replace h := it_f c11 h
      refine lv_iload_n hx hb dX12_adds_17 rfl (lv_at hl 3 rfl) ?_
      refine lv_iconst (v := 1) hx hb dX12_adds_18 (by decide) ?_
      refine lv_bipush (v := 60) hx hb dX12_adds_19 (by decide) ?_
      obtain ⟨r12, s13, g14, h⟩ := ob_e h
      refine g_callSi (nA := 3) (mX12_in l D cA ad a fr p3 1 60 s9 r12 s13 g14) G hP hD hS (g_goodS q7_237 q7_238 q1_16 q7_239) (by decide +kernel) (by decide) rfl hl.1 [] rfl (Nat.le_of_ble_eq_true rfl) dX12_adds_21 (fun H locs hP hD hS => ?_)
      refine lv_if_ne (tgt := 33) hx hb dX12_adds_24 (by decide) (fun c15 => ?_) (fun c15 => ?_)
      · replace h := it_f c15 h
        refine lv_aload_n hx hb dX12_adds_33 rfl (lv_at hl 0 rfl) ?_
        obtain ⟨r16, s17, g18, h⟩ := ob_e h
        refine g_callVi (nA := 0) (mX12_waiting l D cA ad a fr nF s13 r16 s17 g18) G hP hD hS (g_good q8_4 q8_6 qs_25 q1_16 q8_7) (by decide +kernel) (by decide) (by decide) sh12_0 rfl rfl hl.1 [] rfl (Nat.le_of_ble_eq_true rfl) dX12_adds_34 (fun H locs hP hD hS => ?_)
        refine lv_bipush (v := 12) hx hb dX12_adds_37 (by decide) ?_
        refine lv_icmp_ne (tgt := 48) hx hb dX12_adds_39 (by decide) (fun c19 => ?_) (fun c19 => ?_)
        · replace h := it_f c19 h
          refine lv_aload_n hx hb dX12_adds_48 rfl (lv_at hl 0 rfl) ?_
          refine gf12_g G hP dX12_adds_49 ?_
          refine lv_iconst (v := 2) hx hb dX12_adds_52 (by decide) ?_
          obtain ⟨b20, h⟩ := bnd_e h
          refine al12_1 G hP b20 dX12_adds_53 ?_
          refine lv_topi (fun y21 ey21 => ?_)
          replace h := let_e ey21 h
          refine lv_istore (lv' := [(4, .int y21), (0, .ref (a 0)), (1, .int p1), (2, .int p2), (3, .int p3)]) hx hb dX12_adds_54 hl (by decide) rfl (fun ls hl => ?_)
          refine lv_aload_n hx hb dX12_adds_56 rfl (lv_at hl 1 rfl) ?_
          refine gf12_g G hP dX12_adds_57 ?_
          refine lv_bipush (v := 72) hx hb dX12_adds_60 (by decide) ?_
          refine lv_iload hx hb dX12_adds_62 (lv_at hl 0 rfl) ?_
          refine lv_iadd hx hb dX12_adds_64 ?_
          refine lv_aload_n hx hb dX12_adds_65 rfl (lv_at hl 1 rfl) ?_
          refine gf12_g G hP dX12_adds_66 ?_
          refine lv_iconst (v := 1) hx hb dX12_adds_69 (by decide) ?_
          obtain ⟨b22, h⟩ := bnd_e h
          refine al12_1 G hP b22 dX12_adds_70 ?_
          obtain ⟨b23, h⟩ := bnd_e h
          refine as12_1 G hP hD hS b23 dX12_adds_71 (fun s24 es24 H locs hP hD hS => ?_)
          replace h := let_e es24 h
          refine lv_aload_n hx hb dX12_adds_72 rfl (lv_at hl 1 rfl) ?_
          refine gf12_g G hP dX12_adds_73 ?_
          refine lv_bipush (v := 87) hx hb dX12_adds_76 (by decide) ?_
          refine lv_iload hx hb dX12_adds_78 (lv_at hl 0 rfl) ?_
          refine lv_iadd hx hb dX12_adds_80 ?_
          refine lv_iload_n hx hb dX12_adds_81 rfl (lv_at hl 2 rfl) ?_
          obtain ⟨b25, h⟩ := bnd_e h
          refine as12_1 G hP hD hS b25 dX12_adds_82 (fun s26 es26 H locs hP hD hS => ?_)
          replace h := let_e es26 h
          refine lv_aload_n hx hb dX12_adds_83 rfl (lv_at hl 1 rfl) ?_
          refine gf12_g G hP dX12_adds_84 ?_
          refine lv_bipush (v := 102) hx hb dX12_adds_87 (by decide) ?_
          refine lv_iload hx hb dX12_adds_89 (lv_at hl 0 rfl) ?_
          refine lv_iadd hx hb dX12_adds_91 ?_
          refine lv_iload_n hx hb dX12_adds_92 rfl (lv_at hl 3 rfl) ?_
          obtain ⟨b27, h⟩ := bnd_e h
          refine as12_1 G hP hD hS b27 dX12_adds_93 (fun s28 es28 H locs hP hD hS => ?_)
          replace h := let_e es28 h
          refine lv_aload_n hx hb dX12_adds_94 rfl (lv_at hl 1 rfl) ?_
          refine gf12_g G hP dX12_adds_95 ?_
          refine lv_bipush (v := 117) hx hb dX12_adds_98 (by decide) ?_
          refine lv_iload hx hb dX12_adds_100 (lv_at hl 0 rfl) ?_
          refine lv_iadd hx hb dX12_adds_102 ?_
          refine lv_iload_n hx hb dX12_adds_103 rfl (lv_at hl 4 rfl) ?_
          obtain ⟨b29, h⟩ := bnd_e h
          refine as12_1 G hP hD hS b29 dX12_adds_104 (fun s30 es30 H locs hP hD hS => ?_)
          replace h := let_e es30 h
          refine lv_aload_n hx hb dX12_adds_105 rfl (lv_at hl 1 rfl) ?_
          refine gf12_g G hP dX12_adds_106 ?_
          refine lv_iconst (v := 2) hx hb dX12_adds_109 (by decide) ?_
          refine lv_dup2_11 hx hb dX12_adds_110 rfl rfl ?_
          obtain ⟨b31, h⟩ := bnd_e h
          refine al12_1 G hP b31 dX12_adds_111 ?_
          refine lv_iconst (v := 1) hx hb dX12_adds_112 (by decide) ?_
          refine lv_iadd hx hb dX12_adds_113 ?_
          obtain ⟨b32, h⟩ := bnd_e h
          refine as12_1 G hP hD hS b32 dX12_adds_114 (fun s33 es33 H locs hP hD hS => ?_)
          replace h := let_e es33 h
          refine lv_aload_n hx hb dX12_adds_115 rfl (lv_at hl 1 rfl) ?_
          refine gf12_g G hP dX12_adds_116 ?_
          refine lv_iconst (v := 1) hx hb dX12_adds_119 (by decide) ?_
          refine lv_dup2_11 hx hb dX12_adds_120 rfl rfl ?_
          obtain ⟨b34, h⟩ := bnd_e h
          refine al12_1 G hP b34 dX12_adds_121 ?_
          refine lv_iconst (v := 1) hx hb dX12_adds_122 (by decide) ?_
          refine lv_iadd hx hb dX12_adds_123 ?_
          obtain ⟨b35, h⟩ := bnd_e h
          refine as12_1 G hP hD hS b35 dX12_adds_124 (fun s36 es36 H locs hP hD hS => ?_)
          replace h := let_e es36 h
          refine lv_aload_n hx hb dX12_adds_125 rfl (lv_at hl 1 rfl) ?_
          refine lv_aload_n hx hb dX12_adds_126 rfl (lv_at hl 1 rfl) ?_
          refine gf12_g G hP dX12_adds_127 ?_
          refine lv_bipush (v := 72) hx hb dX12_adds_130 (by decide) ?_
          refine lv_iload hx hb dX12_adds_132 (lv_at hl 0 rfl) ?_
          refine lv_iadd hx hb dX12_adds_134 ?_
          obtain ⟨b37, h⟩ := bnd_e h
          refine al12_1 G hP b37 dX12_adds_135 ?_
          obtain ⟨r38, s39, g40, h⟩ := ob_e h
          refine g_callVi (nA := 1) (mX12_done l D cA ad a fr (s36 1 (72 + y21).toNatClampNeg) s36 r38 s39 g40) G hP hD hS (g_good q8_16 q8_18 qs_28 q1_16 q8_19) (by decide +kernel) (by decide) (by decide) sh12_0 rfl rfl hl.1 [] rfl (Nat.le_of_ble_eq_true rfl) dX12_adds_136 (fun H locs hP hD hS => ?_)
          exact g_ret G hP hD hS h rfl dX12_adds_139
        · replace h := it_t c19 h
          refine lv_aload_n hx hb dX12_adds_42 rfl (lv_at hl 0 rfl) ?_
          refine lv_iconst (v := 2) hx hb dX12_adds_43 (by decide) ?_
          obtain ⟨r41, s42, g43, h⟩ := ob_e h
          refine g_callVi (nA := 1) (mX12_fails l D cA ad a fr 2 s17 r41 s42 g43) G hP hD hS (g_good q8_0 q8_2 qs_24 q1_16 q8_3) (by decide +kernel) (by decide) (by decide) sh12_0 rfl rfl hl.1 [] rfl (Nat.le_of_ble_eq_true rfl) dX12_adds_44 (fun H locs hP hD hS => ?_)
          exact g_ret G hP hD hS h rfl dX12_adds_47
      · replace h := it_t c15 h
        exact hB27  s13 h _ _ ls hP hD hS (lv_sub hl [0] rfl)
noncomputable def fX12_kept_B72 (nF : Nat) (x1 : Int32) (s1 : St) : Option (Int32 × St) :=
  OB (fX12_copy nF 2 156 4 1248 0 ((s1 0 4) * 156) s1) fun r1 s2 =>
  LET (u2 s2 0 4 ((s2 0 4) + 1)) fun s4 =>
  some (x1, s4)
noncomputable def fX12_kept_L33b (nF : Nat) (K33 : Int32 → Int32 → St → Option (Int32 × St)) (x1 : Int32) (x2 : Int32) (s1 : St) : Option (Int32 × St) :=
  if 1092 ≤ x2 then
    LET (u2 s1 0 4 ((s1 0 4) - 1)) fun s6 =>
    fX12_kept_B72 nF x1 s6
  else
    BND (x2 + 156) 1248 <|
    BND x2 1248 <|
    LET (u2 s1 4 x2.toNatClampNeg (s1 4 (x2 + 156).toNatClampNeg)) fun s9 =>
    LET (x2 + 1) fun y10 =>
    K33 x1 y10 s9
noncomputable def fX12_kept_L33 (nF : Nat) : Nat → Int32 → Int32 → St → Option (Int32 × St) := fun k => Nat.rec (fun _ _ _ => none) (fun _ K => fX12_kept_L33b nF K) k
theorem fX12_kept_L33_s (nF : Nat) (k : Nat) : fX12_kept_L33 nF (k + 1) = fX12_kept_L33b nF (fX12_kept_L33 nF k) := rfl
noncomputable def fX12_kept (nF : Nat) (p1 : Int32) (s0 : St) : Option (Int32 × St) :=
  if (s0 0 13) = 0 then
    if (s0 0 4) = 8 then
      fX12_kept_L33 nF nF p1 0 s0
    else
      fX12_kept_B72 nF p1 s0
  else
    OB (fX12_copy nF 2 156 1 156 0 0 s0) fun r13 s14 =>
    some (0, s14)
set_option maxHeartbeats 4000000 in
set_option maxRecDepth 100000 in
theorem mX12_kept (l : Launch) (D : va_G) (cA : Nat → ClassId) (ad a : Nat → Nat) (fr : va_W) (nF : Nat) (p1 : Int32) (s0 : St) (r : Int32) (s' : St) (h : fX12_kept nF p1 s0 = some (r, s')) : gMet l yX12_kept cX12_kept 3 (some .int) 1 D (TYS cA) ST0 (wm cA ad a fr s0) [.ref (a 0), .int p1] (fun A => gQi D (TYS cA) A (wm cA ad a fr) r s') := by
  refine g_ofW st0_ok (by decide) (Nat.le_of_ble_eq_true rfl) ?_
  intro p e s m args below meth c ls A G hP hD hl
  have G : GC p s m args meth c cX12_kept 3 RX12 (some .int) A D (TYS cA) ST0 := G
  have hx := G.1
  have hb := G.2.1
  have hS : va_S A s.heap s.heap [] := va_S.rf
  have hl : lv_has ls 3 [(0, .ref (a 0)), (1, .int p1)] := hl
  have hB72 : ∀ (x1 : Int32) (s1 : St), fX12_kept_B72 nF x1 s1 = some (r, s') → ∀ (H : Heap) (locs : List Loc) (ls : Array Slot), va_P D vwCl (wm cA ad a fr s1) H → va_D A (wm cA ad a fr s1) → va_S A s.heap H locs → lv_has ls 3 [(0, .ref (a 0)), (1, .int x1)] → W p l e (RM 1) s m args below meth c H locs 0 0 (MQ below (gQi D (TYS cA) A (wm cA ad a fr) r s') args s 0 0 A) (F0 m 72 ls []) := by
    intro x1 s1 h H locs ls hP hD hS hl
    unfold fX12_kept_B72 at h
    refine lv_aload_n hx hb dX12_kept_72 rfl (lv_at hl 0 rfl) ?_
    refine gf12_before G hP dX12_kept_73 ?_
    refine lv_iconst (v := 0) hx hb dX12_kept_76 (by decide) ?_
    refine lv_aload_n hx hb dX12_kept_77 rfl (lv_at hl 0 rfl) ?_
    refine gf12_history G hP dX12_kept_78 ?_
    refine lv_aload_n hx hb dX12_kept_81 rfl (lv_at hl 0 rfl) ?_
    refine gf12_changes G hP dX12_kept_82 ?_
    refine lv_sipush (v := 156) hx hb dX12_kept_85 (by decide) ?_
    refine lv_imul hx hb dX12_kept_88 ?_
    obtain ⟨r1, s2, g3, h⟩ := ob_e h
    refine g_callSv (nA := 4) (mX12_copy l D cA ad a fr nF 2 156 4 1248 (by decide) sh12_2 (by decide) sh12_4 0 ((s1 0 4) * 156) s1 r1 s2 g3) G hP hD hS (g_goodS q7_227 q7_228 q1_16 q7_229) (by decide +kernel) (by decide) rfl hl.1 [] rfl (Nat.le_of_ble_eq_true rfl) dX12_kept_89 (fun H locs hP hD hS => ?_)
    refine lv_aload_n hx hb dX12_kept_92 rfl (lv_at hl 0 rfl) ?_
    refine lv_dup hx hb dX12_kept_93 rfl ?_
    refine gf12_changes G hP dX12_kept_94 ?_
    refine lv_iconst (v := 1) hx hb dX12_kept_97 (by decide) ?_
    refine lv_iadd hx hb dX12_kept_98 ?_
    refine pf12_changes G hP hD hS dX12_kept_99 (fun s4 es4 H locs hP hD hS => ?_)
    replace h := let_e es4 h
    refine lv_iload_n hx hb dX12_kept_102 rfl (lv_at hl 1 rfl) ?_
    exact g_ret G hP hD hS h rfl dX12_kept_103
  have hB33 : ∀ (K33 : Int32 → Int32 → St → Option (Int32 × St)), (∀ (x1 : Int32) (x2 : Int32) (s1 : St), K33 x1 x2 s1 = some (r, s') → ∀ (H : Heap) (locs : List Loc) (ls : Array Slot), va_P D vwCl (wm cA ad a fr s1) H → va_D A (wm cA ad a fr s1) → va_S A s.heap H locs → lv_has ls 3 [(0, .ref (a 0)), (1, .int x1), (2, .int x2)] → W p l e (RM 1) s m args below meth c H locs 0 0 (MQ below (gQi D (TYS cA) A (wm cA ad a fr) r s') args s 0 0 A) (F0 m 33 ls [])) → ∀ (x1 : Int32) (x2 : Int32) (s1 : St), fX12_kept_L33b nF K33 x1 x2 s1 = some (r, s') → ∀ (H : Heap) (locs : List Loc) (ls : Array Slot), va_P D vwCl (wm cA ad a fr s1) H → va_D A (wm cA ad a fr s1) → va_S A s.heap H locs → lv_has ls 3 [(0, .ref (a 0)), (1, .int x1), (2, .int x2)] → W p l e (RM 1) s m args below meth c H locs 0 0 (MQ below (gQi D (TYS cA) A (wm cA ad a fr) r s') args s 0 0 A) (F0 m 33 ls []) := by
    intro K33 hK33 x1 x2 s1 h H locs ls hP hD hS hl
    unfold fX12_kept_L33b at h
    refine lv_iload_n hx hb dX12_kept_33 rfl (lv_at hl 2 rfl) ?_
    refine lv_sipush (v := 1092) hx hb dX12_kept_34 (by decide) ?_
    refine lv_icmp_ge (tgt := 62) hx hb dX12_kept_37 (by decide) (fun c5 => ?_) (fun c5 => ?_)
    · replace h := it_t c5 h
      refine lv_aload_n hx hb dX12_kept_62 rfl (lv_at hl 0 rfl) ?_
      refine lv_dup hx hb dX12_kept_63 rfl ?_
      refine gf12_changes G hP dX12_kept_64 ?_
      refine lv_iconst (v := 1) hx hb dX12_kept_67 (by decide) ?_
      refine lv_isub hx hb dX12_kept_68 ?_
      refine pf12_changes G hP hD hS dX12_kept_69 (fun s6 es6 H locs hP hD hS => ?_)
      replace h := let_e es6 h
      exact hB72 x1 s6 h H _ ls hP hD hS (lv_sub hl [0, 1] rfl)
    · replace h := it_f c5 h
      refine lv_aload_n hx hb dX12_kept_40 rfl (lv_at hl 0 rfl) ?_
      refine gf12_history G hP dX12_kept_41 ?_
      refine lv_iload_n hx hb dX12_kept_44 rfl (lv_at hl 2 rfl) ?_
      refine lv_aload_n hx hb dX12_kept_45 rfl (lv_at hl 0 rfl) ?_
      refine gf12_history G hP dX12_kept_46 ?_
      refine lv_iload_n hx hb dX12_kept_49 rfl (lv_at hl 2 rfl) ?_
      refine lv_sipush (v := 156) hx hb dX12_kept_50 (by decide) ?_
      refine lv_iadd hx hb dX12_kept_53 ?_
      obtain ⟨b7, h⟩ := bnd_e h
      refine al12_4 G hP b7 dX12_kept_54 ?_
      obtain ⟨b8, h⟩ := bnd_e h
      refine as12_4 G hP hD hS b8 dX12_kept_55 (fun s9 es9 H locs hP hD hS => ?_)
      replace h := let_e es9 h
      obtain ⟨y10, ey10⟩ : ∃ y : Int32, y = x2 + 1 := ⟨_, rfl⟩
      replace h := let_e ey10 h
      refine lv_iinc (v := y10) (lv' := [(2, .int y10), (0, .ref (a 0)), (1, .int x1)]) hx hb dX12_kept_56 hl (k := 2) rfl (by rw [ey10]; rfl) (by decide) rfl (fun ls hl => ?_)
      refine lv_goto (tgt := 33) hx hb dX12_kept_59 (by decide) ?_
      exact hK33 x1 y10 s9 h H _ ls hP hD hS (lv_sub hl [1, 2, 0] rfl)
  have hL33 : ∀ k : Nat, ∀ (x1 : Int32) (x2 : Int32) (s1 : St), fX12_kept_L33 nF k x1 x2 s1 = some (r, s') → ∀ (H : Heap) (locs : List Loc) (ls : Array Slot), va_P D vwCl (wm cA ad a fr s1) H → va_D A (wm cA ad a fr s1) → va_S A s.heap H locs → lv_has ls 3 [(0, .ref (a 0)), (1, .int x1), (2, .int x2)] → W p l e (RM 1) s m args below meth c H locs 0 0 (MQ below (gQi D (TYS cA) A (wm cA ad a fr) r s') args s 0 0 A) (F0 m 33 ls []) := by
    intro k
    induction k with
    | zero => intro x1 x2 s1 h; cases h
    | succ k ih => exact hB33 (fX12_kept_L33 nF k) ih
  unfold fX12_kept at h
  refine lv_aload_n hx hb dX12_kept_0 rfl (lv_at hl 0 rfl) ?_
  refine gf12_thrown G hP dX12_kept_1 ?_
  refine lv_if_eq (tgt := 22) hx hb dX12_kept_4 (by decide) (fun c11 => ?_) (fun c11 => ?_)
  · replace h := it_t c11 h
    refine lv_aload_n hx hb dX12_kept_22 rfl (lv_at hl 0 rfl) ?_
    refine gf12_changes G hP dX12_kept_23 ?_
    refine lv_bipush (v := 8) hx hb dX12_kept_26 (by decide) ?_
    refine lv_icmp_ne (tgt := 72) hx hb dX12_kept_28 (by decide) (fun c12 => ?_) (fun c12 => ?_)
    · replace h := it_f c12 h
      exact hB72 p1 s0 h _ _ ls hP hD hS (lv_sub hl [0, 1] rfl)
    · replace h := it_t c12 h
      refine lv_iconst (v := 0) hx hb dX12_kept_31 (by decide) ?_
      refine lv_istore_n (lv' := [(2, .int 0), (0, .ref (a 0)), (1, .int p1)]) hx hb dX12_kept_32 rfl hl (by decide) rfl (fun ls hl => ?_)
      exact hL33 nF p1 0 s0 h _ _ ls hP hD hS (lv_sub hl [1, 2, 0] rfl)
  · replace h := it_f c11 h
    refine lv_aload_n hx hb dX12_kept_7 rfl (lv_at hl 0 rfl) ?_
    refine gf12_before G hP dX12_kept_8 ?_
    refine lv_iconst (v := 0) hx hb dX12_kept_11 (by decide) ?_
    refine lv_aload_n hx hb dX12_kept_12 rfl (lv_at hl 0 rfl) ?_
    refine gf12_g G hP dX12_kept_13 ?_
    refine lv_iconst (v := 0) hx hb dX12_kept_16 (by decide) ?_
    obtain ⟨r13, s14, g15, h⟩ := ob_e h
    refine g_callSv (nA := 4) (mX12_copy l D cA ad a fr nF 2 156 1 156 (by decide) sh12_2 (by decide) sh12_1 0 0 s0 r13 s14 g15) G hP hD hS (g_goodS q7_227 q7_228 q1_16 q7_229) (by decide +kernel) (by decide) rfl hl.1 [] rfl (Nat.le_of_ble_eq_true rfl) dX12_kept_17 (fun H locs hP hD hS => ?_)
    refine lv_iconst (v := 0) hx hb dX12_kept_20 (by decide) ?_
    exact g_ret G hP hD hS h rfl dX12_kept_21
noncomputable def fX12_addNoise (nF : Nat) (p1 : Int32) (p2 : Int32) (p3 : Int32) (s0 : St) : Option (Int32 × St) :=
  OB (fX12_begin nF s0) fun r1 s2 =>
  OB (fX12_adds nF p1 p2 p3 s2) fun r4 s5 =>
  OB (fX12_kept nF r4 s5) fun r7 s8 =>
  some (r7, s8)
set_option maxHeartbeats 4000000 in
set_option maxRecDepth 100000 in
theorem mX12_addNoise (l : Launch) (D : va_G) (cA : Nat → ClassId) (ad a : Nat → Nat) (fr : va_W) (nF : Nat) (p1 : Int32) (p2 : Int32) (p3 : Int32) (s0 : St) (r : Int32) (s' : St) (h : fX12_addNoise nF p1 p2 p3 s0 = some (r, s')) : gMet l yX12_addNoise cX12_addNoise 4 (some .int) 4 D (TYS cA) ST0 (wm cA ad a fr s0) [.ref (a 0), .int p1, .int p2, .int p3] (fun A => gQi D (TYS cA) A (wm cA ad a fr) r s') := by
  refine g_ofW st0_ok (by decide) (Nat.le_of_ble_eq_true rfl) ?_
  intro p e s m args below meth c ls A G hP hD hl
  have G : GC p s m args meth c cX12_addNoise 4 RX12 (some .int) A D (TYS cA) ST0 := G
  have hx := G.1
  have hb := G.2.1
  have hS : va_S A s.heap s.heap [] := va_S.rf
  have hl : lv_has ls 4 [(0, .ref (a 0)), (1, .int p1), (2, .int p2), (3, .int p3)] := hl
  unfold fX12_addNoise at h
  refine lv_aload_n hx hb dX12_addNoise_0 rfl (lv_at hl 0 rfl) ?_
  obtain ⟨r1, s2, g3, h⟩ := ob_e h
  refine g_callVv (nA := 0) (mX12_begin l D cA ad a fr nF s0 r1 s2 g3) G hP hD hS (g_good q7_223 q7_225 qs_22 q1_16 q7_226) (by decide +kernel) (by decide) (by decide) sh12_0 rfl rfl hl.1 [] rfl (Nat.le_of_ble_eq_true rfl) dX12_addNoise_1 (fun H locs hP hD hS => ?_)
  refine lv_aload_n hx hb dX12_addNoise_4 rfl (lv_at hl 0 rfl) ?_
  refine lv_aload_n hx hb dX12_addNoise_5 rfl (lv_at hl 0 rfl) ?_
  refine lv_iload_n hx hb dX12_addNoise_6 rfl (lv_at hl 1 rfl) ?_
  refine lv_iload_n hx hb dX12_addNoise_7 rfl (lv_at hl 2 rfl) ?_
  refine lv_iload_n hx hb dX12_addNoise_8 rfl (lv_at hl 3 rfl) ?_
  obtain ⟨r4, s5, g6, h⟩ := ob_e h
  refine g_callVi (nA := 3) (mX12_adds l D cA ad a fr nF p1 p2 p3 s2 r4 s5 g6) G hP hD hS (g_good q7_230 q7_232 qs_23 q1_16 q7_233) (by decide +kernel) (by decide) (by decide) sh12_0 rfl rfl hl.1 [.ref (a 0)] rfl (Nat.le_of_ble_eq_true rfl) dX12_addNoise_9 (fun H locs hP hD hS => ?_)
  obtain ⟨r7, s8, g9, h⟩ := ob_e h
  refine g_callVi (nA := 1) (mX12_kept l D cA ad a fr nF r4 s5 r7 s8 g9) G hP hD hS (g_good q8_20 q8_22 qs_29 q1_16 q8_23) (by decide +kernel) (by decide) (by decide) sh12_0 rfl rfl hl.1 [] rfl (Nat.le_of_ble_eq_true rfl) dX12_addNoise_12 (fun H locs hP hD hS => ?_)
  exact g_ret G hP hD hS h rfl dX12_addNoise_15
noncomputable def fX12_placeOf_L2b (nF : Nat) (K2 : Int32 → Int32 → St → Option (Int32 × St)) (x1 : Int32) (x2 : Int32) (s1 : St) : Option (Int32 × St) :=
  BND 2 156 <|
  if (s1 1 (2 : Int32).toNatClampNeg) ≤ x2 then
    some ((-1), s1)
  else
    BND (72 + x2) 156 <|
    if (s1 1 (72 + x2).toNatClampNeg) = x1 then
      some (x2, s1)
    else
      LET (x2 + 1) fun y5 =>
      K2 x1 y5 s1
noncomputable def fX12_placeOf_L2 (nF : Nat) : Nat → Int32 → Int32 → St → Option (Int32 × St) := fun k => Nat.rec (fun _ _ _ => none) (fun _ K => fX12_placeOf_L2b nF K) k
theorem fX12_placeOf_L2_s (nF : Nat) (k : Nat) : fX12_placeOf_L2 nF (k + 1) = fX12_placeOf_L2b nF (fX12_placeOf_L2 nF k) := rfl
noncomputable def fX12_placeOf (nF : Nat) (p1 : Int32) (s0 : St) : Option (Int32 × St) :=
  fX12_placeOf_L2 nF nF p1 0 s0
set_option maxHeartbeats 4000000 in
set_option maxRecDepth 100000 in
theorem mX12_placeOf (l : Launch) (D : va_G) (cA : Nat → ClassId) (ad a : Nat → Nat) (fr : va_W) (nF : Nat) (p1 : Int32) (s0 : St) (r : Int32) (s' : St) (h : fX12_placeOf nF p1 s0 = some (r, s')) : gMet l yX12_placeOf cX12_placeOf 3 (some .int) 0 D (TYS cA) ST0 (wm cA ad a fr s0) [.ref (a 0), .int p1] (fun A => gQi D (TYS cA) A (wm cA ad a fr) r s') := by
  refine g_ofW st0_ok (by decide) (Nat.le_of_ble_eq_true rfl) ?_
  intro p e s m args below meth c ls A G hP hD hl
  have G : GC p s m args meth c cX12_placeOf 3 RX12 (some .int) A D (TYS cA) ST0 := G
  have hx := G.1
  have hb := G.2.1
  have hS : va_S A s.heap s.heap [] := va_S.rf
  have hl : lv_has ls 3 [(0, .ref (a 0)), (1, .int p1)] := hl
  have hB2 : ∀ (K2 : Int32 → Int32 → St → Option (Int32 × St)), (∀ (x1 : Int32) (x2 : Int32) (s1 : St), K2 x1 x2 s1 = some (r, s') → ∀ (H : Heap) (locs : List Loc) (ls : Array Slot), va_P D vwCl (wm cA ad a fr s1) H → va_D A (wm cA ad a fr s1) → va_S A s.heap H locs → lv_has ls 3 [(0, .ref (a 0)), (1, .int x1), (2, .int x2)] → W p l e (RM 0) s m args below meth c H locs 0 0 (MQ below (gQi D (TYS cA) A (wm cA ad a fr) r s') args s 0 0 A) (F0 m 2 ls [])) → ∀ (x1 : Int32) (x2 : Int32) (s1 : St), fX12_placeOf_L2b nF K2 x1 x2 s1 = some (r, s') → ∀ (H : Heap) (locs : List Loc) (ls : Array Slot), va_P D vwCl (wm cA ad a fr s1) H → va_D A (wm cA ad a fr s1) → va_S A s.heap H locs → lv_has ls 3 [(0, .ref (a 0)), (1, .int x1), (2, .int x2)] → W p l e (RM 0) s m args below meth c H locs 0 0 (MQ below (gQi D (TYS cA) A (wm cA ad a fr) r s') args s 0 0 A) (F0 m 2 ls []) := by
    intro K2 hK2 x1 x2 s1 h H locs ls hP hD hS hl
    unfold fX12_placeOf_L2b at h
    refine lv_iload_n hx hb dX12_placeOf_2 rfl (lv_at hl 2 rfl) ?_
    refine lv_aload_n hx hb dX12_placeOf_3 rfl (lv_at hl 0 rfl) ?_
    refine gf12_g G hP dX12_placeOf_4 ?_
    refine lv_iconst (v := 2) hx hb dX12_placeOf_7 (by decide) ?_
    obtain ⟨b1, h⟩ := bnd_e h
    refine al12_1 G hP b1 dX12_placeOf_8 ?_
    refine lv_icmp_ge (tgt := 33) hx hb dX12_placeOf_9 (by decide) (fun c2 => ?_) (fun c2 => ?_)
    · replace h := it_t c2 h
      refine lv_iconst (v := (-1)) hx hb dX12_placeOf_33 (by decide) ?_
      exact g_ret G hP hD hS h rfl dX12_placeOf_34
    · replace h := it_f c2 h
      refine lv_aload_n hx hb dX12_placeOf_12 rfl (lv_at hl 0 rfl) ?_
      refine gf12_g G hP dX12_placeOf_13 ?_
      refine lv_bipush (v := 72) hx hb dX12_placeOf_16 (by decide) ?_
      refine lv_iload_n hx hb dX12_placeOf_18 rfl (lv_at hl 2 rfl) ?_
      refine lv_iadd hx hb dX12_placeOf_19 ?_
      obtain ⟨b3, h⟩ := bnd_e h
      refine al12_1 G hP b3 dX12_placeOf_20 ?_
      refine lv_iload_n hx hb dX12_placeOf_21 rfl (lv_at hl 1 rfl) ?_
      refine lv_icmp_ne (tgt := 27) hx hb dX12_placeOf_22 (by decide) (fun c4 => ?_) (fun c4 => ?_)
      · replace h := it_f c4 h
        obtain ⟨y5, ey5⟩ : ∃ y : Int32, y = x2 + 1 := ⟨_, rfl⟩
        replace h := let_e ey5 h
        refine lv_iinc (v := y5) (lv' := [(2, .int y5), (0, .ref (a 0)), (1, .int x1)]) hx hb dX12_placeOf_27 hl (k := 2) rfl (by rw [ey5]; rfl) (by decide) rfl (fun ls hl => ?_)
        refine lv_goto (tgt := 2) hx hb dX12_placeOf_30 (by decide) ?_
        exact hK2 x1 y5 s1 h H _ ls hP hD hS (lv_sub hl [1, 2, 0] rfl)
      · replace h := it_t c4 h
        refine lv_iload_n hx hb dX12_placeOf_25 rfl (lv_at hl 2 rfl) ?_
        exact g_ret G hP hD hS h rfl dX12_placeOf_26
  have hL2 : ∀ k : Nat, ∀ (x1 : Int32) (x2 : Int32) (s1 : St), fX12_placeOf_L2 nF k x1 x2 s1 = some (r, s') → ∀ (H : Heap) (locs : List Loc) (ls : Array Slot), va_P D vwCl (wm cA ad a fr s1) H → va_D A (wm cA ad a fr s1) → va_S A s.heap H locs → lv_has ls 3 [(0, .ref (a 0)), (1, .int x1), (2, .int x2)] → W p l e (RM 0) s m args below meth c H locs 0 0 (MQ below (gQi D (TYS cA) A (wm cA ad a fr) r s') args s 0 0 A) (F0 m 2 ls []) := by
    intro k
    induction k with
    | zero => intro x1 x2 s1 h; cases h
    | succ k ih => exact hB2 (fX12_placeOf_L2 nF k) ih
  unfold fX12_placeOf at h
  refine lv_iconst (v := 0) hx hb dX12_placeOf_0 (by decide) ?_
  refine lv_istore_n (lv' := [(2, .int 0), (0, .ref (a 0)), (1, .int p1)]) hx hb dX12_placeOf_1 rfl hl (by decide) rfl (fun ls hl => ?_)
  exact hL2 nF p1 0 s0 h _ _ ls hP hD hS (lv_sub hl [1, 2, 0] rfl)
noncomputable def fX12_drops_B45 (nF : Nat) (K3 : Int32 → Int32 → St → Option (Int32 × St)) (K12 : Int32 → Int32 → Int32 → St → Option (Int32 × St)) (x1 : Int32) (x2 : Int32) (x3 : Int32) (z0 : Int32) (z1 : Int32) (s1 : St) : Option (Int32 × St) :=
  BND z1 156 <|
  LET (u2 s1 1 z1.toNatClampNeg z0) fun s2 =>
  LET (x3 + 1) fun y3 =>
  K12 x1 x2 y3 s2
noncomputable def fX12_drops_L12b (nF : Nat) (K3 : Int32 → Int32 → St → Option (Int32 × St)) (K12 : Int32 → Int32 → Int32 → St → Option (Int32 × St)) (x1 : Int32) (x2 : Int32) (x3 : Int32) (s1 : St) : Option (Int32 × St) :=
  if 15 ≤ x3 then
    LET (x2 + 15) fun y5 =>
    K3 x1 y5 s1
  else
    if 14 ≤ x3 then
      fX12_drops_B45 nF K3 K12 x1 x2 x3 0 (x2 + x3) s1
    else
      BND ((x2 + x3) + 1) 156 <|
      fX12_drops_B45 nF K3 K12 x1 x2 x3 (s1 1 ((x2 + x3) + 1).toNatClampNeg) (x2 + x3) s1
noncomputable def fX12_drops_L12 (nF : Nat) (K3 : Int32 → Int32 → St → Option (Int32 × St)) : Nat → Int32 → Int32 → Int32 → St → Option (Int32 × St) := fun k => Nat.rec (fun _ _ _ _ => none) (fun _ K => fX12_drops_L12b nF K3 K) k
theorem fX12_drops_L12_s (nF : Nat) (K3 : Int32 → Int32 → St → Option (Int32 × St)) (k : Nat) : fX12_drops_L12 nF K3 (k + 1) = fX12_drops_L12b nF K3 (fX12_drops_L12 nF K3 k) := rfl
noncomputable def fX12_drops_L3b (nF : Nat) (K3 : Int32 → Int32 → St → Option (Int32 × St)) (x1 : Int32) (x2 : Int32) (s1 : St) : Option (Int32 × St) :=
  if 132 ≤ x2 then
    BND 2 156 <|
    BND 2 156 <|
    LET (u2 s1 1 (2 : Int32).toNatClampNeg ((s1 1 (2 : Int32).toNatClampNeg) - 1)) fun s11 =>
    some (0, s11)
  else
    fX12_drops_L12 nF K3 nF x1 x2 x1 s1
noncomputable def fX12_drops_L3 (nF : Nat) : Nat → Int32 → Int32 → St → Option (Int32 × St) := fun k => Nat.rec (fun _ _ _ => none) (fun _ K => fX12_drops_L3b nF K) k
theorem fX12_drops_L3_s (nF : Nat) (k : Nat) : fX12_drops_L3 nF (k + 1) = fX12_drops_L3b nF (fX12_drops_L3 nF k) := rfl
noncomputable def fX12_drops (nF : Nat) (p1 : Int32) (s0 : St) : Option (Int32 × St) :=
  fX12_drops_L3 nF nF p1 72 s0
set_option maxHeartbeats 4000000 in
set_option maxRecDepth 100000 in
theorem mX12_drops (l : Launch) (D : va_G) (cA : Nat → ClassId) (ad a : Nat → Nat) (fr : va_W) (nF : Nat) (p1 : Int32) (s0 : St) (r : Int32) (s' : St) (h : fX12_drops nF p1 s0 = some (r, s')) : gMet l yX12_drops cX12_drops 4 none 0 D (TYS cA) ST0 (wm cA ad a fr s0) [.ref (a 0), .int p1] (fun A => gQv D (TYS cA) A (wm cA ad a fr) s') := by
  refine g_ofW st0_ok (by decide) (Nat.le_of_ble_eq_true rfl) ?_
  intro p e s m args below meth c ls A G hP hD hl
  have G : GC p s m args meth c cX12_drops 4 RX12 none A D (TYS cA) ST0 := G
  have hx := G.1
  have hb := G.2.1
  have hS : va_S A s.heap s.heap [] := va_S.rf
  have hl : lv_has ls 4 [(0, .ref (a 0)), (1, .int p1)] := hl
  have hB45 : ∀ (K3 : Int32 → Int32 → St → Option (Int32 × St)), (∀ (x1 : Int32) (x2 : Int32) (s1 : St), K3 x1 x2 s1 = some (r, s') → ∀ (H : Heap) (locs : List Loc) (ls : Array Slot), va_P D vwCl (wm cA ad a fr s1) H → va_D A (wm cA ad a fr s1) → va_S A s.heap H locs → lv_has ls 4 [(0, .ref (a 0)), (1, .int x1), (2, .int x2)] → W p l e (RM 0) s m args below meth c H locs 0 0 (MQ below (gQv D (TYS cA) A (wm cA ad a fr) s') args s 0 0 A) (F0 m 3 ls [])) → ∀ (K12 : Int32 → Int32 → Int32 → St → Option (Int32 × St)), (∀ (x1 : Int32) (x2 : Int32) (x3 : Int32) (s1 : St), K12 x1 x2 x3 s1 = some (r, s') → ∀ (H : Heap) (locs : List Loc) (ls : Array Slot), va_P D vwCl (wm cA ad a fr s1) H → va_D A (wm cA ad a fr s1) → va_S A s.heap H locs → lv_has ls 4 [(0, .ref (a 0)), (1, .int x1), (2, .int x2), (3, .int x3)] → W p l e (RM 0) s m args below meth c H locs 0 0 (MQ below (gQv D (TYS cA) A (wm cA ad a fr) s') args s 0 0 A) (F0 m 12 ls [])) → ∀ (x1 : Int32) (x2 : Int32) (x3 : Int32) (z0 : Int32) (z1 : Int32) (s1 : St), fX12_drops_B45 nF K3 K12 x1 x2 x3 z0 z1 s1 = some (r, s') → ∀ (H : Heap) (locs : List Loc) (ls : Array Slot), va_P D vwCl (wm cA ad a fr s1) H → va_D A (wm cA ad a fr s1) → va_S A s.heap H locs → lv_has ls 4 [(0, .ref (a 0)), (1, .int x1), (2, .int x2), (3, .int x3)] → W p l e (RM 0) s m args below meth c H locs 0 0 (MQ below (gQv D (TYS cA) A (wm cA ad a fr) s') args s 0 0 A) (F0 m 45 ls [.int z0, .int z1, .ref (a 1)]) := by
    intro K3 hK3 K12 hK12 x1 x2 x3 z0 z1 s1 h H locs ls hP hD hS hl
    unfold fX12_drops_B45 at h
    obtain ⟨b1, h⟩ := bnd_e h
    refine as12_1 G hP hD hS b1 dX12_drops_45 (fun s2 es2 H locs hP hD hS => ?_)
    replace h := let_e es2 h
    obtain ⟨y3, ey3⟩ : ∃ y : Int32, y = x3 + 1 := ⟨_, rfl⟩
    replace h := let_e ey3 h
    refine lv_iinc (v := y3) (lv' := [(3, .int y3), (0, .ref (a 0)), (1, .int x1), (2, .int x2)]) hx hb dX12_drops_46 hl (k := 3) rfl (by rw [ey3]; rfl) (by decide) rfl (fun ls hl => ?_)
    refine lv_goto (tgt := 12) hx hb dX12_drops_49 (by decide) ?_
    exact hK12 x1 x2 y3 s2 h H _ ls hP hD hS (lv_sub hl [1, 2, 3, 0] rfl)
  have hB12 : ∀ (K3 : Int32 → Int32 → St → Option (Int32 × St)), (∀ (x1 : Int32) (x2 : Int32) (s1 : St), K3 x1 x2 s1 = some (r, s') → ∀ (H : Heap) (locs : List Loc) (ls : Array Slot), va_P D vwCl (wm cA ad a fr s1) H → va_D A (wm cA ad a fr s1) → va_S A s.heap H locs → lv_has ls 4 [(0, .ref (a 0)), (1, .int x1), (2, .int x2)] → W p l e (RM 0) s m args below meth c H locs 0 0 (MQ below (gQv D (TYS cA) A (wm cA ad a fr) s') args s 0 0 A) (F0 m 3 ls [])) → ∀ (K12 : Int32 → Int32 → Int32 → St → Option (Int32 × St)), (∀ (x1 : Int32) (x2 : Int32) (x3 : Int32) (s1 : St), K12 x1 x2 x3 s1 = some (r, s') → ∀ (H : Heap) (locs : List Loc) (ls : Array Slot), va_P D vwCl (wm cA ad a fr s1) H → va_D A (wm cA ad a fr s1) → va_S A s.heap H locs → lv_has ls 4 [(0, .ref (a 0)), (1, .int x1), (2, .int x2), (3, .int x3)] → W p l e (RM 0) s m args below meth c H locs 0 0 (MQ below (gQv D (TYS cA) A (wm cA ad a fr) s') args s 0 0 A) (F0 m 12 ls [])) → ∀ (x1 : Int32) (x2 : Int32) (x3 : Int32) (s1 : St), fX12_drops_L12b nF K3 K12 x1 x2 x3 s1 = some (r, s') → ∀ (H : Heap) (locs : List Loc) (ls : Array Slot), va_P D vwCl (wm cA ad a fr s1) H → va_D A (wm cA ad a fr s1) → va_S A s.heap H locs → lv_has ls 4 [(0, .ref (a 0)), (1, .int x1), (2, .int x2), (3, .int x3)] → W p l e (RM 0) s m args below meth c H locs 0 0 (MQ below (gQv D (TYS cA) A (wm cA ad a fr) s') args s 0 0 A) (F0 m 12 ls []) := by
    intro K3 hK3 K12 hK12 x1 x2 x3 s1 h H locs ls hP hD hS hl
    unfold fX12_drops_L12b at h
    refine lv_iload_n hx hb dX12_drops_12 rfl (lv_at hl 3 rfl) ?_
    refine lv_bipush (v := 15) hx hb dX12_drops_13 (by decide) ?_
    refine lv_icmp_ge (tgt := 52) hx hb dX12_drops_15 (by decide) (fun c4 => ?_) (fun c4 => ?_)
    · replace h := it_t c4 h
      obtain ⟨y5, ey5⟩ : ∃ y : Int32, y = x2 + 15 := ⟨_, rfl⟩
      replace h := let_e ey5 h
      refine lv_iinc (v := y5) (lv' := [(2, .int y5), (0, .ref (a 0)), (1, .int x1), (3, .int x3)]) hx hb dX12_drops_52 hl (k := 2) rfl (by rw [ey5]; rfl) (by decide) rfl (fun ls hl => ?_)
      refine lv_goto (tgt := 3) hx hb dX12_drops_55 (by decide) ?_
      exact hK3 x1 y5 s1 h H _ ls hP hD hS (lv_sub hl [1, 2, 0] rfl)
    · replace h := it_f c4 h
      refine lv_aload_n hx hb dX12_drops_18 rfl (lv_at hl 0 rfl) ?_
      refine gf12_g G hP dX12_drops_19 ?_
      refine lv_iload_n hx hb dX12_drops_22 rfl (lv_at hl 2 rfl) ?_
      refine lv_iload_n hx hb dX12_drops_23 rfl (lv_at hl 3 rfl) ?_
      refine lv_iadd hx hb dX12_drops_24 ?_
      refine lv_iload_n hx hb dX12_drops_25 rfl (lv_at hl 3 rfl) ?_
      refine lv_bipush (v := 14) hx hb dX12_drops_26 (by decide) ?_
      refine lv_icmp_ge (tgt := 44) hx hb dX12_drops_28 (by decide) (fun c6 => ?_) (fun c6 => ?_)
      · replace h := it_t c6 h
        refine lv_iconst (v := 0) hx hb dX12_drops_44 (by decide) ?_
        exact hB45 K3 hK3 K12 hK12 x1 x2 x3 0 (x2 + x3) s1 h H _ ls hP hD hS (lv_sub hl [0, 1, 2, 3] rfl)
      · replace h := it_f c6 h
        refine lv_aload_n hx hb dX12_drops_31 rfl (lv_at hl 0 rfl) ?_
        refine gf12_g G hP dX12_drops_32 ?_
        refine lv_iload_n hx hb dX12_drops_35 rfl (lv_at hl 2 rfl) ?_
        refine lv_iload_n hx hb dX12_drops_36 rfl (lv_at hl 3 rfl) ?_
        refine lv_iadd hx hb dX12_drops_37 ?_
        refine lv_iconst (v := 1) hx hb dX12_drops_38 (by decide) ?_
        refine lv_iadd hx hb dX12_drops_39 ?_
        obtain ⟨b7, h⟩ := bnd_e h
        refine al12_1 G hP b7 dX12_drops_40 ?_
        refine lv_goto (tgt := 45) hx hb dX12_drops_41 (by decide) ?_
        exact hB45 K3 hK3 K12 hK12 x1 x2 x3 (s1 1 ((x2 + x3) + 1).toNatClampNeg) (x2 + x3) s1 h H _ ls hP hD hS (lv_sub hl [0, 1, 2, 3] rfl)
  have hL12 : ∀ (K3 : Int32 → Int32 → St → Option (Int32 × St)), (∀ (x1 : Int32) (x2 : Int32) (s1 : St), K3 x1 x2 s1 = some (r, s') → ∀ (H : Heap) (locs : List Loc) (ls : Array Slot), va_P D vwCl (wm cA ad a fr s1) H → va_D A (wm cA ad a fr s1) → va_S A s.heap H locs → lv_has ls 4 [(0, .ref (a 0)), (1, .int x1), (2, .int x2)] → W p l e (RM 0) s m args below meth c H locs 0 0 (MQ below (gQv D (TYS cA) A (wm cA ad a fr) s') args s 0 0 A) (F0 m 3 ls [])) → ∀ k : Nat, ∀ (x1 : Int32) (x2 : Int32) (x3 : Int32) (s1 : St), fX12_drops_L12 nF K3 k x1 x2 x3 s1 = some (r, s') → ∀ (H : Heap) (locs : List Loc) (ls : Array Slot), va_P D vwCl (wm cA ad a fr s1) H → va_D A (wm cA ad a fr s1) → va_S A s.heap H locs → lv_has ls 4 [(0, .ref (a 0)), (1, .int x1), (2, .int x2), (3, .int x3)] → W p l e (RM 0) s m args below meth c H locs 0 0 (MQ below (gQv D (TYS cA) A (wm cA ad a fr) s') args s 0 0 A) (F0 m 12 ls []) := by
    intro K3 hK3 k
    induction k with
    | zero => intro x1 x2 x3 s1 h; cases h
    | succ k ih => exact hB12 K3 hK3 (fX12_drops_L12 nF K3 k) ih
  have hB3 : ∀ (K3 : Int32 → Int32 → St → Option (Int32 × St)), (∀ (x1 : Int32) (x2 : Int32) (s1 : St), K3 x1 x2 s1 = some (r, s') → ∀ (H : Heap) (locs : List Loc) (ls : Array Slot), va_P D vwCl (wm cA ad a fr s1) H → va_D A (wm cA ad a fr s1) → va_S A s.heap H locs → lv_has ls 4 [(0, .ref (a 0)), (1, .int x1), (2, .int x2)] → W p l e (RM 0) s m args below meth c H locs 0 0 (MQ below (gQv D (TYS cA) A (wm cA ad a fr) s') args s 0 0 A) (F0 m 3 ls [])) → ∀ (x1 : Int32) (x2 : Int32) (s1 : St), fX12_drops_L3b nF K3 x1 x2 s1 = some (r, s') → ∀ (H : Heap) (locs : List Loc) (ls : Array Slot), va_P D vwCl (wm cA ad a fr s1) H → va_D A (wm cA ad a fr s1) → va_S A s.heap H locs → lv_has ls 4 [(0, .ref (a 0)), (1, .int x1), (2, .int x2)] → W p l e (RM 0) s m args below meth c H locs 0 0 (MQ below (gQv D (TYS cA) A (wm cA ad a fr) s') args s 0 0 A) (F0 m 3 ls []) := by
    intro K3 hK3 x1 x2 s1 h H locs ls hP hD hS hl
    unfold fX12_drops_L3b at h
    refine lv_iload_n hx hb dX12_drops_3 rfl (lv_at hl 2 rfl) ?_
    refine lv_sipush (v := 132) hx hb dX12_drops_4 (by decide) ?_
    refine lv_icmp_ge (tgt := 58) hx hb dX12_drops_7 (by decide) (fun c8 => ?_) (fun c8 => ?_)
    · replace h := it_t c8 h
      refine lv_aload_n hx hb dX12_drops_58 rfl (lv_at hl 0 rfl) ?_
      refine gf12_g G hP dX12_drops_59 ?_
      refine lv_iconst (v := 2) hx hb dX12_drops_62 (by decide) ?_
      refine lv_dup2_11 hx hb dX12_drops_63 rfl rfl ?_
      obtain ⟨b9, h⟩ := bnd_e h
      refine al12_1 G hP b9 dX12_drops_64 ?_
      refine lv_iconst (v := 1) hx hb dX12_drops_65 (by decide) ?_
      refine lv_isub hx hb dX12_drops_66 ?_
      obtain ⟨b10, h⟩ := bnd_e h
      refine as12_1 G hP hD hS b10 dX12_drops_67 (fun s11 es11 H locs hP hD hS => ?_)
      replace h := let_e es11 h
      exact g_vret G hP hD hS h dX12_drops_68
    · replace h := it_f c8 h
      refine lv_iload_n hx hb dX12_drops_10 rfl (lv_at hl 1 rfl) ?_
      refine lv_istore_n (lv' := [(3, .int x1), (0, .ref (a 0)), (1, .int x1), (2, .int x2)]) hx hb dX12_drops_11 rfl hl (by decide) rfl (fun ls hl => ?_)
      exact hL12 K3 hK3 nF x1 x2 x1 s1 h H _ ls hP hD hS (lv_sub hl [1, 2, 3, 0] rfl)
  have hL3 : ∀ k : Nat, ∀ (x1 : Int32) (x2 : Int32) (s1 : St), fX12_drops_L3 nF k x1 x2 s1 = some (r, s') → ∀ (H : Heap) (locs : List Loc) (ls : Array Slot), va_P D vwCl (wm cA ad a fr s1) H → va_D A (wm cA ad a fr s1) → va_S A s.heap H locs → lv_has ls 4 [(0, .ref (a 0)), (1, .int x1), (2, .int x2)] → W p l e (RM 0) s m args below meth c H locs 0 0 (MQ below (gQv D (TYS cA) A (wm cA ad a fr) s') args s 0 0 A) (F0 m 3 ls []) := by
    intro k
    induction k with
    | zero => intro x1 x2 s1 h; cases h
    | succ k ih => exact hB3 (fX12_drops_L3 nF k) ih
  unfold fX12_drops at h
  refine lv_bipush (v := 72) hx hb dX12_drops_0 (by decide) ?_
  refine lv_istore_n (lv' := [(2, .int 72), (0, .ref (a 0)), (1, .int p1)]) hx hb dX12_drops_2 rfl hl (by decide) rfl (fun ls hl => ?_)
  exact hL3 nF p1 72 s0 h _ _ ls hP hD hS (lv_sub hl [1, 2, 0] rfl)
noncomputable def fX12_removes (nF : Nat) (p1 : Int32) (s0 : St) : Option (Int32 × St) :=
  OB (fX12_placeOf nF p1 s0) fun r1 s2 =>
  if r1 = ((-1)) then
    OB (fX12_fails 1 s2) fun r20 s21 =>
    some (r20, s21)
  else
    OB (fX12_waits nF r1 s2) fun r5 s6 =>
    if r5 = 0 then
      OB (fX12_fails 2 s6) fun r17 s18 =>
      some (r17, s18)
    else
      BND (117 + r1) 156 <|
      LET (s6 1 (117 + r1).toNatClampNeg) fun y10 =>
      OB (fX12_drops nF r1 s6) fun r11 s12 =>
      OB (fX12_done y10 s12) fun r14 s15 =>
      some (r14, s15)
set_option maxHeartbeats 4000000 in
set_option maxRecDepth 100000 in
theorem mX12_removes (l : Launch) (D : va_G) (cA : Nat → ClassId) (ad a : Nat → Nat) (fr : va_W) (nF : Nat) (p1 : Int32) (s0 : St) (r : Int32) (s' : St) (h : fX12_removes nF p1 s0 = some (r, s')) : gMet l yX12_removes cX12_removes 4 (some .int) 2 D (TYS cA) ST0 (wm cA ad a fr s0) [.ref (a 0), .int p1] (fun A => gQi D (TYS cA) A (wm cA ad a fr) r s') := by
  refine g_ofW st0_ok (by decide) (Nat.le_of_ble_eq_true rfl) ?_
  intro p e s m args below meth c ls A G hP hD hl
  have G : GC p s m args meth c cX12_removes 4 RX12 (some .int) A D (TYS cA) ST0 := G
  have hx := G.1
  have hb := G.2.1
  have hS : va_S A s.heap s.heap [] := va_S.rf
  have hl : lv_has ls 4 [(0, .ref (a 0)), (1, .int p1)] := hl
  unfold fX12_removes at h
  refine lv_aload_n hx hb dX12_removes_0 rfl (lv_at hl 0 rfl) ?_
  refine lv_iload_n hx hb dX12_removes_1 rfl (lv_at hl 1 rfl) ?_
  obtain ⟨r1, s2, g3, h⟩ := ob_e h
  refine g_callVi (nA := 1) (mX12_placeOf l D cA ad a fr nF p1 s0 r1 s2 g3) G hP hD hS (g_good q8_32 q8_34 qs_31 q1_16 q8_35) (by decide +kernel) (by decide) (by decide) sh12_0 rfl rfl hl.1 [] rfl (Nat.le_of_ble_eq_true rfl) dX12_removes_2 (fun H locs hP hD hS => ?_)
  refine lv_istore_n (lv' := [(2, .int r1), (0, .ref (a 0)), (1, .int p1)]) hx hb dX12_removes_5 rfl hl (by decide) rfl (fun ls hl => ?_)
  refine lv_iload_n hx hb dX12_removes_6 rfl (lv_at hl 0 rfl) ?_
  refine lv_iconst (v := (-1)) hx hb dX12_removes_7 (by decide) ?_
  refine lv_icmp_ne (tgt := 17) hx hb dX12_removes_8 (by decide) (fun c4 => ?_) (fun c4 => ?_)
  · replace h := it_f c4 h
    refine lv_aload_n hx hb dX12_removes_17 rfl (lv_at hl 1 rfl) ?_
    refine lv_iload_n hx hb dX12_removes_18 rfl (lv_at hl 0 rfl) ?_
    obtain ⟨r5, s6, g7, h⟩ := ob_e h
    refine g_callVi (nA := 1) (mX12_waits l D cA ad a fr nF r1 s2 r5 s6 g7) G hP hD hS (g_good q8_8 q8_10 qs_26 q1_16 q8_11) (by decide +kernel) (by decide) (by decide) sh12_0 rfl rfl hl.1 [] rfl (Nat.le_of_ble_eq_true rfl) dX12_removes_19 (fun H locs hP hD hS => ?_)
    refine lv_if_ne (tgt := 31) hx hb dX12_removes_22 (by decide) (fun c8 => ?_) (fun c8 => ?_)
    · replace h := it_f c8 h
      refine lv_aload_n hx hb dX12_removes_31 rfl (lv_at hl 1 rfl) ?_
      refine gf12_g G hP dX12_removes_32 ?_
      refine lv_bipush (v := 117) hx hb dX12_removes_35 (by decide) ?_
      refine lv_iload_n hx hb dX12_removes_37 rfl (lv_at hl 0 rfl) ?_
      refine lv_iadd hx hb dX12_removes_38 ?_
      obtain ⟨b9, h⟩ := bnd_e h
      refine al12_1 G hP b9 dX12_removes_39 ?_
      refine lv_topi (fun y10 ey10 => ?_)
      replace h := let_e ey10 h
      refine lv_istore_n (lv' := [(3, .int y10), (2, .int r1), (0, .ref (a 0)), (1, .int p1)]) hx hb dX12_removes_40 rfl hl (by decide) rfl (fun ls hl => ?_)
      refine lv_aload_n hx hb dX12_removes_41 rfl (lv_at hl 2 rfl) ?_
      refine lv_iload_n hx hb dX12_removes_42 rfl (lv_at hl 1 rfl) ?_
      obtain ⟨r11, s12, g13, h⟩ := ob_e h
      refine g_callVv (nA := 1) (mX12_drops l D cA ad a fr nF r1 s6 r11 s12 g13) G hP hD hS (g_good q8_36 q8_38 qs_32 q1_16 q8_39) (by decide +kernel) (by decide) (by decide) sh12_0 rfl rfl hl.1 [] rfl (Nat.le_of_ble_eq_true rfl) dX12_removes_43 (fun H locs hP hD hS => ?_)
      refine lv_aload_n hx hb dX12_removes_46 rfl (lv_at hl 2 rfl) ?_
      refine lv_iload_n hx hb dX12_removes_47 rfl (lv_at hl 0 rfl) ?_
      obtain ⟨r14, s15, g16, h⟩ := ob_e h
      refine g_callVi (nA := 1) (mX12_done l D cA ad a fr y10 s12 r14 s15 g16) G hP hD hS (g_good q8_16 q8_18 qs_28 q1_16 q8_19) (by decide +kernel) (by decide) (by decide) sh12_0 rfl rfl hl.1 [] rfl (Nat.le_of_ble_eq_true rfl) dX12_removes_48 (fun H locs hP hD hS => ?_)
      exact g_ret G hP hD hS h rfl dX12_removes_51
    · replace h := it_t c8 h
      refine lv_aload_n hx hb dX12_removes_25 rfl (lv_at hl 1 rfl) ?_
      refine lv_iconst (v := 2) hx hb dX12_removes_26 (by decide) ?_
      obtain ⟨r17, s18, g19, h⟩ := ob_e h
      refine g_callVi (nA := 1) (mX12_fails l D cA ad a fr 2 s6 r17 s18 g19) G hP hD hS (g_good q8_0 q8_2 qs_24 q1_16 q8_3) (by decide +kernel) (by decide) (by decide) sh12_0 rfl rfl hl.1 [] rfl (Nat.le_of_ble_eq_true rfl) dX12_removes_27 (fun H locs hP hD hS => ?_)
      exact g_ret G hP hD hS h rfl dX12_removes_30
  · replace h := it_t c4 h
    refine lv_aload_n hx hb dX12_removes_11 rfl (lv_at hl 1 rfl) ?_
    refine lv_iconst (v := 1) hx hb dX12_removes_12 (by decide) ?_
    obtain ⟨r20, s21, g22, h⟩ := ob_e h
    refine g_callVi (nA := 1) (mX12_fails l D cA ad a fr 1 s2 r20 s21 g22) G hP hD hS (g_good q8_0 q8_2 qs_24 q1_16 q8_3) (by decide +kernel) (by decide) (by decide) sh12_0 rfl rfl hl.1 [] rfl (Nat.le_of_ble_eq_true rfl) dX12_removes_13 (fun H locs hP hD hS => ?_)
    exact g_ret G hP hD hS h rfl dX12_removes_16
noncomputable def fX12_removeNoise (nF : Nat) (p1 : Int32) (s0 : St) : Option (Int32 × St) :=
  OB (fX12_begin nF s0) fun r1 s2 =>
  OB (fX12_removes nF p1 s2) fun r4 s5 =>
  OB (fX12_kept nF r4 s5) fun r7 s8 =>
  some (r7, s8)
set_option maxHeartbeats 4000000 in
set_option maxRecDepth 100000 in
theorem mX12_removeNoise (l : Launch) (D : va_G) (cA : Nat → ClassId) (ad a : Nat → Nat) (fr : va_W) (nF : Nat) (p1 : Int32) (s0 : St) (r : Int32) (s' : St) (h : fX12_removeNoise nF p1 s0 = some (r, s')) : gMet l yX12_removeNoise cX12_removeNoise 2 (some .int) 3 D (TYS cA) ST0 (wm cA ad a fr s0) [.ref (a 0), .int p1] (fun A => gQi D (TYS cA) A (wm cA ad a fr) r s') := by
  refine g_ofW st0_ok (by decide) (Nat.le_of_ble_eq_true rfl) ?_
  intro p e s m args below meth c ls A G hP hD hl
  have G : GC p s m args meth c cX12_removeNoise 2 RX12 (some .int) A D (TYS cA) ST0 := G
  have hx := G.1
  have hb := G.2.1
  have hS : va_S A s.heap s.heap [] := va_S.rf
  have hl : lv_has ls 2 [(0, .ref (a 0)), (1, .int p1)] := hl
  unfold fX12_removeNoise at h
  refine lv_aload_n hx hb dX12_removeNoise_0 rfl (lv_at hl 0 rfl) ?_
  obtain ⟨r1, s2, g3, h⟩ := ob_e h
  refine g_callVv (nA := 0) (mX12_begin l D cA ad a fr nF s0 r1 s2 g3) G hP hD hS (g_good q7_223 q7_225 qs_22 q1_16 q7_226) (by decide +kernel) (by decide) (by decide) sh12_0 rfl rfl hl.1 [] rfl (Nat.le_of_ble_eq_true rfl) dX12_removeNoise_1 (fun H locs hP hD hS => ?_)
  refine lv_aload_n hx hb dX12_removeNoise_4 rfl (lv_at hl 0 rfl) ?_
  refine lv_aload_n hx hb dX12_removeNoise_5 rfl (lv_at hl 0 rfl) ?_
  refine lv_iload_n hx hb dX12_removeNoise_6 rfl (lv_at hl 1 rfl) ?_
  obtain ⟨r4, s5, g6, h⟩ := ob_e h
  refine g_callVi (nA := 1) (mX12_removes l D cA ad a fr nF p1 s2 r4 s5 g6) G hP hD hS (g_good q8_28 q8_30 qs_30 q1_16 q8_31) (by decide +kernel) (by decide) (by decide) sh12_0 rfl rfl hl.1 [.ref (a 0)] rfl (Nat.le_of_ble_eq_true rfl) dX12_removeNoise_7 (fun H locs hP hD hS => ?_)
  obtain ⟨r7, s8, g9, h⟩ := ob_e h
  refine g_callVi (nA := 1) (mX12_kept l D cA ad a fr nF r4 s5 r7 s8 g9) G hP hD hS (g_good q8_20 q8_22 qs_29 q1_16 q8_23) (by decide +kernel) (by decide) (by decide) sh12_0 rfl rfl hl.1 [] rfl (Nat.le_of_ble_eq_true rfl) dX12_removeNoise_10 (fun H locs hP hD hS => ?_)
  exact g_ret G hP hD hS h rfl dX12_removeNoise_13
def fX12_isWheel (p1 : Int32) (s0 : St) : Option (Int32 × St) :=
  OB (fX12_in p1 0 2 s0) fun r1 s2 =>
  BL r1 <|
  some (r1, s2)
set_option maxHeartbeats 4000000 in
set_option maxRecDepth 100000 in
theorem mX12_isWheel (l : Launch) (D : va_G) (cA : Nat → ClassId) (ad a : Nat → Nat) (fr : va_W) (p1 : Int32) (s0 : St) (r : Int32) (s' : St) (h : fX12_isWheel p1 s0 = some (r, s')) : gMet l yX12_isWheel cX12_isWheel 1 (some .boolean) 1 D (TYS cA) ST0 (wm cA ad a fr s0) [.int p1] (fun A => gQi D (TYS cA) A (wm cA ad a fr) r s') := by
  refine g_ofW st0_ok (by decide) (Nat.le_of_ble_eq_true rfl) ?_
  intro p e s m args below meth c ls A G hP hD hl
  have G : GC p s m args meth c cX12_isWheel 1 RX12 (some .boolean) A D (TYS cA) ST0 := G
  have hx := G.1
  have hb := G.2.1
  have hS : va_S A s.heap s.heap [] := va_S.rf
  have hl : lv_has ls 1 [(0, .int p1)] := hl
  unfold fX12_isWheel at h
  refine lv_iload_n hx hb dX12_isWheel_0 rfl (lv_at hl 0 rfl) ?_
  refine lv_iconst (v := 0) hx hb dX12_isWheel_1 (by decide) ?_
  refine lv_iconst (v := 2) hx hb dX12_isWheel_2 (by decide) ?_
  obtain ⟨r1, s2, g3, h⟩ := ob_e h
  refine g_callSi (nA := 3) (mX12_in l D cA ad a fr p1 0 2 s0 r1 s2 g3) G hP hD hS (g_goodS q7_237 q7_238 q1_16 q7_239) (by decide +kernel) (by decide) rfl hl.1 [] rfl (Nat.le_of_ble_eq_true rfl) dX12_isWheel_3 (fun H locs hP hD hS => ?_)
  obtain ⟨b4, h⟩ := bl_e h
  exact g_ret G hP hD hS h (bl_n b4) dX12_isWheel_6
def fX12_gears (p1 : Int32) (p2 : Int32) (s0 : St) : Option (Int32 × St) :=
  OB (fX12_isWheel p1 s0) fun r1 s2 =>
  if r1 = 0 then
    OB (fX12_fails 1 s2) fun r19 s20 =>
    some (r19, s20)
  else
    OB (fX12_in p2 1 5 s2) fun r5 s6 =>
    if r5 = 0 then
      OB (fX12_fails 2 s6) fun r16 s17 =>
      some (r16, s17)
    else
      BND (7 + p1) 156 <|
      LET (s6 1 (7 + p1).toNatClampNeg) fun y10 =>
      BND (7 + p1) 156 <|
      LET (u2 s6 1 (7 + p1).toNatClampNeg p2) fun s12 =>
      OB (fX12_done y10 s12) fun r13 s14 =>
      some (r13, s14)
set_option maxHeartbeats 4000000 in
set_option maxRecDepth 100000 in
theorem mX12_gears (l : Launch) (D : va_G) (cA : Nat → ClassId) (ad a : Nat → Nat) (fr : va_W) (p1 : Int32) (p2 : Int32) (s0 : St) (r : Int32) (s' : St) (h : fX12_gears p1 p2 s0 = some (r, s')) : gMet l yX12_gears cX12_gears 4 (some .int) 2 D (TYS cA) ST0 (wm cA ad a fr s0) [.ref (a 0), .int p1, .int p2] (fun A => gQi D (TYS cA) A (wm cA ad a fr) r s') := by
  refine g_ofW st0_ok (by decide) (Nat.le_of_ble_eq_true rfl) ?_
  intro p e s m args below meth c ls A G hP hD hl
  have G : GC p s m args meth c cX12_gears 4 RX12 (some .int) A D (TYS cA) ST0 := G
  have hx := G.1
  have hb := G.2.1
  have hS : va_S A s.heap s.heap [] := va_S.rf
  have hl : lv_has ls 4 [(0, .ref (a 0)), (1, .int p1), (2, .int p2)] := hl
  unfold fX12_gears at h
  refine lv_iload_n hx hb dX12_gears_0 rfl (lv_at hl 1 rfl) ?_
  obtain ⟨r1, s2, g3, h⟩ := ob_e h
  refine g_callSi (nA := 1) (mX12_isWheel l D cA ad a fr p1 s0 r1 s2 g3) G hP hD hS (g_goodS q8_48 q8_49 q1_16 q8_50) (by decide +kernel) (by decide) rfl hl.1 [] rfl (Nat.le_of_ble_eq_true rfl) dX12_gears_1 (fun H locs hP hD hS => ?_)
  refine lv_if_ne (tgt := 13) hx hb dX12_gears_4 (by decide) (fun c4 => ?_) (fun c4 => ?_)
  · replace h := it_f c4 h
    refine lv_iload_n hx hb dX12_gears_13 rfl (lv_at hl 2 rfl) ?_
    refine lv_iconst (v := 1) hx hb dX12_gears_14 (by decide) ?_
    refine lv_iconst (v := 5) hx hb dX12_gears_15 (by decide) ?_
    obtain ⟨r5, s6, g7, h⟩ := ob_e h
    refine g_callSi (nA := 3) (mX12_in l D cA ad a fr p2 1 5 s2 r5 s6 g7) G hP hD hS (g_goodS q7_237 q7_238 q1_16 q7_239) (by decide +kernel) (by decide) rfl hl.1 [] rfl (Nat.le_of_ble_eq_true rfl) dX12_gears_16 (fun H locs hP hD hS => ?_)
    refine lv_if_ne (tgt := 28) hx hb dX12_gears_19 (by decide) (fun c8 => ?_) (fun c8 => ?_)
    · replace h := it_f c8 h
      refine lv_aload_n hx hb dX12_gears_28 rfl (lv_at hl 0 rfl) ?_
      refine gf12_g G hP dX12_gears_29 ?_
      refine lv_bipush (v := 7) hx hb dX12_gears_32 (by decide) ?_
      refine lv_iload_n hx hb dX12_gears_34 rfl (lv_at hl 1 rfl) ?_
      refine lv_iadd hx hb dX12_gears_35 ?_
      obtain ⟨b9, h⟩ := bnd_e h
      refine al12_1 G hP b9 dX12_gears_36 ?_
      refine lv_topi (fun y10 ey10 => ?_)
      replace h := let_e ey10 h
      refine lv_istore_n (lv' := [(3, .int y10), (0, .ref (a 0)), (1, .int p1), (2, .int p2)]) hx hb dX12_gears_37 rfl hl (by decide) rfl (fun ls hl => ?_)
      refine lv_aload_n hx hb dX12_gears_38 rfl (lv_at hl 1 rfl) ?_
      refine gf12_g G hP dX12_gears_39 ?_
      refine lv_bipush (v := 7) hx hb dX12_gears_42 (by decide) ?_
      refine lv_iload_n hx hb dX12_gears_44 rfl (lv_at hl 2 rfl) ?_
      refine lv_iadd hx hb dX12_gears_45 ?_
      refine lv_iload_n hx hb dX12_gears_46 rfl (lv_at hl 3 rfl) ?_
      obtain ⟨b11, h⟩ := bnd_e h
      refine as12_1 G hP hD hS b11 dX12_gears_47 (fun s12 es12 H locs hP hD hS => ?_)
      replace h := let_e es12 h
      refine lv_aload_n hx hb dX12_gears_48 rfl (lv_at hl 1 rfl) ?_
      refine lv_iload_n hx hb dX12_gears_49 rfl (lv_at hl 0 rfl) ?_
      obtain ⟨r13, s14, g15, h⟩ := ob_e h
      refine g_callVi (nA := 1) (mX12_done l D cA ad a fr y10 s12 r13 s14 g15) G hP hD hS (g_good q8_16 q8_18 qs_28 q1_16 q8_19) (by decide +kernel) (by decide) (by decide) sh12_0 rfl rfl hl.1 [] rfl (Nat.le_of_ble_eq_true rfl) dX12_gears_50 (fun H locs hP hD hS => ?_)
      exact g_ret G hP hD hS h rfl dX12_gears_53
    · replace h := it_t c8 h
      refine lv_aload_n hx hb dX12_gears_22 rfl (lv_at hl 0 rfl) ?_
      refine lv_iconst (v := 2) hx hb dX12_gears_23 (by decide) ?_
      obtain ⟨r16, s17, g18, h⟩ := ob_e h
      refine g_callVi (nA := 1) (mX12_fails l D cA ad a fr 2 s6 r16 s17 g18) G hP hD hS (g_good q8_0 q8_2 qs_24 q1_16 q8_3) (by decide +kernel) (by decide) (by decide) sh12_0 rfl rfl hl.1 [] rfl (Nat.le_of_ble_eq_true rfl) dX12_gears_24 (fun H locs hP hD hS => ?_)
      exact g_ret G hP hD hS h rfl dX12_gears_27
  · replace h := it_t c4 h
    refine lv_aload_n hx hb dX12_gears_7 rfl (lv_at hl 0 rfl) ?_
    refine lv_iconst (v := 1) hx hb dX12_gears_8 (by decide) ?_
    obtain ⟨r19, s20, g21, h⟩ := ob_e h
    refine g_callVi (nA := 1) (mX12_fails l D cA ad a fr 1 s2 r19 s20 g21) G hP hD hS (g_good q8_0 q8_2 qs_24 q1_16 q8_3) (by decide +kernel) (by decide) (by decide) sh12_0 rfl rfl hl.1 [] rfl (Nat.le_of_ble_eq_true rfl) dX12_gears_9 (fun H locs hP hD hS => ?_)
    exact g_ret G hP hD hS h rfl dX12_gears_12
noncomputable def fX12_setGear (nF : Nat) (p1 : Int32) (p2 : Int32) (s0 : St) : Option (Int32 × St) :=
  OB (fX12_begin nF s0) fun r1 s2 =>
  OB (fX12_gears p1 p2 s2) fun r4 s5 =>
  OB (fX12_kept nF r4 s5) fun r7 s8 =>
  some (r7, s8)
set_option maxHeartbeats 4000000 in
set_option maxRecDepth 100000 in
theorem mX12_setGear (l : Launch) (D : va_G) (cA : Nat → ClassId) (ad a : Nat → Nat) (fr : va_W) (nF : Nat) (p1 : Int32) (p2 : Int32) (s0 : St) (r : Int32) (s' : St) (h : fX12_setGear nF p1 p2 s0 = some (r, s')) : gMet l yX12_setGear cX12_setGear 3 (some .int) 3 D (TYS cA) ST0 (wm cA ad a fr s0) [.ref (a 0), .int p1, .int p2] (fun A => gQi D (TYS cA) A (wm cA ad a fr) r s') := by
  refine g_ofW st0_ok (by decide) (Nat.le_of_ble_eq_true rfl) ?_
  intro p e s m args below meth c ls A G hP hD hl
  have G : GC p s m args meth c cX12_setGear 3 RX12 (some .int) A D (TYS cA) ST0 := G
  have hx := G.1
  have hb := G.2.1
  have hS : va_S A s.heap s.heap [] := va_S.rf
  have hl : lv_has ls 3 [(0, .ref (a 0)), (1, .int p1), (2, .int p2)] := hl
  unfold fX12_setGear at h
  refine lv_aload_n hx hb dX12_setGear_0 rfl (lv_at hl 0 rfl) ?_
  obtain ⟨r1, s2, g3, h⟩ := ob_e h
  refine g_callVv (nA := 0) (mX12_begin l D cA ad a fr nF s0 r1 s2 g3) G hP hD hS (g_good q7_223 q7_225 qs_22 q1_16 q7_226) (by decide +kernel) (by decide) (by decide) sh12_0 rfl rfl hl.1 [] rfl (Nat.le_of_ble_eq_true rfl) dX12_setGear_1 (fun H locs hP hD hS => ?_)
  refine lv_aload_n hx hb dX12_setGear_4 rfl (lv_at hl 0 rfl) ?_
  refine lv_aload_n hx hb dX12_setGear_5 rfl (lv_at hl 0 rfl) ?_
  refine lv_iload_n hx hb dX12_setGear_6 rfl (lv_at hl 1 rfl) ?_
  refine lv_iload_n hx hb dX12_setGear_7 rfl (lv_at hl 2 rfl) ?_
  obtain ⟨r4, s5, g6, h⟩ := ob_e h
  refine g_callVi (nA := 2) (mX12_gears l D cA ad a fr p1 p2 s2 r4 s5 g6) G hP hD hS (g_good q8_44 q8_46 qs_33 q1_16 q8_47) (by decide +kernel) (by decide) (by decide) sh12_0 rfl rfl hl.1 [.ref (a 0)] rfl (Nat.le_of_ble_eq_true rfl) dX12_setGear_8 (fun H locs hP hD hS => ?_)
  obtain ⟨r7, s8, g9, h⟩ := ob_e h
  refine g_callVi (nA := 1) (mX12_kept l D cA ad a fr nF r4 s5 r7 s8 g9) G hP hD hS (g_good q8_20 q8_22 qs_29 q1_16 q8_23) (by decide +kernel) (by decide) (by decide) sh12_0 rfl rfl hl.1 [] rfl (Nat.le_of_ble_eq_true rfl) dX12_setGear_11 (fun H locs hP hD hS => ?_)
  exact g_ret G hP hD hS h rfl dX12_setGear_14
def fX12_meshes_B17 (s1 : St) : Option (Int32 × St) :=
  OB (fX12_fails 1 s1) fun r1 s2 =>
  some (r1, s2)
def fX12_meshes (p1 : Int32) (p2 : Int32) (s0 : St) : Option (Int32 × St) :=
  OB (fX12_isBand p1 s0) fun r4 s5 =>
  if r4 = 0 then
    fX12_meshes_B17 s5
  else
    OB (fX12_in p2 0 9 s5) fun r8 s9 =>
    if r8 = 0 then
      fX12_meshes_B17 s9
    else
      BND (16 + p1) 156 <|
      LET (s9 1 (16 + p1).toNatClampNeg) fun y13 =>
      BND (16 + p1) 156 <|
      LET (u2 s9 1 (16 + p1).toNatClampNeg p2) fun s15 =>
      OB (fX12_done y13 s15) fun r16 s17 =>
      some (r16, s17)
set_option maxHeartbeats 4000000 in
set_option maxRecDepth 100000 in
theorem mX12_meshes (l : Launch) (D : va_G) (cA : Nat → ClassId) (ad a : Nat → Nat) (fr : va_W) (p1 : Int32) (p2 : Int32) (s0 : St) (r : Int32) (s' : St) (h : fX12_meshes p1 p2 s0 = some (r, s')) : gMet l yX12_meshes cX12_meshes 4 (some .int) 2 D (TYS cA) ST0 (wm cA ad a fr s0) [.ref (a 0), .int p1, .int p2] (fun A => gQi D (TYS cA) A (wm cA ad a fr) r s') := by
  refine g_ofW st0_ok (by decide) (Nat.le_of_ble_eq_true rfl) ?_
  intro p e s m args below meth c ls A G hP hD hl
  have G : GC p s m args meth c cX12_meshes 4 RX12 (some .int) A D (TYS cA) ST0 := G
  have hx := G.1
  have hb := G.2.1
  have hS : va_S A s.heap s.heap [] := va_S.rf
  have hl : lv_has ls 4 [(0, .ref (a 0)), (1, .int p1), (2, .int p2)] := hl
  have hB17 : ∀ (s1 : St), fX12_meshes_B17 s1 = some (r, s') → ∀ (H : Heap) (locs : List Loc) (ls : Array Slot), va_P D vwCl (wm cA ad a fr s1) H → va_D A (wm cA ad a fr s1) → va_S A s.heap H locs → lv_has ls 4 [(0, .ref (a 0))] → W p l e (RM 2) s m args below meth c H locs 0 0 (MQ below (gQi D (TYS cA) A (wm cA ad a fr) r s') args s 0 0 A) (F0 m 17 ls []) := by
    intro s1 h H locs ls hP hD hS hl
    unfold fX12_meshes_B17 at h
    refine lv_aload_n hx hb dX12_meshes_17 rfl (lv_at hl 0 rfl) ?_
    refine lv_iconst (v := 1) hx hb dX12_meshes_18 (by decide) ?_
    obtain ⟨r1, s2, g3, h⟩ := ob_e h
    refine g_callVi (nA := 1) (mX12_fails l D cA ad a fr 1 s1 r1 s2 g3) G hP hD hS (g_good q8_0 q8_2 qs_24 q1_16 q8_3) (by decide +kernel) (by decide) (by decide) sh12_0 rfl rfl hl.1 [] rfl (Nat.le_of_ble_eq_true rfl) dX12_meshes_19 (fun H locs hP hD hS => ?_)
    exact g_ret G hP hD hS h rfl dX12_meshes_22
  unfold fX12_meshes at h
  refine lv_iload_n hx hb dX12_meshes_0 rfl (lv_at hl 1 rfl) ?_
  obtain ⟨r4, s5, g6, h⟩ := ob_e h
  refine g_callSi (nA := 1) (mX12_isBand l D cA ad a fr p1 s0 r4 s5 g6) G hP hD hS (g_goodS q7_234 q7_235 q1_16 q7_236) (by decide +kernel) (by decide) rfl hl.1 [] rfl (Nat.le_of_ble_eq_true rfl) dX12_meshes_1 (fun H locs hP hD hS => ?_)
  refine lv_if_eq (tgt := 17) hx hb dX12_meshes_4 (by decide) (fun c7 => ?_) (fun c7 => ?_)
  · replace h := it_t c7 h
    exact hB17  s5 h _ _ ls hP hD hS (lv_sub hl [0] rfl)
  · replace h := it_f c7 h
    refine lv_iload_n hx hb dX12_meshes_7 rfl (lv_at hl 2 rfl) ?_
    refine lv_iconst (v := 0) hx hb dX12_meshes_8 (by decide) ?_
    refine lv_bipush (v := 9) hx hb dX12_meshes_9 (by decide) ?_
    obtain ⟨r8, s9, g10, h⟩ := ob_e h
    refine g_callSi (nA := 3) (mX12_in l D cA ad a fr p2 0 9 s5 r8 s9 g10) G hP hD hS (g_goodS q7_237 q7_238 q1_16 q7_239) (by decide +kernel) (by decide) rfl hl.1 [] rfl (Nat.le_of_ble_eq_true rfl) dX12_meshes_11 (fun H locs hP hD hS => ?_)
    refine lv_if_ne (tgt := 23) hx hb dX12_meshes_14 (by decide) (fun c11 => ?_) (fun c11 => ?_)
    · replace h := it_f c11 h
      refine lv_aload_n hx hb dX12_meshes_23 rfl (lv_at hl 0 rfl) ?_
      refine gf12_g G hP dX12_meshes_24 ?_
      refine lv_bipush (v := 16) hx hb dX12_meshes_27 (by decide) ?_
      refine lv_iload_n hx hb dX12_meshes_29 rfl (lv_at hl 1 rfl) ?_
      refine lv_iadd hx hb dX12_meshes_30 ?_
      obtain ⟨b12, h⟩ := bnd_e h
      refine al12_1 G hP b12 dX12_meshes_31 ?_
      refine lv_topi (fun y13 ey13 => ?_)
      replace h := let_e ey13 h
      refine lv_istore_n (lv' := [(3, .int y13), (0, .ref (a 0)), (1, .int p1), (2, .int p2)]) hx hb dX12_meshes_32 rfl hl (by decide) rfl (fun ls hl => ?_)
      refine lv_aload_n hx hb dX12_meshes_33 rfl (lv_at hl 1 rfl) ?_
      refine gf12_g G hP dX12_meshes_34 ?_
      refine lv_bipush (v := 16) hx hb dX12_meshes_37 (by decide) ?_
      refine lv_iload_n hx hb dX12_meshes_39 rfl (lv_at hl 2 rfl) ?_
      refine lv_iadd hx hb dX12_meshes_40 ?_
      refine lv_iload_n hx hb dX12_meshes_41 rfl (lv_at hl 3 rfl) ?_
      obtain ⟨b14, h⟩ := bnd_e h
      refine as12_1 G hP hD hS b14 dX12_meshes_42 (fun s15 es15 H locs hP hD hS => ?_)
      replace h := let_e es15 h
      refine lv_aload_n hx hb dX12_meshes_43 rfl (lv_at hl 1 rfl) ?_
      refine lv_iload_n hx hb dX12_meshes_44 rfl (lv_at hl 0 rfl) ?_
      obtain ⟨r16, s17, g18, h⟩ := ob_e h
      refine g_callVi (nA := 1) (mX12_done l D cA ad a fr y13 s15 r16 s17 g18) G hP hD hS (g_good q8_16 q8_18 qs_28 q1_16 q8_19) (by decide +kernel) (by decide) (by decide) sh12_0 rfl rfl hl.1 [] rfl (Nat.le_of_ble_eq_true rfl) dX12_meshes_45 (fun H locs hP hD hS => ?_)
      exact g_ret G hP hD hS h rfl dX12_meshes_48
    · replace h := it_t c11 h
      exact hB17  s9 h _ _ ls hP hD hS (lv_sub hl [0] rfl)
noncomputable def fX12_setMesh (nF : Nat) (p1 : Int32) (p2 : Int32) (s0 : St) : Option (Int32 × St) :=
  OB (fX12_begin nF s0) fun r1 s2 =>
  OB (fX12_meshes p1 p2 s2) fun r4 s5 =>
  OB (fX12_kept nF r4 s5) fun r7 s8 =>
  some (r7, s8)
set_option maxHeartbeats 4000000 in
set_option maxRecDepth 100000 in
theorem mX12_setMesh (l : Launch) (D : va_G) (cA : Nat → ClassId) (ad a : Nat → Nat) (fr : va_W) (nF : Nat) (p1 : Int32) (p2 : Int32) (s0 : St) (r : Int32) (s' : St) (h : fX12_setMesh nF p1 p2 s0 = some (r, s')) : gMet l yX12_setMesh cX12_setMesh 3 (some .int) 3 D (TYS cA) ST0 (wm cA ad a fr s0) [.ref (a 0), .int p1, .int p2] (fun A => gQi D (TYS cA) A (wm cA ad a fr) r s') := by
  refine g_ofW st0_ok (by decide) (Nat.le_of_ble_eq_true rfl) ?_
  intro p e s m args below meth c ls A G hP hD hl
  have G : GC p s m args meth c cX12_setMesh 3 RX12 (some .int) A D (TYS cA) ST0 := G
  have hx := G.1
  have hb := G.2.1
  have hS : va_S A s.heap s.heap [] := va_S.rf
  have hl : lv_has ls 3 [(0, .ref (a 0)), (1, .int p1), (2, .int p2)] := hl
  unfold fX12_setMesh at h
  refine lv_aload_n hx hb dX12_setMesh_0 rfl (lv_at hl 0 rfl) ?_
  obtain ⟨r1, s2, g3, h⟩ := ob_e h
  refine g_callVv (nA := 0) (mX12_begin l D cA ad a fr nF s0 r1 s2 g3) G hP hD hS (g_good q7_223 q7_225 qs_22 q1_16 q7_226) (by decide +kernel) (by decide) (by decide) sh12_0 rfl rfl hl.1 [] rfl (Nat.le_of_ble_eq_true rfl) dX12_setMesh_1 (fun H locs hP hD hS => ?_)
  refine lv_aload_n hx hb dX12_setMesh_4 rfl (lv_at hl 0 rfl) ?_
  refine lv_aload_n hx hb dX12_setMesh_5 rfl (lv_at hl 0 rfl) ?_
  refine lv_iload_n hx hb dX12_setMesh_6 rfl (lv_at hl 1 rfl) ?_
  refine lv_iload_n hx hb dX12_setMesh_7 rfl (lv_at hl 2 rfl) ?_
  obtain ⟨r4, s5, g6, h⟩ := ob_e h
  refine g_callVi (nA := 2) (mX12_meshes l D cA ad a fr p1 p2 s2 r4 s5 g6) G hP hD hS (g_good q8_55 q8_57 qs_34 q1_16 q8_58) (by decide +kernel) (by decide) (by decide) sh12_0 rfl rfl hl.1 [.ref (a 0)] rfl (Nat.le_of_ble_eq_true rfl) dX12_setMesh_8 (fun H locs hP hD hS => ?_)
  obtain ⟨r7, s8, g9, h⟩ := ob_e h
  refine g_callVi (nA := 1) (mX12_kept l D cA ad a fr nF r4 s5 r7 s8 g9) G hP hD hS (g_good q8_20 q8_22 qs_29 q1_16 q8_23) (by decide +kernel) (by decide) (by decide) sh12_0 rfl rfl hl.1 [] rfl (Nat.le_of_ble_eq_true rfl) dX12_setMesh_11 (fun H locs hP hD hS => ?_)
  exact g_ret G hP hD hS h rfl dX12_setMesh_14
def fX12_clears (p1 : Int32) (s0 : St) : Option (Int32 × St) :=
  OB (fX12_isWheel p1 s0) fun r1 s2 =>
  if r1 = 0 then
    OB (fX12_fails 1 s2) fun r12 s13 =>
    some (r12, s13)
  else
    BND (10 + p1) 156 <|
    LET (s2 1 (10 + p1).toNatClampNeg) fun y6 =>
    BND (10 + p1) 156 <|
    LET (u2 s2 1 (10 + p1).toNatClampNeg 0) fun s8 =>
    OB (fX12_done y6 s8) fun r9 s10 =>
    some (r9, s10)
set_option maxHeartbeats 4000000 in
set_option maxRecDepth 100000 in
theorem mX12_clears (l : Launch) (D : va_G) (cA : Nat → ClassId) (ad a : Nat → Nat) (fr : va_W) (p1 : Int32) (s0 : St) (r : Int32) (s' : St) (h : fX12_clears p1 s0 = some (r, s')) : gMet l yX12_clears cX12_clears 3 (some .int) 2 D (TYS cA) ST0 (wm cA ad a fr s0) [.ref (a 0), .int p1] (fun A => gQi D (TYS cA) A (wm cA ad a fr) r s') := by
  refine g_ofW st0_ok (by decide) (Nat.le_of_ble_eq_true rfl) ?_
  intro p e s m args below meth c ls A G hP hD hl
  have G : GC p s m args meth c cX12_clears 3 RX12 (some .int) A D (TYS cA) ST0 := G
  have hx := G.1
  have hb := G.2.1
  have hS : va_S A s.heap s.heap [] := va_S.rf
  have hl : lv_has ls 3 [(0, .ref (a 0)), (1, .int p1)] := hl
  unfold fX12_clears at h
  refine lv_iload_n hx hb dX12_clears_0 rfl (lv_at hl 1 rfl) ?_
  obtain ⟨r1, s2, g3, h⟩ := ob_e h
  refine g_callSi (nA := 1) (mX12_isWheel l D cA ad a fr p1 s0 r1 s2 g3) G hP hD hS (g_goodS q8_48 q8_49 q1_16 q8_50) (by decide +kernel) (by decide) rfl hl.1 [] rfl (Nat.le_of_ble_eq_true rfl) dX12_clears_1 (fun H locs hP hD hS => ?_)
  refine lv_if_ne (tgt := 13) hx hb dX12_clears_4 (by decide) (fun c4 => ?_) (fun c4 => ?_)
  · replace h := it_f c4 h
    refine lv_aload_n hx hb dX12_clears_13 rfl (lv_at hl 0 rfl) ?_
    refine gf12_g G hP dX12_clears_14 ?_
    refine lv_bipush (v := 10) hx hb dX12_clears_17 (by decide) ?_
    refine lv_iload_n hx hb dX12_clears_19 rfl (lv_at hl 1 rfl) ?_
    refine lv_iadd hx hb dX12_clears_20 ?_
    obtain ⟨b5, h⟩ := bnd_e h
    refine al12_1 G hP b5 dX12_clears_21 ?_
    refine lv_topi (fun y6 ey6 => ?_)
    replace h := let_e ey6 h
    refine lv_istore_n (lv' := [(2, .int y6), (0, .ref (a 0)), (1, .int p1)]) hx hb dX12_clears_22 rfl hl (by decide) rfl (fun ls hl => ?_)
    refine lv_aload_n hx hb dX12_clears_23 rfl (lv_at hl 1 rfl) ?_
    refine gf12_g G hP dX12_clears_24 ?_
    refine lv_bipush (v := 10) hx hb dX12_clears_27 (by decide) ?_
    refine lv_iload_n hx hb dX12_clears_29 rfl (lv_at hl 2 rfl) ?_
    refine lv_iadd hx hb dX12_clears_30 ?_
    refine lv_iconst (v := 0) hx hb dX12_clears_31 (by decide) ?_
    obtain ⟨b7, h⟩ := bnd_e h
    refine as12_1 G hP hD hS b7 dX12_clears_32 (fun s8 es8 H locs hP hD hS => ?_)
    replace h := let_e es8 h
    refine lv_aload_n hx hb dX12_clears_33 rfl (lv_at hl 1 rfl) ?_
    refine lv_iload_n hx hb dX12_clears_34 rfl (lv_at hl 0 rfl) ?_
    obtain ⟨r9, s10, g11, h⟩ := ob_e h
    refine g_callVi (nA := 1) (mX12_done l D cA ad a fr y6 s8 r9 s10 g11) G hP hD hS (g_good q8_16 q8_18 qs_28 q1_16 q8_19) (by decide +kernel) (by decide) (by decide) sh12_0 rfl rfl hl.1 [] rfl (Nat.le_of_ble_eq_true rfl) dX12_clears_35 (fun H locs hP hD hS => ?_)
    exact g_ret G hP hD hS h rfl dX12_clears_38
  · replace h := it_t c4 h
    refine lv_aload_n hx hb dX12_clears_7 rfl (lv_at hl 0 rfl) ?_
    refine lv_iconst (v := 1) hx hb dX12_clears_8 (by decide) ?_
    obtain ⟨r12, s13, g14, h⟩ := ob_e h
    refine g_callVi (nA := 1) (mX12_fails l D cA ad a fr 1 s2 r12 s13 g14) G hP hD hS (g_good q8_0 q8_2 qs_24 q1_16 q8_3) (by decide +kernel) (by decide) (by decide) sh12_0 rfl rfl hl.1 [] rfl (Nat.le_of_ble_eq_true rfl) dX12_clears_9 (fun H locs hP hD hS => ?_)
    exact g_ret G hP hD hS h rfl dX12_clears_12
noncomputable def fX12_clearWheel (nF : Nat) (p1 : Int32) (s0 : St) : Option (Int32 × St) :=
  OB (fX12_begin nF s0) fun r1 s2 =>
  OB (fX12_clears p1 s2) fun r4 s5 =>
  OB (fX12_kept nF r4 s5) fun r7 s8 =>
  some (r7, s8)
set_option maxHeartbeats 4000000 in
set_option maxRecDepth 100000 in
theorem mX12_clearWheel (l : Launch) (D : va_G) (cA : Nat → ClassId) (ad a : Nat → Nat) (fr : va_W) (nF : Nat) (p1 : Int32) (s0 : St) (r : Int32) (s' : St) (h : fX12_clearWheel nF p1 s0 = some (r, s')) : gMet l yX12_clearWheel cX12_clearWheel 2 (some .int) 3 D (TYS cA) ST0 (wm cA ad a fr s0) [.ref (a 0), .int p1] (fun A => gQi D (TYS cA) A (wm cA ad a fr) r s') := by
  refine g_ofW st0_ok (by decide) (Nat.le_of_ble_eq_true rfl) ?_
  intro p e s m args below meth c ls A G hP hD hl
  have G : GC p s m args meth c cX12_clearWheel 2 RX12 (some .int) A D (TYS cA) ST0 := G
  have hx := G.1
  have hb := G.2.1
  have hS : va_S A s.heap s.heap [] := va_S.rf
  have hl : lv_has ls 2 [(0, .ref (a 0)), (1, .int p1)] := hl
  unfold fX12_clearWheel at h
  refine lv_aload_n hx hb dX12_clearWheel_0 rfl (lv_at hl 0 rfl) ?_
  obtain ⟨r1, s2, g3, h⟩ := ob_e h
  refine g_callVv (nA := 0) (mX12_begin l D cA ad a fr nF s0 r1 s2 g3) G hP hD hS (g_good q7_223 q7_225 qs_22 q1_16 q7_226) (by decide +kernel) (by decide) (by decide) sh12_0 rfl rfl hl.1 [] rfl (Nat.le_of_ble_eq_true rfl) dX12_clearWheel_1 (fun H locs hP hD hS => ?_)
  refine lv_aload_n hx hb dX12_clearWheel_4 rfl (lv_at hl 0 rfl) ?_
  refine lv_aload_n hx hb dX12_clearWheel_5 rfl (lv_at hl 0 rfl) ?_
  refine lv_iload_n hx hb dX12_clearWheel_6 rfl (lv_at hl 1 rfl) ?_
  obtain ⟨r4, s5, g6, h⟩ := ob_e h
  refine g_callVi (nA := 1) (mX12_clears l D cA ad a fr p1 s2 r4 s5 g6) G hP hD hS (g_good q8_63 q8_65 qs_35 q1_16 q8_66) (by decide +kernel) (by decide) (by decide) sh12_0 rfl rfl hl.1 [.ref (a 0)] rfl (Nat.le_of_ble_eq_true rfl) dX12_clearWheel_7 (fun H locs hP hD hS => ?_)
  obtain ⟨r7, s8, g9, h⟩ := ob_e h
  refine g_callVi (nA := 1) (mX12_kept l D cA ad a fr nF r4 s5 r7 s8 g9) G hP hD hS (g_good q8_20 q8_22 qs_29 q1_16 q8_23) (by decide +kernel) (by decide) (by decide) sh12_0 rfl rfl hl.1 [] rfl (Nat.le_of_ble_eq_true rfl) dX12_clearWheel_10 (fun H locs hP hD hS => ?_)
  exact g_ret G hP hD hS h rfl dX12_clearWheel_13
noncomputable def fX12_releases (nF : Nat) (p1 : Int32) (s0 : St) : Option (Int32 × St) :=
  OB (fX12_isWheel p1 s0) fun r1 s2 =>
  if r1 = 0 then
    OB (fX12_fails 1 s2) fun r24 s25 =>
    some (r24, s25)
  else
    BND (13 + p1) 156 <|
    if (s2 1 (13 + p1).toNatClampNeg) = 0 then
      OB (fX12_fails 2 s2) fun r21 s22 =>
      some (r21, s22)
    else
      OB (fX12_waiting nF s2) fun r7 s8 =>
      if r7 = 12 then
        OB (fX12_fails 3 s8) fun r18 s19 =>
        some (r18, s19)
      else
        BND (13 + p1) 156 <|
        LET ((s8 1 (13 + p1).toNatClampNeg) - 1) fun y12 =>
        BND (13 + p1) 156 <|
        LET (u2 s8 1 (13 + p1).toNatClampNeg 0) fun s14 =>
        OB (fX12_done y12 s14) fun r15 s16 =>
        some (r15, s16)
set_option maxHeartbeats 4000000 in
set_option maxRecDepth 100000 in
theorem mX12_releases (l : Launch) (D : va_G) (cA : Nat → ClassId) (ad a : Nat → Nat) (fr : va_W) (nF : Nat) (p1 : Int32) (s0 : St) (r : Int32) (s' : St) (h : fX12_releases nF p1 s0 = some (r, s')) : gMet l yX12_releases cX12_releases 3 (some .int) 3 D (TYS cA) ST0 (wm cA ad a fr s0) [.ref (a 0), .int p1] (fun A => gQi D (TYS cA) A (wm cA ad a fr) r s') := by
  refine g_ofW st0_ok (by decide) (Nat.le_of_ble_eq_true rfl) ?_
  intro p e s m args below meth c ls A G hP hD hl
  have G : GC p s m args meth c cX12_releases 3 RX12 (some .int) A D (TYS cA) ST0 := G
  have hx := G.1
  have hb := G.2.1
  have hS : va_S A s.heap s.heap [] := va_S.rf
  have hl : lv_has ls 3 [(0, .ref (a 0)), (1, .int p1)] := hl
  unfold fX12_releases at h
  refine lv_iload_n hx hb dX12_releases_0 rfl (lv_at hl 1 rfl) ?_
  obtain ⟨r1, s2, g3, h⟩ := ob_e h
  refine g_callSi (nA := 1) (mX12_isWheel l D cA ad a fr p1 s0 r1 s2 g3) G hP hD hS (g_goodS q8_48 q8_49 q1_16 q8_50) (by decide +kernel) (by decide) rfl hl.1 [] rfl (Nat.le_of_ble_eq_true rfl) dX12_releases_1 (fun H locs hP hD hS => ?_)
  refine lv_if_ne (tgt := 13) hx hb dX12_releases_4 (by decide) (fun c4 => ?_) (fun c4 => ?_)
  · replace h := it_f c4 h
    refine lv_aload_n hx hb dX12_releases_13 rfl (lv_at hl 0 rfl) ?_
    refine gf12_g G hP dX12_releases_14 ?_
    refine lv_bipush (v := 13) hx hb dX12_releases_17 (by decide) ?_
    refine lv_iload_n hx hb dX12_releases_19 rfl (lv_at hl 1 rfl) ?_
    refine lv_iadd hx hb dX12_releases_20 ?_
    obtain ⟨b5, h⟩ := bnd_e h
    refine al12_1 G hP b5 dX12_releases_21 ?_
    refine lv_if_ne (tgt := 31) hx hb dX12_releases_22 (by decide) (fun c6 => ?_) (fun c6 => ?_)
    · replace h := it_f c6 h
      refine lv_aload_n hx hb dX12_releases_31 rfl (lv_at hl 0 rfl) ?_
      obtain ⟨r7, s8, g9, h⟩ := ob_e h
      refine g_callVi (nA := 0) (mX12_waiting l D cA ad a fr nF s2 r7 s8 g9) G hP hD hS (g_good q8_4 q8_6 qs_25 q1_16 q8_7) (by decide +kernel) (by decide) (by decide) sh12_0 rfl rfl hl.1 [] rfl (Nat.le_of_ble_eq_true rfl) dX12_releases_32 (fun H locs hP hD hS => ?_)
      refine lv_bipush (v := 12) hx hb dX12_releases_35 (by decide) ?_
      refine lv_icmp_ne (tgt := 46) hx hb dX12_releases_37 (by decide) (fun c10 => ?_) (fun c10 => ?_)
      · replace h := it_f c10 h
        refine lv_aload_n hx hb dX12_releases_46 rfl (lv_at hl 0 rfl) ?_
        refine gf12_g G hP dX12_releases_47 ?_
        refine lv_bipush (v := 13) hx hb dX12_releases_50 (by decide) ?_
        refine lv_iload_n hx hb dX12_releases_52 rfl (lv_at hl 1 rfl) ?_
        refine lv_iadd hx hb dX12_releases_53 ?_
        obtain ⟨b11, h⟩ := bnd_e h
        refine al12_1 G hP b11 dX12_releases_54 ?_
        refine lv_iconst (v := 1) hx hb dX12_releases_55 (by decide) ?_
        refine lv_isub hx hb dX12_releases_56 ?_
        refine lv_topi (fun y12 ey12 => ?_)
        replace h := let_e ey12 h
        refine lv_istore_n (lv' := [(2, .int y12), (0, .ref (a 0)), (1, .int p1)]) hx hb dX12_releases_57 rfl hl (by decide) rfl (fun ls hl => ?_)
        refine lv_aload_n hx hb dX12_releases_58 rfl (lv_at hl 1 rfl) ?_
        refine gf12_g G hP dX12_releases_59 ?_
        refine lv_bipush (v := 13) hx hb dX12_releases_62 (by decide) ?_
        refine lv_iload_n hx hb dX12_releases_64 rfl (lv_at hl 2 rfl) ?_
        refine lv_iadd hx hb dX12_releases_65 ?_
        refine lv_iconst (v := 0) hx hb dX12_releases_66 (by decide) ?_
        obtain ⟨b13, h⟩ := bnd_e h
        refine as12_1 G hP hD hS b13 dX12_releases_67 (fun s14 es14 H locs hP hD hS => ?_)
        replace h := let_e es14 h
        refine lv_aload_n hx hb dX12_releases_68 rfl (lv_at hl 1 rfl) ?_
        refine lv_iload_n hx hb dX12_releases_69 rfl (lv_at hl 0 rfl) ?_
        obtain ⟨r15, s16, g17, h⟩ := ob_e h
        refine g_callVi (nA := 1) (mX12_done l D cA ad a fr y12 s14 r15 s16 g17) G hP hD hS (g_good q8_16 q8_18 qs_28 q1_16 q8_19) (by decide +kernel) (by decide) (by decide) sh12_0 rfl rfl hl.1 [] rfl (Nat.le_of_ble_eq_true rfl) dX12_releases_70 (fun H locs hP hD hS => ?_)
        exact g_ret G hP hD hS h rfl dX12_releases_73
      · replace h := it_t c10 h
        refine lv_aload_n hx hb dX12_releases_40 rfl (lv_at hl 0 rfl) ?_
        refine lv_iconst (v := 3) hx hb dX12_releases_41 (by decide) ?_
        obtain ⟨r18, s19, g20, h⟩ := ob_e h
        refine g_callVi (nA := 1) (mX12_fails l D cA ad a fr 3 s8 r18 s19 g20) G hP hD hS (g_good q8_0 q8_2 qs_24 q1_16 q8_3) (by decide +kernel) (by decide) (by decide) sh12_0 rfl rfl hl.1 [] rfl (Nat.le_of_ble_eq_true rfl) dX12_releases_42 (fun H locs hP hD hS => ?_)
        exact g_ret G hP hD hS h rfl dX12_releases_45
    · replace h := it_t c6 h
      refine lv_aload_n hx hb dX12_releases_25 rfl (lv_at hl 0 rfl) ?_
      refine lv_iconst (v := 2) hx hb dX12_releases_26 (by decide) ?_
      obtain ⟨r21, s22, g23, h⟩ := ob_e h
      refine g_callVi (nA := 1) (mX12_fails l D cA ad a fr 2 s2 r21 s22 g23) G hP hD hS (g_good q8_0 q8_2 qs_24 q1_16 q8_3) (by decide +kernel) (by decide) (by decide) sh12_0 rfl rfl hl.1 [] rfl (Nat.le_of_ble_eq_true rfl) dX12_releases_27 (fun H locs hP hD hS => ?_)
      exact g_ret G hP hD hS h rfl dX12_releases_30
  · replace h := it_t c4 h
    refine lv_aload_n hx hb dX12_releases_7 rfl (lv_at hl 0 rfl) ?_
    refine lv_iconst (v := 1) hx hb dX12_releases_8 (by decide) ?_
    obtain ⟨r24, s25, g26, h⟩ := ob_e h
    refine g_callVi (nA := 1) (mX12_fails l D cA ad a fr 1 s2 r24 s25 g26) G hP hD hS (g_good q8_0 q8_2 qs_24 q1_16 q8_3) (by decide +kernel) (by decide) (by decide) sh12_0 rfl rfl hl.1 [] rfl (Nat.le_of_ble_eq_true rfl) dX12_releases_9 (fun H locs hP hD hS => ?_)
    exact g_ret G hP hD hS h rfl dX12_releases_12
noncomputable def fX12_releaseNoise (nF : Nat) (p1 : Int32) (s0 : St) : Option (Int32 × St) :=
  OB (fX12_begin nF s0) fun r1 s2 =>
  OB (fX12_releases nF p1 s2) fun r4 s5 =>
  OB (fX12_kept nF r4 s5) fun r7 s8 =>
  some (r7, s8)
set_option maxHeartbeats 4000000 in
set_option maxRecDepth 100000 in
theorem mX12_releaseNoise (l : Launch) (D : va_G) (cA : Nat → ClassId) (ad a : Nat → Nat) (fr : va_W) (nF : Nat) (p1 : Int32) (s0 : St) (r : Int32) (s' : St) (h : fX12_releaseNoise nF p1 s0 = some (r, s')) : gMet l yX12_releaseNoise cX12_releaseNoise 2 (some .int) 4 D (TYS cA) ST0 (wm cA ad a fr s0) [.ref (a 0), .int p1] (fun A => gQi D (TYS cA) A (wm cA ad a fr) r s') := by
  refine g_ofW st0_ok (by decide) (Nat.le_of_ble_eq_true rfl) ?_
  intro p e s m args below meth c ls A G hP hD hl
  have G : GC p s m args meth c cX12_releaseNoise 2 RX12 (some .int) A D (TYS cA) ST0 := G
  have hx := G.1
  have hb := G.2.1
  have hS : va_S A s.heap s.heap [] := va_S.rf
  have hl : lv_has ls 2 [(0, .ref (a 0)), (1, .int p1)] := hl
  unfold fX12_releaseNoise at h
  refine lv_aload_n hx hb dX12_releaseNoise_0 rfl (lv_at hl 0 rfl) ?_
  obtain ⟨r1, s2, g3, h⟩ := ob_e h
  refine g_callVv (nA := 0) (mX12_begin l D cA ad a fr nF s0 r1 s2 g3) G hP hD hS (g_good q7_223 q7_225 qs_22 q1_16 q7_226) (by decide +kernel) (by decide) (by decide) sh12_0 rfl rfl hl.1 [] rfl (Nat.le_of_ble_eq_true rfl) dX12_releaseNoise_1 (fun H locs hP hD hS => ?_)
  refine lv_aload_n hx hb dX12_releaseNoise_4 rfl (lv_at hl 0 rfl) ?_
  refine lv_aload_n hx hb dX12_releaseNoise_5 rfl (lv_at hl 0 rfl) ?_
  refine lv_iload_n hx hb dX12_releaseNoise_6 rfl (lv_at hl 1 rfl) ?_
  obtain ⟨r4, s5, g6, h⟩ := ob_e h
  refine g_callVi (nA := 1) (mX12_releases l D cA ad a fr nF p1 s2 r4 s5 g6) G hP hD hS (g_good q8_71 q8_73 qs_36 q1_16 q8_74) (by decide +kernel) (by decide) (by decide) sh12_0 rfl rfl hl.1 [.ref (a 0)] rfl (Nat.le_of_ble_eq_true rfl) dX12_releaseNoise_7 (fun H locs hP hD hS => ?_)
  obtain ⟨r7, s8, g9, h⟩ := ob_e h
  refine g_callVi (nA := 1) (mX12_kept l D cA ad a fr nF r4 s5 r7 s8 g9) G hP hD hS (g_good q8_20 q8_22 qs_29 q1_16 q8_23) (by decide +kernel) (by decide) (by decide) sh12_0 rfl rfl hl.1 [] rfl (Nat.le_of_ble_eq_true rfl) dX12_releaseNoise_10 (fun H locs hP hD hS => ?_)
  exact g_ret G hP hD hS h rfl dX12_releaseNoise_13
def fX12_isGrade (p1 : Int32) (s0 : St) : Option (Int32 × St) :=
  OB (fX12_in p1 0 3 s0) fun r1 s2 =>
  BL r1 <|
  some (r1, s2)
set_option maxHeartbeats 4000000 in
set_option maxRecDepth 100000 in
theorem mX12_isGrade (l : Launch) (D : va_G) (cA : Nat → ClassId) (ad a : Nat → Nat) (fr : va_W) (p1 : Int32) (s0 : St) (r : Int32) (s' : St) (h : fX12_isGrade p1 s0 = some (r, s')) : gMet l yX12_isGrade cX12_isGrade 1 (some .boolean) 1 D (TYS cA) ST0 (wm cA ad a fr s0) [.int p1] (fun A => gQi D (TYS cA) A (wm cA ad a fr) r s') := by
  refine g_ofW st0_ok (by decide) (Nat.le_of_ble_eq_true rfl) ?_
  intro p e s m args below meth c ls A G hP hD hl
  have G : GC p s m args meth c cX12_isGrade 1 RX12 (some .boolean) A D (TYS cA) ST0 := G
  have hx := G.1
  have hb := G.2.1
  have hS : va_S A s.heap s.heap [] := va_S.rf
  have hl : lv_has ls 1 [(0, .int p1)] := hl
  unfold fX12_isGrade at h
  refine lv_iload_n hx hb dX12_isGrade_0 rfl (lv_at hl 0 rfl) ?_
  refine lv_iconst (v := 0) hx hb dX12_isGrade_1 (by decide) ?_
  refine lv_iconst (v := 3) hx hb dX12_isGrade_2 (by decide) ?_
  obtain ⟨r1, s2, g3, h⟩ := ob_e h
  refine g_callSi (nA := 3) (mX12_in l D cA ad a fr p1 0 3 s0 r1 s2 g3) G hP hD hS (g_goodS q7_237 q7_238 q1_16 q7_239) (by decide +kernel) (by decide) rfl hl.1 [] rfl (Nat.le_of_ble_eq_true rfl) dX12_isGrade_3 (fun H locs hP hD hS => ?_)
  obtain ⟨b4, h⟩ := bl_e h
  exact g_ret G hP hD hS h (bl_n b4) dX12_isGrade_6
def fX12_ships_B17 (s1 : St) : Option (Int32 × St) :=
  OB (fX12_fails 1 s1) fun r1 s2 =>
  some (r1, s2)
def fX12_ships (p1 : Int32) (p2 : Int32) (s0 : St) : Option (Int32 × St) :=
  OB (fX12_isGrade p1 s0) fun r4 s5 =>
  if r4 = 0 then
    fX12_ships_B17 s5
  else
    OB (fX12_in p2 1 6 s5) fun r8 s9 =>
    if r8 = 0 then
      fX12_ships_B17 s9
    else
      BND (28 + p1) 156 <|
      if p2 ≤ ((s9 1 (28 + p1).toNatClampNeg) / 20) then
        BND (28 + p1) 156 <|
        BND (28 + p1) 156 <|
        LET (u2 s9 1 (28 + p1).toNatClampNeg ((s9 1 (28 + p1).toNatClampNeg) - (20 * p2))) fun s16 =>
        BND (24 + p1) 156 <|
        BND (24 + p1) 156 <|
        LET (u2 s16 1 (24 + p1).toNatClampNeg ((s16 1 (24 + p1).toNatClampNeg) + p2)) fun s19 =>
        BND (28 + p1) 156 <|
        OB (fX12_done ((s19 1 (28 + p1).toNatClampNeg) / 20) s19) fun r21 s22 =>
        some (r21, s22)
      else
        OB (fX12_fails 2 s9) fun r24 s25 =>
        some (r24, s25)
set_option maxHeartbeats 4000000 in
set_option maxRecDepth 100000 in
theorem mX12_ships (l : Launch) (D : va_G) (cA : Nat → ClassId) (ad a : Nat → Nat) (fr : va_W) (p1 : Int32) (p2 : Int32) (s0 : St) (r : Int32) (s' : St) (h : fX12_ships p1 p2 s0 = some (r, s')) : gMet l yX12_ships cX12_ships 3 (some .int) 2 D (TYS cA) ST0 (wm cA ad a fr s0) [.ref (a 0), .int p1, .int p2] (fun A => gQi D (TYS cA) A (wm cA ad a fr) r s') := by
  refine g_ofW st0_ok (by decide) (Nat.le_of_ble_eq_true rfl) ?_
  intro p e s m args below meth c ls A G hP hD hl
  have G : GC p s m args meth c cX12_ships 3 RX12 (some .int) A D (TYS cA) ST0 := G
  have hx := G.1
  have hb := G.2.1
  have hS : va_S A s.heap s.heap [] := va_S.rf
  have hl : lv_has ls 3 [(0, .ref (a 0)), (1, .int p1), (2, .int p2)] := hl
  have hB17 : ∀ (s1 : St), fX12_ships_B17 s1 = some (r, s') → ∀ (H : Heap) (locs : List Loc) (ls : Array Slot), va_P D vwCl (wm cA ad a fr s1) H → va_D A (wm cA ad a fr s1) → va_S A s.heap H locs → lv_has ls 3 [(0, .ref (a 0))] → W p l e (RM 2) s m args below meth c H locs 0 0 (MQ below (gQi D (TYS cA) A (wm cA ad a fr) r s') args s 0 0 A) (F0 m 17 ls []) := by
    intro s1 h H locs ls hP hD hS hl
    unfold fX12_ships_B17 at h
    refine lv_aload_n hx hb dX12_ships_17 rfl (lv_at hl 0 rfl) ?_
    refine lv_iconst (v := 1) hx hb dX12_ships_18 (by decide) ?_
    obtain ⟨r1, s2, g3, h⟩ := ob_e h
    refine g_callVi (nA := 1) (mX12_fails l D cA ad a fr 1 s1 r1 s2 g3) G hP hD hS (g_good q8_0 q8_2 qs_24 q1_16 q8_3) (by decide +kernel) (by decide) (by decide) sh12_0 rfl rfl hl.1 [] rfl (Nat.le_of_ble_eq_true rfl) dX12_ships_19 (fun H locs hP hD hS => ?_)
    exact g_ret G hP hD hS h rfl dX12_ships_22
  unfold fX12_ships at h
  refine lv_iload_n hx hb dX12_ships_0 rfl (lv_at hl 1 rfl) ?_
  obtain ⟨r4, s5, g6, h⟩ := ob_e h
  refine g_callSi (nA := 1) (mX12_isGrade l D cA ad a fr p1 s0 r4 s5 g6) G hP hD hS (g_goodS q8_83 q8_84 q1_16 q8_85) (by decide +kernel) (by decide) rfl hl.1 [] rfl (Nat.le_of_ble_eq_true rfl) dX12_ships_1 (fun H locs hP hD hS => ?_)
  refine lv_if_eq (tgt := 17) hx hb dX12_ships_4 (by decide) (fun c7 => ?_) (fun c7 => ?_)
  · replace h := it_t c7 h
    exact hB17  s5 h _ _ ls hP hD hS (lv_sub hl [0] rfl)
  · replace h := it_f c7 h
    refine lv_iload_n hx hb dX12_ships_7 rfl (lv_at hl 2 rfl) ?_
    refine lv_iconst (v := 1) hx hb dX12_ships_8 (by decide) ?_
    refine lv_bipush (v := 6) hx hb dX12_ships_9 (by decide) ?_
    obtain ⟨r8, s9, g10, h⟩ := ob_e h
    refine g_callSi (nA := 3) (mX12_in l D cA ad a fr p2 1 6 s5 r8 s9 g10) G hP hD hS (g_goodS q7_237 q7_238 q1_16 q7_239) (by decide +kernel) (by decide) rfl hl.1 [] rfl (Nat.le_of_ble_eq_true rfl) dX12_ships_11 (fun H locs hP hD hS => ?_)
    refine lv_if_ne (tgt := 23) hx hb dX12_ships_14 (by decide) (fun c11 => ?_) (fun c11 => ?_)
    · replace h := it_f c11 h
      refine lv_aload_n hx hb dX12_ships_23 rfl (lv_at hl 0 rfl) ?_
      refine gf12_g G hP dX12_ships_24 ?_
      refine lv_bipush (v := 28) hx hb dX12_ships_27 (by decide) ?_
      refine lv_iload_n hx hb dX12_ships_29 rfl (lv_at hl 1 rfl) ?_
      refine lv_iadd hx hb dX12_ships_30 ?_
      obtain ⟨b12, h⟩ := bnd_e h
      refine al12_1 G hP b12 dX12_ships_31 ?_
      refine lv_bipush (v := 20) hx hb dX12_ships_32 (by decide) ?_
      refine lv_idiv hx hb dX12_ships_34 (by decide) ?_
      refine lv_iload_n hx hb dX12_ships_35 rfl (lv_at hl 2 rfl) ?_
      refine lv_icmp_ge (tgt := 45) hx hb dX12_ships_36 (by decide) (fun c13 => ?_) (fun c13 => ?_)
      · replace h := it_t c13 h
        refine lv_aload_n hx hb dX12_ships_45 rfl (lv_at hl 0 rfl) ?_
        refine gf12_g G hP dX12_ships_46 ?_
        refine lv_bipush (v := 28) hx hb dX12_ships_49 (by decide) ?_
        refine lv_iload_n hx hb dX12_ships_51 rfl (lv_at hl 1 rfl) ?_
        refine lv_iadd hx hb dX12_ships_52 ?_
        refine lv_dup2_11 hx hb dX12_ships_53 rfl rfl ?_
        obtain ⟨b14, h⟩ := bnd_e h
        refine al12_1 G hP b14 dX12_ships_54 ?_
        refine lv_bipush (v := 20) hx hb dX12_ships_55 (by decide) ?_
        refine lv_iload_n hx hb dX12_ships_57 rfl (lv_at hl 2 rfl) ?_
        refine lv_imul hx hb dX12_ships_58 ?_
        refine lv_isub hx hb dX12_ships_59 ?_
        obtain ⟨b15, h⟩ := bnd_e h
        refine as12_1 G hP hD hS b15 dX12_ships_60 (fun s16 es16 H locs hP hD hS => ?_)
        replace h := let_e es16 h
        refine lv_aload_n hx hb dX12_ships_61 rfl (lv_at hl 0 rfl) ?_
        refine gf12_g G hP dX12_ships_62 ?_
        refine lv_bipush (v := 24) hx hb dX12_ships_65 (by decide) ?_
        refine lv_iload_n hx hb dX12_ships_67 rfl (lv_at hl 1 rfl) ?_
        refine lv_iadd hx hb dX12_ships_68 ?_
        refine lv_dup2_11 hx hb dX12_ships_69 rfl rfl ?_
        obtain ⟨b17, h⟩ := bnd_e h
        refine al12_1 G hP b17 dX12_ships_70 ?_
        refine lv_iload_n hx hb dX12_ships_71 rfl (lv_at hl 2 rfl) ?_
        refine lv_iadd hx hb dX12_ships_72 ?_
        obtain ⟨b18, h⟩ := bnd_e h
        refine as12_1 G hP hD hS b18 dX12_ships_73 (fun s19 es19 H locs hP hD hS => ?_)
        replace h := let_e es19 h
        refine lv_aload_n hx hb dX12_ships_74 rfl (lv_at hl 0 rfl) ?_
        refine lv_aload_n hx hb dX12_ships_75 rfl (lv_at hl 0 rfl) ?_
        refine gf12_g G hP dX12_ships_76 ?_
        refine lv_bipush (v := 28) hx hb dX12_ships_79 (by decide) ?_
        refine lv_iload_n hx hb dX12_ships_81 rfl (lv_at hl 1 rfl) ?_
        refine lv_iadd hx hb dX12_ships_82 ?_
        obtain ⟨b20, h⟩ := bnd_e h
        refine al12_1 G hP b20 dX12_ships_83 ?_
        refine lv_bipush (v := 20) hx hb dX12_ships_84 (by decide) ?_
        refine lv_idiv hx hb dX12_ships_86 (by decide) ?_
        obtain ⟨r21, s22, g23, h⟩ := ob_e h
        refine g_callVi (nA := 1) (mX12_done l D cA ad a fr ((s19 1 (28 + p1).toNatClampNeg) / 20) s19 r21 s22 g23) G hP hD hS (g_good q8_16 q8_18 qs_28 q1_16 q8_19) (by decide +kernel) (by decide) (by decide) sh12_0 rfl rfl hl.1 [] rfl (Nat.le_of_ble_eq_true rfl) dX12_ships_87 (fun H locs hP hD hS => ?_)
        exact g_ret G hP hD hS h rfl dX12_ships_90
      · replace h := it_f c13 h
        refine lv_aload_n hx hb dX12_ships_39 rfl (lv_at hl 0 rfl) ?_
        refine lv_iconst (v := 2) hx hb dX12_ships_40 (by decide) ?_
        obtain ⟨r24, s25, g26, h⟩ := ob_e h
        refine g_callVi (nA := 1) (mX12_fails l D cA ad a fr 2 s9 r24 s25 g26) G hP hD hS (g_good q8_0 q8_2 qs_24 q1_16 q8_3) (by decide +kernel) (by decide) (by decide) sh12_0 rfl rfl hl.1 [] rfl (Nat.le_of_ble_eq_true rfl) dX12_ships_41 (fun H locs hP hD hS => ?_)
        exact g_ret G hP hD hS h rfl dX12_ships_44
    · replace h := it_t c11 h
      exact hB17  s9 h _ _ ls hP hD hS (lv_sub hl [0] rfl)
noncomputable def fX12_shipSacks (nF : Nat) (p1 : Int32) (p2 : Int32) (s0 : St) : Option (Int32 × St) :=
  OB (fX12_begin nF s0) fun r1 s2 =>
  OB (fX12_ships p1 p2 s2) fun r4 s5 =>
  OB (fX12_kept nF r4 s5) fun r7 s8 =>
  some (r7, s8)
set_option maxHeartbeats 4000000 in
set_option maxRecDepth 100000 in
theorem mX12_shipSacks (l : Launch) (D : va_G) (cA : Nat → ClassId) (ad a : Nat → Nat) (fr : va_W) (nF : Nat) (p1 : Int32) (p2 : Int32) (s0 : St) (r : Int32) (s' : St) (h : fX12_shipSacks nF p1 p2 s0 = some (r, s')) : gMet l yX12_shipSacks cX12_shipSacks 3 (some .int) 3 D (TYS cA) ST0 (wm cA ad a fr s0) [.ref (a 0), .int p1, .int p2] (fun A => gQi D (TYS cA) A (wm cA ad a fr) r s') := by
  refine g_ofW st0_ok (by decide) (Nat.le_of_ble_eq_true rfl) ?_
  intro p e s m args below meth c ls A G hP hD hl
  have G : GC p s m args meth c cX12_shipSacks 3 RX12 (some .int) A D (TYS cA) ST0 := G
  have hx := G.1
  have hb := G.2.1
  have hS : va_S A s.heap s.heap [] := va_S.rf
  have hl : lv_has ls 3 [(0, .ref (a 0)), (1, .int p1), (2, .int p2)] := hl
  unfold fX12_shipSacks at h
  refine lv_aload_n hx hb dX12_shipSacks_0 rfl (lv_at hl 0 rfl) ?_
  obtain ⟨r1, s2, g3, h⟩ := ob_e h
  refine g_callVv (nA := 0) (mX12_begin l D cA ad a fr nF s0 r1 s2 g3) G hP hD hS (g_good q7_223 q7_225 qs_22 q1_16 q7_226) (by decide +kernel) (by decide) (by decide) sh12_0 rfl rfl hl.1 [] rfl (Nat.le_of_ble_eq_true rfl) dX12_shipSacks_1 (fun H locs hP hD hS => ?_)
  refine lv_aload_n hx hb dX12_shipSacks_4 rfl (lv_at hl 0 rfl) ?_
  refine lv_aload_n hx hb dX12_shipSacks_5 rfl (lv_at hl 0 rfl) ?_
  refine lv_iload_n hx hb dX12_shipSacks_6 rfl (lv_at hl 1 rfl) ?_
  refine lv_iload_n hx hb dX12_shipSacks_7 rfl (lv_at hl 2 rfl) ?_
  obtain ⟨r4, s5, g6, h⟩ := ob_e h
  refine g_callVi (nA := 2) (mX12_ships l D cA ad a fr p1 p2 s2 r4 s5 g6) G hP hD hS (g_good q8_79 q8_81 qs_37 q1_16 q8_82) (by decide +kernel) (by decide) (by decide) sh12_0 rfl rfl hl.1 [.ref (a 0)] rfl (Nat.le_of_ble_eq_true rfl) dX12_shipSacks_8 (fun H locs hP hD hS => ?_)
  obtain ⟨r7, s8, g9, h⟩ := ob_e h
  refine g_callVi (nA := 1) (mX12_kept l D cA ad a fr nF r4 s5 r7 s8 g9) G hP hD hS (g_good q8_20 q8_22 qs_29 q1_16 q8_23) (by decide +kernel) (by decide) (by decide) sh12_0 rfl rfl hl.1 [] rfl (Nat.le_of_ble_eq_true rfl) dX12_shipSacks_11 (fun H locs hP hD hS => ?_)
  exact g_ret G hP hD hS h rfl dX12_shipSacks_14
def fX12_isBefore_B49 (s1 : St) : Option (Int32 × St) :=
  some (1, s1)
def fX12_isBefore (p1 : Int32) (p2 : Int32) (s0 : St) : Option (Int32 × St) :=
  BND (102 + p1) 156 <|
  BND (102 + p2) 156 <|
  LET ((s0 1 (102 + p1).toNatClampNeg) - (s0 1 (102 + p2).toNatClampNeg)) fun y3 =>
  if 0 < y3 then
    fX12_isBefore_B49 s0
  else
    if y3 = 0 then
      BND (72 + p1) 156 <|
      BND (72 + p2) 156 <|
      if (s0 1 (72 + p2).toNatClampNeg) ≤ (s0 1 (72 + p1).toNatClampNeg) then
        some (0, s0)
      else
        fX12_isBefore_B49 s0
    else
      some (0, s0)
set_option maxHeartbeats 4000000 in
set_option maxRecDepth 100000 in
theorem mX12_isBefore (l : Launch) (D : va_G) (cA : Nat → ClassId) (ad a : Nat → Nat) (fr : va_W) (p1 : Int32) (p2 : Int32) (s0 : St) (r : Int32) (s' : St) (h : fX12_isBefore p1 p2 s0 = some (r, s')) : gMet l yX12_isBefore cX12_isBefore 4 (some .boolean) 0 D (TYS cA) ST0 (wm cA ad a fr s0) [.ref (a 0), .int p1, .int p2] (fun A => gQi D (TYS cA) A (wm cA ad a fr) r s') := by
  refine g_ofW st0_ok (by decide) (Nat.le_of_ble_eq_true rfl) ?_
  intro p e s m args below meth c ls A G hP hD hl
  have G : GC p s m args meth c cX12_isBefore 4 RX12 (some .boolean) A D (TYS cA) ST0 := G
  have hx := G.1
  have hb := G.2.1
  have hS : va_S A s.heap s.heap [] := va_S.rf
  have hl : lv_has ls 4 [(0, .ref (a 0)), (1, .int p1), (2, .int p2)] := hl
  have hB49 : ∀ (s1 : St), fX12_isBefore_B49 s1 = some (r, s') → ∀ (H : Heap) (locs : List Loc) (ls : Array Slot), va_P D vwCl (wm cA ad a fr s1) H → va_D A (wm cA ad a fr s1) → va_S A s.heap H locs → lv_has ls 4 [] → W p l e (RM 0) s m args below meth c H locs 0 0 (MQ below (gQi D (TYS cA) A (wm cA ad a fr) r s') args s 0 0 A) (F0 m 49 ls []) := by
    intro s1 h H locs ls hP hD hS hl
    unfold fX12_isBefore_B49 at h
    refine lv_iconst (v := 1) hx hb dX12_isBefore_49 (by decide) ?_
    refine lv_goto (tgt := 54) hx hb dX12_isBefore_50 (by decide) ?_
    exact g_ret G hP hD hS h rfl dX12_isBefore_54
  unfold fX12_isBefore at h
  refine lv_aload_n hx hb dX12_isBefore_0 rfl (lv_at hl 0 rfl) ?_
  refine gf12_g G hP dX12_isBefore_1 ?_
  refine lv_bipush (v := 102) hx hb dX12_isBefore_4 (by decide) ?_
  refine lv_iload_n hx hb dX12_isBefore_6 rfl (lv_at hl 1 rfl) ?_
  refine lv_iadd hx hb dX12_isBefore_7 ?_
  obtain ⟨b1, h⟩ := bnd_e h
  refine al12_1 G hP b1 dX12_isBefore_8 ?_
  refine lv_aload_n hx hb dX12_isBefore_9 rfl (lv_at hl 0 rfl) ?_
  refine gf12_g G hP dX12_isBefore_10 ?_
  refine lv_bipush (v := 102) hx hb dX12_isBefore_13 (by decide) ?_
  refine lv_iload_n hx hb dX12_isBefore_15 rfl (lv_at hl 2 rfl) ?_
  refine lv_iadd hx hb dX12_isBefore_16 ?_
  obtain ⟨b2, h⟩ := bnd_e h
  refine al12_1 G hP b2 dX12_isBefore_17 ?_
  refine lv_isub hx hb dX12_isBefore_18 ?_
  refine lv_topi (fun y3 ey3 => ?_)
  replace h := let_e ey3 h
  refine lv_istore_n (lv' := [(3, .int y3), (0, .ref (a 0)), (1, .int p1), (2, .int p2)]) hx hb dX12_isBefore_19 rfl hl (by decide) rfl (fun ls hl => ?_)
  refine lv_iload_n hx hb dX12_isBefore_20 rfl (lv_at hl 0 rfl) ?_
  refine lv_if_gt (tgt := 49) hx hb dX12_isBefore_21 (by decide) (fun c4 => ?_) (fun c4 => ?_)
  · replace h := it_t c4 h
    exact hB49  s0 h _ _ ls hP hD hS (lv_sub hl [] rfl)
  · replace h := it_f c4 h
    refine lv_iload_n hx hb dX12_isBefore_24 rfl (lv_at hl 0 rfl) ?_
    refine lv_if_ne (tgt := 53) hx hb dX12_isBefore_25 (by decide) (fun c5 => ?_) (fun c5 => ?_)
    · replace h := it_f c5 h
      refine lv_iconst (v := 0) hx hb dX12_isBefore_53 (by decide) ?_
      exact g_ret G hP hD hS h rfl dX12_isBefore_54
    · replace h := it_t c5 h
      refine lv_aload_n hx hb dX12_isBefore_28 rfl (lv_at hl 1 rfl) ?_
      refine gf12_g G hP dX12_isBefore_29 ?_
      refine lv_bipush (v := 72) hx hb dX12_isBefore_32 (by decide) ?_
      refine lv_iload_n hx hb dX12_isBefore_34 rfl (lv_at hl 2 rfl) ?_
      refine lv_iadd hx hb dX12_isBefore_35 ?_
      obtain ⟨b6, h⟩ := bnd_e h
      refine al12_1 G hP b6 dX12_isBefore_36 ?_
      refine lv_aload_n hx hb dX12_isBefore_37 rfl (lv_at hl 1 rfl) ?_
      refine gf12_g G hP dX12_isBefore_38 ?_
      refine lv_bipush (v := 72) hx hb dX12_isBefore_41 (by decide) ?_
      refine lv_iload_n hx hb dX12_isBefore_43 rfl (lv_at hl 3 rfl) ?_
      refine lv_iadd hx hb dX12_isBefore_44 ?_
      obtain ⟨b7, h⟩ := bnd_e h
      refine al12_1 G hP b7 dX12_isBefore_45 ?_
      refine lv_icmp_ge (tgt := 53) hx hb dX12_isBefore_46 (by decide) (fun c8 => ?_) (fun c8 => ?_)
      · replace h := it_t c8 h
        refine lv_iconst (v := 0) hx hb dX12_isBefore_53 (by decide) ?_
        exact g_ret G hP hD hS h rfl dX12_isBefore_54
      · replace h := it_f c8 h
        exact hB49  s0 h _ _ ls hP hD hS (lv_sub hl [] rfl)
noncomputable def fX12_rank_B37 (nF : Nat) (K4 : Int32 → Int32 → Int32 → St → Option (Int32 × St)) (x1 : Int32) (x3 : Int32) (z0 : Int32) (z1 : Int32) (s1 : St) : Option (Int32 × St) :=
  LET (z1 + z0) fun y1 =>
  LET (x3 + 1) fun y2 =>
  K4 x1 y1 y2 s1
noncomputable def fX12_rank_B36 (nF : Nat) (K4 : Int32 → Int32 → Int32 → St → Option (Int32 × St)) (x1 : Int32) (x3 : Int32) (z0 : Int32) (s1 : St) : Option (Int32 × St) :=
  fX12_rank_B37 nF K4 x1 x3 0 z0 s1
noncomputable def fX12_rank_L4b (nF : Nat) (K4 : Int32 → Int32 → Int32 → St → Option (Int32 × St)) (x1 : Int32) (x2 : Int32) (x3 : Int32) (s1 : St) : Option (Int32 × St) :=
  BND 2 156 <|
  if (s1 1 (2 : Int32).toNatClampNeg) ≤ x3 then
    some (x2, s1)
  else
    OB (fX12_waits nF x3 s1) fun r5 s6 =>
    if r5 = 0 then
      fX12_rank_B36 nF K4 x1 x3 x2 s6
    else
      OB (fX12_isBefore x3 x1 s6) fun r9 s10 =>
      if r9 = 0 then
        fX12_rank_B36 nF K4 x1 x3 x2 s10
      else
        fX12_rank_B37 nF K4 x1 x3 1 x2 s10
noncomputable def fX12_rank_L4 (nF : Nat) : Nat → Int32 → Int32 → Int32 → St → Option (Int32 × St) := fun k => Nat.rec (fun _ _ _ _ => none) (fun _ K => fX12_rank_L4b nF K) k
theorem fX12_rank_L4_s (nF : Nat) (k : Nat) : fX12_rank_L4 nF (k + 1) = fX12_rank_L4b nF (fX12_rank_L4 nF k) := rfl
noncomputable def fX12_rank (nF : Nat) (p1 : Int32) (s0 : St) : Option (Int32 × St) :=
  fX12_rank_L4 nF nF p1 0 0 s0
set_option maxHeartbeats 4000000 in
set_option maxRecDepth 100000 in
theorem mX12_rank (l : Launch) (D : va_G) (cA : Nat → ClassId) (ad a : Nat → Nat) (fr : va_W) (nF : Nat) (p1 : Int32) (s0 : St) (r : Int32) (s' : St) (h : fX12_rank nF p1 s0 = some (r, s')) : gMet l yX12_rank cX12_rank 4 (some .int) 2 D (TYS cA) ST0 (wm cA ad a fr s0) [.ref (a 0), .int p1] (fun A => gQi D (TYS cA) A (wm cA ad a fr) r s') := by
  refine g_ofW st0_ok (by decide) (Nat.le_of_ble_eq_true rfl) ?_
  intro p e s m args below meth c ls A G hP hD hl
  have G : GC p s m args meth c cX12_rank 4 RX12 (some .int) A D (TYS cA) ST0 := G
  have hx := G.1
  have hb := G.2.1
  have hS : va_S A s.heap s.heap [] := va_S.rf
  have hl : lv_has ls 4 [(0, .ref (a 0)), (1, .int p1)] := hl
  have hB37 : ∀ (K4 : Int32 → Int32 → Int32 → St → Option (Int32 × St)), (∀ (x1 : Int32) (x2 : Int32) (x3 : Int32) (s1 : St), K4 x1 x2 x3 s1 = some (r, s') → ∀ (H : Heap) (locs : List Loc) (ls : Array Slot), va_P D vwCl (wm cA ad a fr s1) H → va_D A (wm cA ad a fr s1) → va_S A s.heap H locs → lv_has ls 4 [(0, .ref (a 0)), (1, .int x1), (2, .int x2), (3, .int x3)] → W p l e (RM 2) s m args below meth c H locs 0 0 (MQ below (gQi D (TYS cA) A (wm cA ad a fr) r s') args s 0 0 A) (F0 m 4 ls [])) → ∀ (x1 : Int32) (x3 : Int32) (z0 : Int32) (z1 : Int32) (s1 : St), fX12_rank_B37 nF K4 x1 x3 z0 z1 s1 = some (r, s') → ∀ (H : Heap) (locs : List Loc) (ls : Array Slot), va_P D vwCl (wm cA ad a fr s1) H → va_D A (wm cA ad a fr s1) → va_S A s.heap H locs → lv_has ls 4 [(0, .ref (a 0)), (1, .int x1), (3, .int x3)] → W p l e (RM 2) s m args below meth c H locs 0 0 (MQ below (gQi D (TYS cA) A (wm cA ad a fr) r s') args s 0 0 A) (F0 m 37 ls [.int z0, .int z1]) := by
    intro K4 hK4 x1 x3 z0 z1 s1 h H locs ls hP hD hS hl
    unfold fX12_rank_B37 at h
    refine lv_iadd hx hb dX12_rank_37 ?_
    refine lv_topi (fun y1 ey1 => ?_)
    replace h := let_e ey1 h
    refine lv_istore_n (lv' := [(2, .int y1), (0, .ref (a 0)), (1, .int x1), (3, .int x3)]) hx hb dX12_rank_38 rfl hl (by decide) rfl (fun ls hl => ?_)
    obtain ⟨y2, ey2⟩ : ∃ y : Int32, y = x3 + 1 := ⟨_, rfl⟩
    replace h := let_e ey2 h
    refine lv_iinc (v := y2) (lv' := [(3, .int y2), (2, .int y1), (0, .ref (a 0)), (1, .int x1)]) hx hb dX12_rank_39 hl (k := 3) rfl (by rw [ey2]; rfl) (by decide) rfl (fun ls hl => ?_)
    refine lv_goto (tgt := 4) hx hb dX12_rank_42 (by decide) ?_
    exact hK4 x1 y1 y2 s1 h H _ ls hP hD hS (lv_sub hl [2, 3, 1, 0] rfl)
  have hB36 : ∀ (K4 : Int32 → Int32 → Int32 → St → Option (Int32 × St)), (∀ (x1 : Int32) (x2 : Int32) (x3 : Int32) (s1 : St), K4 x1 x2 x3 s1 = some (r, s') → ∀ (H : Heap) (locs : List Loc) (ls : Array Slot), va_P D vwCl (wm cA ad a fr s1) H → va_D A (wm cA ad a fr s1) → va_S A s.heap H locs → lv_has ls 4 [(0, .ref (a 0)), (1, .int x1), (2, .int x2), (3, .int x3)] → W p l e (RM 2) s m args below meth c H locs 0 0 (MQ below (gQi D (TYS cA) A (wm cA ad a fr) r s') args s 0 0 A) (F0 m 4 ls [])) → ∀ (x1 : Int32) (x3 : Int32) (z0 : Int32) (s1 : St), fX12_rank_B36 nF K4 x1 x3 z0 s1 = some (r, s') → ∀ (H : Heap) (locs : List Loc) (ls : Array Slot), va_P D vwCl (wm cA ad a fr s1) H → va_D A (wm cA ad a fr s1) → va_S A s.heap H locs → lv_has ls 4 [(0, .ref (a 0)), (1, .int x1), (3, .int x3)] → W p l e (RM 2) s m args below meth c H locs 0 0 (MQ below (gQi D (TYS cA) A (wm cA ad a fr) r s') args s 0 0 A) (F0 m 36 ls [.int z0]) := by
    intro K4 hK4 x1 x3 z0 s1 h H locs ls hP hD hS hl
    unfold fX12_rank_B36 at h
    refine lv_iconst (v := 0) hx hb dX12_rank_36 (by decide) ?_
    exact hB37 K4 hK4 x1 x3 0 z0 s1 h H _ ls hP hD hS (lv_sub hl [0, 1, 2] rfl)
  have hB4 : ∀ (K4 : Int32 → Int32 → Int32 → St → Option (Int32 × St)), (∀ (x1 : Int32) (x2 : Int32) (x3 : Int32) (s1 : St), K4 x1 x2 x3 s1 = some (r, s') → ∀ (H : Heap) (locs : List Loc) (ls : Array Slot), va_P D vwCl (wm cA ad a fr s1) H → va_D A (wm cA ad a fr s1) → va_S A s.heap H locs → lv_has ls 4 [(0, .ref (a 0)), (1, .int x1), (2, .int x2), (3, .int x3)] → W p l e (RM 2) s m args below meth c H locs 0 0 (MQ below (gQi D (TYS cA) A (wm cA ad a fr) r s') args s 0 0 A) (F0 m 4 ls [])) → ∀ (x1 : Int32) (x2 : Int32) (x3 : Int32) (s1 : St), fX12_rank_L4b nF K4 x1 x2 x3 s1 = some (r, s') → ∀ (H : Heap) (locs : List Loc) (ls : Array Slot), va_P D vwCl (wm cA ad a fr s1) H → va_D A (wm cA ad a fr s1) → va_S A s.heap H locs → lv_has ls 4 [(0, .ref (a 0)), (1, .int x1), (2, .int x2), (3, .int x3)] → W p l e (RM 2) s m args below meth c H locs 0 0 (MQ below (gQi D (TYS cA) A (wm cA ad a fr) r s') args s 0 0 A) (F0 m 4 ls []) := by
    intro K4 hK4 x1 x2 x3 s1 h H locs ls hP hD hS hl
    unfold fX12_rank_L4b at h
    refine lv_iload_n hx hb dX12_rank_4 rfl (lv_at hl 3 rfl) ?_
    refine lv_aload_n hx hb dX12_rank_5 rfl (lv_at hl 0 rfl) ?_
    refine gf12_g G hP dX12_rank_6 ?_
    refine lv_iconst (v := 2) hx hb dX12_rank_9 (by decide) ?_
    obtain ⟨b3, h⟩ := bnd_e h
    refine al12_1 G hP b3 dX12_rank_10 ?_
    refine lv_icmp_ge (tgt := 45) hx hb dX12_rank_11 (by decide) (fun c4 => ?_) (fun c4 => ?_)
    · replace h := it_t c4 h
      refine lv_iload_n hx hb dX12_rank_45 rfl (lv_at hl 2 rfl) ?_
      exact g_ret G hP hD hS h rfl dX12_rank_46
    · replace h := it_f c4 h
      refine lv_iload_n hx hb dX12_rank_14 rfl (lv_at hl 2 rfl) ?_
      refine lv_aload_n hx hb dX12_rank_15 rfl (lv_at hl 0 rfl) ?_
      refine lv_iload_n hx hb dX12_rank_16 rfl (lv_at hl 3 rfl) ?_
      obtain ⟨r5, s6, g7, h⟩ := ob_e h
      refine g_callVi (nA := 1) (mX12_waits l D cA ad a fr nF x3 s1 r5 s6 g7) G hP hD hS (g_good q8_8 q8_10 qs_26 q1_16 q8_11) (by decide +kernel) (by decide) (by decide) sh12_0 rfl rfl hl.1 [.int x2] rfl (Nat.le_of_ble_eq_true rfl) dX12_rank_17 (fun H locs hP hD hS => ?_)
      refine lv_if_eq (tgt := 36) hx hb dX12_rank_20 (by decide) (fun c8 => ?_) (fun c8 => ?_)
      · replace h := it_t c8 h
        exact hB36 K4 hK4 x1 x3 x2 s6 h H _ ls hP hD hS (lv_sub hl [0, 1, 3] rfl)
      · replace h := it_f c8 h
        refine lv_aload_n hx hb dX12_rank_23 rfl (lv_at hl 0 rfl) ?_
        refine lv_iload_n hx hb dX12_rank_24 rfl (lv_at hl 3 rfl) ?_
        refine lv_iload_n hx hb dX12_rank_25 rfl (lv_at hl 1 rfl) ?_
        obtain ⟨r9, s10, g11, h⟩ := ob_e h
        refine g_callVi (nA := 2) (mX12_isBefore l D cA ad a fr x3 x1 s6 r9 s10 g11) G hP hD hS (g_good q8_110 q8_112 qs_43 q1_16 q8_113) (by decide +kernel) (by decide) (by decide) sh12_0 rfl rfl hl.1 [.int x2] rfl (Nat.le_of_ble_eq_true rfl) dX12_rank_26 (fun H locs hP hD hS => ?_)
        refine lv_if_eq (tgt := 36) hx hb dX12_rank_29 (by decide) (fun c12 => ?_) (fun c12 => ?_)
        · replace h := it_t c12 h
          exact hB36 K4 hK4 x1 x3 x2 s10 h H _ ls hP hD hS (lv_sub hl [0, 1, 3] rfl)
        · replace h := it_f c12 h
          refine lv_iconst (v := 1) hx hb dX12_rank_32 (by decide) ?_
          refine lv_goto (tgt := 37) hx hb dX12_rank_33 (by decide) ?_
          exact hB37 K4 hK4 x1 x3 1 x2 s10 h H _ ls hP hD hS (lv_sub hl [0, 1, 3] rfl)
  have hL4 : ∀ k : Nat, ∀ (x1 : Int32) (x2 : Int32) (x3 : Int32) (s1 : St), fX12_rank_L4 nF k x1 x2 x3 s1 = some (r, s') → ∀ (H : Heap) (locs : List Loc) (ls : Array Slot), va_P D vwCl (wm cA ad a fr s1) H → va_D A (wm cA ad a fr s1) → va_S A s.heap H locs → lv_has ls 4 [(0, .ref (a 0)), (1, .int x1), (2, .int x2), (3, .int x3)] → W p l e (RM 2) s m args below meth c H locs 0 0 (MQ below (gQi D (TYS cA) A (wm cA ad a fr) r s') args s 0 0 A) (F0 m 4 ls []) := by
    intro k
    induction k with
    | zero => intro x1 x2 x3 s1 h; cases h
    | succ k ih => exact hB4 (fX12_rank_L4 nF k) ih
  unfold fX12_rank at h
  refine lv_iconst (v := 0) hx hb dX12_rank_0 (by decide) ?_
  refine lv_istore_n (lv' := [(2, .int 0), (0, .ref (a 0)), (1, .int p1)]) hx hb dX12_rank_1 rfl hl (by decide) rfl (fun ls hl => ?_)
  refine lv_iconst (v := 0) hx hb dX12_rank_2 (by decide) ?_
  refine lv_istore_n (lv' := [(3, .int 0), (2, .int 0), (0, .ref (a 0)), (1, .int p1)]) hx hb dX12_rank_3 rfl hl (by decide) rfl (fun ls hl => ?_)
  exact hL4 nF p1 0 0 s0 h _ _ ls hP hD hS (lv_sub hl [2, 3, 1, 0] rfl)
noncomputable def fX12_ranked_B31 (nF : Nat) (K2 : Int32 → Int32 → St → Option (Int32 × St)) (x1 : Int32) (x2 : Int32) (s1 : St) : Option (Int32 × St) :=
  LET (x2 + 1) fun y1 =>
  K2 x1 y1 s1
noncomputable def fX12_ranked_L2b (nF : Nat) (K2 : Int32 → Int32 → St → Option (Int32 × St)) (x1 : Int32) (x2 : Int32) (s1 : St) : Option (Int32 × St) :=
  BND 2 156 <|
  if (s1 1 (2 : Int32).toNatClampNeg) ≤ x2 then
    some ((-1), s1)
  else
    OB (fX12_waits nF x2 s1) fun r4 s5 =>
    if r4 = 0 then
      fX12_ranked_B31 nF K2 x1 x2 s5
    else
      OB (fX12_rank nF x2 s5) fun r8 s9 =>
      if r8 = x1 then
        some (x2, s9)
      else
        fX12_ranked_B31 nF K2 x1 x2 s9
noncomputable def fX12_ranked_L2 (nF : Nat) : Nat → Int32 → Int32 → St → Option (Int32 × St) := fun k => Nat.rec (fun _ _ _ => none) (fun _ K => fX12_ranked_L2b nF K) k
theorem fX12_ranked_L2_s (nF : Nat) (k : Nat) : fX12_ranked_L2 nF (k + 1) = fX12_ranked_L2b nF (fX12_ranked_L2 nF k) := rfl
noncomputable def fX12_ranked (nF : Nat) (p1 : Int32) (s0 : St) : Option (Int32 × St) :=
  fX12_ranked_L2 nF nF p1 0 s0
set_option maxHeartbeats 4000000 in
set_option maxRecDepth 100000 in
theorem mX12_ranked (l : Launch) (D : va_G) (cA : Nat → ClassId) (ad a : Nat → Nat) (fr : va_W) (nF : Nat) (p1 : Int32) (s0 : St) (r : Int32) (s' : St) (h : fX12_ranked nF p1 s0 = some (r, s')) : gMet l yX12_ranked cX12_ranked 3 (some .int) 3 D (TYS cA) ST0 (wm cA ad a fr s0) [.ref (a 0), .int p1] (fun A => gQi D (TYS cA) A (wm cA ad a fr) r s') := by
  refine g_ofW st0_ok (by decide) (Nat.le_of_ble_eq_true rfl) ?_
  intro p e s m args below meth c ls A G hP hD hl
  have G : GC p s m args meth c cX12_ranked 3 RX12 (some .int) A D (TYS cA) ST0 := G
  have hx := G.1
  have hb := G.2.1
  have hS : va_S A s.heap s.heap [] := va_S.rf
  have hl : lv_has ls 3 [(0, .ref (a 0)), (1, .int p1)] := hl
  have hB31 : ∀ (K2 : Int32 → Int32 → St → Option (Int32 × St)), (∀ (x1 : Int32) (x2 : Int32) (s1 : St), K2 x1 x2 s1 = some (r, s') → ∀ (H : Heap) (locs : List Loc) (ls : Array Slot), va_P D vwCl (wm cA ad a fr s1) H → va_D A (wm cA ad a fr s1) → va_S A s.heap H locs → lv_has ls 3 [(0, .ref (a 0)), (1, .int x1), (2, .int x2)] → W p l e (RM 3) s m args below meth c H locs 0 0 (MQ below (gQi D (TYS cA) A (wm cA ad a fr) r s') args s 0 0 A) (F0 m 2 ls [])) → ∀ (x1 : Int32) (x2 : Int32) (s1 : St), fX12_ranked_B31 nF K2 x1 x2 s1 = some (r, s') → ∀ (H : Heap) (locs : List Loc) (ls : Array Slot), va_P D vwCl (wm cA ad a fr s1) H → va_D A (wm cA ad a fr s1) → va_S A s.heap H locs → lv_has ls 3 [(0, .ref (a 0)), (1, .int x1), (2, .int x2)] → W p l e (RM 3) s m args below meth c H locs 0 0 (MQ below (gQi D (TYS cA) A (wm cA ad a fr) r s') args s 0 0 A) (F0 m 31 ls []) := by
    intro K2 hK2 x1 x2 s1 h H locs ls hP hD hS hl
    unfold fX12_ranked_B31 at h
    obtain ⟨y1, ey1⟩ : ∃ y : Int32, y = x2 + 1 := ⟨_, rfl⟩
    replace h := let_e ey1 h
    refine lv_iinc (v := y1) (lv' := [(2, .int y1), (0, .ref (a 0)), (1, .int x1)]) hx hb dX12_ranked_31 hl (k := 2) rfl (by rw [ey1]; rfl) (by decide) rfl (fun ls hl => ?_)
    refine lv_goto (tgt := 2) hx hb dX12_ranked_34 (by decide) ?_
    exact hK2 x1 y1 s1 h H _ ls hP hD hS (lv_sub hl [1, 2, 0] rfl)
  have hB2 : ∀ (K2 : Int32 → Int32 → St → Option (Int32 × St)), (∀ (x1 : Int32) (x2 : Int32) (s1 : St), K2 x1 x2 s1 = some (r, s') → ∀ (H : Heap) (locs : List Loc) (ls : Array Slot), va_P D vwCl (wm cA ad a fr s1) H → va_D A (wm cA ad a fr s1) → va_S A s.heap H locs → lv_has ls 3 [(0, .ref (a 0)), (1, .int x1), (2, .int x2)] → W p l e (RM 3) s m args below meth c H locs 0 0 (MQ below (gQi D (TYS cA) A (wm cA ad a fr) r s') args s 0 0 A) (F0 m 2 ls [])) → ∀ (x1 : Int32) (x2 : Int32) (s1 : St), fX12_ranked_L2b nF K2 x1 x2 s1 = some (r, s') → ∀ (H : Heap) (locs : List Loc) (ls : Array Slot), va_P D vwCl (wm cA ad a fr s1) H → va_D A (wm cA ad a fr s1) → va_S A s.heap H locs → lv_has ls 3 [(0, .ref (a 0)), (1, .int x1), (2, .int x2)] → W p l e (RM 3) s m args below meth c H locs 0 0 (MQ below (gQi D (TYS cA) A (wm cA ad a fr) r s') args s 0 0 A) (F0 m 2 ls []) := by
    intro K2 hK2 x1 x2 s1 h H locs ls hP hD hS hl
    unfold fX12_ranked_L2b at h
    refine lv_iload_n hx hb dX12_ranked_2 rfl (lv_at hl 2 rfl) ?_
    refine lv_aload_n hx hb dX12_ranked_3 rfl (lv_at hl 0 rfl) ?_
    refine gf12_g G hP dX12_ranked_4 ?_
    refine lv_iconst (v := 2) hx hb dX12_ranked_7 (by decide) ?_
    obtain ⟨b2, h⟩ := bnd_e h
    refine al12_1 G hP b2 dX12_ranked_8 ?_
    refine lv_icmp_ge (tgt := 37) hx hb dX12_ranked_9 (by decide) (fun c3 => ?_) (fun c3 => ?_)
    · replace h := it_t c3 h
      refine lv_iconst (v := (-1)) hx hb dX12_ranked_37 (by decide) ?_
      exact g_ret G hP hD hS h rfl dX12_ranked_38
    · replace h := it_f c3 h
      refine lv_aload_n hx hb dX12_ranked_12 rfl (lv_at hl 0 rfl) ?_
      refine lv_iload_n hx hb dX12_ranked_13 rfl (lv_at hl 2 rfl) ?_
      obtain ⟨r4, s5, g6, h⟩ := ob_e h
      refine g_callVi (nA := 1) (mX12_waits l D cA ad a fr nF x2 s1 r4 s5 g6) G hP hD hS (g_good q8_8 q8_10 qs_26 q1_16 q8_11) (by decide +kernel) (by decide) (by decide) sh12_0 rfl rfl hl.1 [] rfl (Nat.le_of_ble_eq_true rfl) dX12_ranked_14 (fun H locs hP hD hS => ?_)
      refine lv_if_eq (tgt := 31) hx hb dX12_ranked_17 (by decide) (fun c7 => ?_) (fun c7 => ?_)
      · replace h := it_t c7 h
        exact hB31 K2 hK2 x1 x2 s5 h H _ ls hP hD hS (lv_sub hl [0, 1, 2] rfl)
      · replace h := it_f c7 h
        refine lv_aload_n hx hb dX12_ranked_20 rfl (lv_at hl 0 rfl) ?_
        refine lv_iload_n hx hb dX12_ranked_21 rfl (lv_at hl 2 rfl) ?_
        obtain ⟨r8, s9, g10, h⟩ := ob_e h
        refine g_callVi (nA := 1) (mX12_rank l D cA ad a fr nF x2 s5 r8 s9 g10) G hP hD hS (g_good q8_106 q8_108 qs_42 q1_16 q8_109) (by decide +kernel) (by decide) (by decide) sh12_0 rfl rfl hl.1 [] rfl (Nat.le_of_ble_eq_true rfl) dX12_ranked_22 (fun H locs hP hD hS => ?_)
        refine lv_iload_n hx hb dX12_ranked_25 rfl (lv_at hl 1 rfl) ?_
        refine lv_icmp_ne (tgt := 31) hx hb dX12_ranked_26 (by decide) (fun c11 => ?_) (fun c11 => ?_)
        · replace h := it_f c11 h
          exact hB31 K2 hK2 x1 x2 s9 h H _ ls hP hD hS (lv_sub hl [0, 1, 2] rfl)
        · replace h := it_t c11 h
          refine lv_iload_n hx hb dX12_ranked_29 rfl (lv_at hl 2 rfl) ?_
          exact g_ret G hP hD hS h rfl dX12_ranked_30
  have hL2 : ∀ k : Nat, ∀ (x1 : Int32) (x2 : Int32) (s1 : St), fX12_ranked_L2 nF k x1 x2 s1 = some (r, s') → ∀ (H : Heap) (locs : List Loc) (ls : Array Slot), va_P D vwCl (wm cA ad a fr s1) H → va_D A (wm cA ad a fr s1) → va_S A s.heap H locs → lv_has ls 3 [(0, .ref (a 0)), (1, .int x1), (2, .int x2)] → W p l e (RM 3) s m args below meth c H locs 0 0 (MQ below (gQi D (TYS cA) A (wm cA ad a fr) r s') args s 0 0 A) (F0 m 2 ls []) := by
    intro k
    induction k with
    | zero => intro x1 x2 s1 h; cases h
    | succ k ih => exact hB2 (fX12_ranked_L2 nF k) ih
  unfold fX12_ranked at h
  refine lv_iconst (v := 0) hx hb dX12_ranked_0 (by decide) ?_
  refine lv_istore_n (lv' := [(2, .int 0), (0, .ref (a 0)), (1, .int p1)]) hx hb dX12_ranked_1 rfl hl (by decide) rfl (fun ls hl => ?_)
  exact hL2 nF p1 0 s0 h _ _ ls hP hD hS (lv_sub hl [1, 2, 0] rfl)
def fX12_sacks_B63 (x1 : Int32) (x3 : Int32) (x4 : Int32) (x6 : Int32) (z0 : Int32) (s1 : St) : Option (Int32 × St) :=
  BND 4 156 <|
  BND 4 156 <|
  LET (u2 s1 1 (4 : Int32).toNatClampNeg ((s1 1 (4 : Int32).toNatClampNeg) + x3)) fun s3 =>
  BND 5 156 <|
  BND 5 156 <|
  LET (u2 s3 1 (5 : Int32).toNatClampNeg ((s3 1 (5 : Int32).toNatClampNeg) + (x6 - z0))) fun s6 =>
  BND (28 + x4) 156 <|
  BND (28 + x4) 156 <|
  LET (u2 s6 1 (28 + x4).toNatClampNeg ((s6 1 (28 + x4).toNatClampNeg) + z0)) fun s9 =>
  BND ((32 + (4 * x1)) + x4) 156 <|
  BND ((32 + (4 * x1)) + x4) 156 <|
  LET (u2 s9 1 ((32 + (4 * x1)) + x4).toNatClampNeg ((s9 1 ((32 + (4 * x1)) + x4).toNatClampNeg) + z0)) fun s12 =>
  some (0, s12)
def fX12_sacks (p1 : Int32) (p2 : Int32) (s0 : St) : Option (Int32 × St) :=
  BND (16 + p1) 156 <|
  LET ((p2 * (s0 1 (16 + p1).toNatClampNeg)) / 10) fun y14 =>
  BND (16 + p1) 156 <|
  LET ((s0 1 (16 + p1).toNatClampNeg) / 3) fun y16 =>
  BND (28 + y16) 156 <|
  LET (139 - (s0 1 (28 + y16).toNatClampNeg)) fun y18 =>
  LET (p2 - y14) fun y19 =>
  if y18 ≤ y19 then
    fX12_sacks_B63 p1 y14 y16 y19 y18 s0
  else
    fX12_sacks_B63 p1 y14 y16 y19 y19 s0
set_option maxHeartbeats 4000000 in
set_option maxRecDepth 100000 in
theorem mX12_sacks (l : Launch) (D : va_G) (cA : Nat → ClassId) (ad a : Nat → Nat) (fr : va_W) (p1 : Int32) (p2 : Int32) (s0 : St) (r : Int32) (s' : St) (h : fX12_sacks p1 p2 s0 = some (r, s')) : gMet l yX12_sacks cX12_sacks 8 none 0 D (TYS cA) ST0 (wm cA ad a fr s0) [.ref (a 0), .int p1, .int p2] (fun A => gQv D (TYS cA) A (wm cA ad a fr) s') := by
  refine g_ofW st0_ok (by decide) (Nat.le_of_ble_eq_true rfl) ?_
  intro p e s m args below meth c ls A G hP hD hl
  have G : GC p s m args meth c cX12_sacks 8 RX12 none A D (TYS cA) ST0 := G
  have hx := G.1
  have hb := G.2.1
  have hS : va_S A s.heap s.heap [] := va_S.rf
  have hl : lv_has ls 8 [(0, .ref (a 0)), (1, .int p1), (2, .int p2)] := hl
  have hB63 : ∀ (x1 : Int32) (x3 : Int32) (x4 : Int32) (x6 : Int32) (z0 : Int32) (s1 : St), fX12_sacks_B63 x1 x3 x4 x6 z0 s1 = some (r, s') → ∀ (H : Heap) (locs : List Loc) (ls : Array Slot), va_P D vwCl (wm cA ad a fr s1) H → va_D A (wm cA ad a fr s1) → va_S A s.heap H locs → lv_has ls 8 [(0, .ref (a 0)), (1, .int x1), (3, .int x3), (4, .int x4), (6, .int x6)] → W p l e (RM 0) s m args below meth c H locs 0 0 (MQ below (gQv D (TYS cA) A (wm cA ad a fr) s') args s 0 0 A) (F0 m 63 ls [.int z0]) := by
    intro x1 x3 x4 x6 z0 s1 h H locs ls hP hD hS hl
    unfold fX12_sacks_B63 at h
    refine lv_istore (lv' := [(7, .int z0), (0, .ref (a 0)), (1, .int x1), (3, .int x3), (4, .int x4), (6, .int x6)]) hx hb dX12_sacks_63 hl (by decide) rfl (fun ls hl => ?_)
    refine lv_aload_n hx hb dX12_sacks_65 rfl (lv_at hl 1 rfl) ?_
    refine gf12_g G hP dX12_sacks_66 ?_
    refine lv_iconst (v := 4) hx hb dX12_sacks_69 (by decide) ?_
    refine lv_dup2_11 hx hb dX12_sacks_70 rfl rfl ?_
    obtain ⟨b1, h⟩ := bnd_e h
    refine al12_1 G hP b1 dX12_sacks_71 ?_
    refine lv_iload_n hx hb dX12_sacks_72 rfl (lv_at hl 3 rfl) ?_
    refine lv_iadd hx hb dX12_sacks_73 ?_
    obtain ⟨b2, h⟩ := bnd_e h
    refine as12_1 G hP hD hS b2 dX12_sacks_74 (fun s3 es3 H locs hP hD hS => ?_)
    replace h := let_e es3 h
    refine lv_aload_n hx hb dX12_sacks_75 rfl (lv_at hl 1 rfl) ?_
    refine gf12_g G hP dX12_sacks_76 ?_
    refine lv_iconst (v := 5) hx hb dX12_sacks_79 (by decide) ?_
    refine lv_dup2_11 hx hb dX12_sacks_80 rfl rfl ?_
    obtain ⟨b4, h⟩ := bnd_e h
    refine al12_1 G hP b4 dX12_sacks_81 ?_
    refine lv_iload hx hb dX12_sacks_82 (lv_at hl 5 rfl) ?_
    refine lv_iload hx hb dX12_sacks_84 (lv_at hl 0 rfl) ?_
    refine lv_isub hx hb dX12_sacks_86 ?_
    refine lv_iadd hx hb dX12_sacks_87 ?_
    obtain ⟨b5, h⟩ := bnd_e h
    refine as12_1 G hP hD hS b5 dX12_sacks_88 (fun s6 es6 H locs hP hD hS => ?_)
    replace h := let_e es6 h
    refine lv_aload_n hx hb dX12_sacks_89 rfl (lv_at hl 1 rfl) ?_
    refine gf12_g G hP dX12_sacks_90 ?_
    refine lv_bipush (v := 28) hx hb dX12_sacks_93 (by decide) ?_
    refine lv_iload hx hb dX12_sacks_95 (lv_at hl 4 rfl) ?_
    refine lv_iadd hx hb dX12_sacks_97 ?_
    refine lv_dup2_11 hx hb dX12_sacks_98 rfl rfl ?_
    obtain ⟨b7, h⟩ := bnd_e h
    refine al12_1 G hP b7 dX12_sacks_99 ?_
    refine lv_iload hx hb dX12_sacks_100 (lv_at hl 0 rfl) ?_
    refine lv_iadd hx hb dX12_sacks_102 ?_
    obtain ⟨b8, h⟩ := bnd_e h
    refine as12_1 G hP hD hS b8 dX12_sacks_103 (fun s9 es9 H locs hP hD hS => ?_)
    replace h := let_e es9 h
    refine lv_aload_n hx hb dX12_sacks_104 rfl (lv_at hl 1 rfl) ?_
    refine gf12_g G hP dX12_sacks_105 ?_
    refine lv_bipush (v := 32) hx hb dX12_sacks_108 (by decide) ?_
    refine lv_iconst (v := 4) hx hb dX12_sacks_110 (by decide) ?_
    refine lv_iload_n hx hb dX12_sacks_111 rfl (lv_at hl 2 rfl) ?_
    refine lv_imul hx hb dX12_sacks_112 ?_
    refine lv_iadd hx hb dX12_sacks_113 ?_
    refine lv_iload hx hb dX12_sacks_114 (lv_at hl 4 rfl) ?_
    refine lv_iadd hx hb dX12_sacks_116 ?_
    refine lv_dup2_11 hx hb dX12_sacks_117 rfl rfl ?_
    obtain ⟨b10, h⟩ := bnd_e h
    refine al12_1 G hP b10 dX12_sacks_118 ?_
    refine lv_iload hx hb dX12_sacks_119 (lv_at hl 0 rfl) ?_
    refine lv_iadd hx hb dX12_sacks_121 ?_
    obtain ⟨b11, h⟩ := bnd_e h
    refine as12_1 G hP hD hS b11 dX12_sacks_122 (fun s12 es12 H locs hP hD hS => ?_)
    replace h := let_e es12 h
    exact g_vret G hP hD hS h dX12_sacks_123
  unfold fX12_sacks at h
  refine lv_iload_n hx hb dX12_sacks_0 rfl (lv_at hl 2 rfl) ?_
  refine lv_aload_n hx hb dX12_sacks_1 rfl (lv_at hl 0 rfl) ?_
  refine gf12_g G hP dX12_sacks_2 ?_
  refine lv_bipush (v := 16) hx hb dX12_sacks_5 (by decide) ?_
  refine lv_iload_n hx hb dX12_sacks_7 rfl (lv_at hl 1 rfl) ?_
  refine lv_iadd hx hb dX12_sacks_8 ?_
  obtain ⟨b13, h⟩ := bnd_e h
  refine al12_1 G hP b13 dX12_sacks_9 ?_
  refine lv_imul hx hb dX12_sacks_10 ?_
  refine lv_bipush (v := 10) hx hb dX12_sacks_11 (by decide) ?_
  refine lv_idiv hx hb dX12_sacks_13 (by decide) ?_
  refine lv_topi (fun y14 ey14 => ?_)
  replace h := let_e ey14 h
  refine lv_istore_n (lv' := [(3, .int y14), (0, .ref (a 0)), (1, .int p1), (2, .int p2)]) hx hb dX12_sacks_14 rfl hl (by decide) rfl (fun ls hl => ?_)
  refine lv_aload_n hx hb dX12_sacks_15 rfl (lv_at hl 1 rfl) ?_
  refine gf12_g G hP dX12_sacks_16 ?_
  refine lv_bipush (v := 16) hx hb dX12_sacks_19 (by decide) ?_
  refine lv_iload_n hx hb dX12_sacks_21 rfl (lv_at hl 2 rfl) ?_
  refine lv_iadd hx hb dX12_sacks_22 ?_
  obtain ⟨b15, h⟩ := bnd_e h
  refine al12_1 G hP b15 dX12_sacks_23 ?_
  refine lv_iconst (v := 3) hx hb dX12_sacks_24 (by decide) ?_
  refine lv_idiv hx hb dX12_sacks_25 (by decide) ?_
  refine lv_topi (fun y16 ey16 => ?_)
  replace h := let_e ey16 h
  refine lv_istore (lv' := [(4, .int y16), (3, .int y14), (0, .ref (a 0)), (1, .int p1), (2, .int p2)]) hx hb dX12_sacks_26 hl (by decide) rfl (fun ls hl => ?_)
  refine lv_sipush (v := 139) hx hb dX12_sacks_28 (by decide) ?_
  refine lv_aload_n hx hb dX12_sacks_31 rfl (lv_at hl 2 rfl) ?_
  refine gf12_g G hP dX12_sacks_32 ?_
  refine lv_bipush (v := 28) hx hb dX12_sacks_35 (by decide) ?_
  refine lv_iload hx hb dX12_sacks_37 (lv_at hl 0 rfl) ?_
  refine lv_iadd hx hb dX12_sacks_39 ?_
  obtain ⟨b17, h⟩ := bnd_e h
  refine al12_1 G hP b17 dX12_sacks_40 ?_
  refine lv_isub hx hb dX12_sacks_41 ?_
  refine lv_topi (fun y18 ey18 => ?_)
  replace h := let_e ey18 h
  refine lv_istore (lv' := [(5, .int y18), (4, .int y16), (3, .int y14), (0, .ref (a 0)), (1, .int p1), (2, .int p2)]) hx hb dX12_sacks_42 hl (by decide) rfl (fun ls hl => ?_)
  refine lv_iload_n hx hb dX12_sacks_44 rfl (lv_at hl 5 rfl) ?_
  refine lv_iload_n hx hb dX12_sacks_45 rfl (lv_at hl 2 rfl) ?_
  refine lv_isub hx hb dX12_sacks_46 ?_
  refine lv_topi (fun y19 ey19 => ?_)
  replace h := let_e ey19 h
  refine lv_istore (lv' := [(6, .int y19), (5, .int y18), (4, .int y16), (3, .int y14), (0, .ref (a 0)), (1, .int p1), (2, .int p2)]) hx hb dX12_sacks_47 hl (by decide) rfl (fun ls hl => ?_)
  refine lv_iload hx hb dX12_sacks_49 (lv_at hl 0 rfl) ?_
  refine lv_iload hx hb dX12_sacks_51 (lv_at hl 1 rfl) ?_
  refine lv_icmp_ge (tgt := 61) hx hb dX12_sacks_53 (by decide) (fun c20 => ?_) (fun c20 => ?_)
  · replace h := it_t c20 h
    refine lv_iload hx hb dX12_sacks_61 (lv_at hl 1 rfl) ?_
    exact hB63 p1 y14 y16 y19 y18 s0 h _ _ ls hP hD hS (lv_sub hl [4, 5, 3, 2, 0] rfl)
  · replace h := it_f c20 h
    refine lv_iload hx hb dX12_sacks_56 (lv_at hl 0 rfl) ?_
    refine lv_goto (tgt := 63) hx hb dX12_sacks_58 (by decide) ?_
    exact hB63 p1 y14 y16 y19 y19 s0 h _ _ ls hP hD hS (lv_sub hl [4, 5, 3, 2, 0] rfl)
noncomputable def fX12_finishes (nF : Nat) (p1 : Int32) (p2 : Int32) (s0 : St) : Option (Int32 × St) :=
  BND 6 156 <|
  LET ((s0 1 (6 : Int32).toNatClampNeg) - (s0 1 (6 : Int32).toNatClampNeg) / 8 * 8) fun y2 =>
  BND (72 + p2) 156 <|
  BND (132 + y2) 156 <|
  LET (u2 s0 1 (132 + y2).toNatClampNeg (s0 1 (72 + p2).toNatClampNeg)) fun s5 =>
  BND (140 + y2) 156 <|
  LET (u2 s5 1 (140 + y2).toNatClampNeg p1) fun s7 =>
  BND 0 156 <|
  BND (148 + y2) 156 <|
  LET (u2 s7 1 (148 + y2).toNatClampNeg (s7 1 (0 : Int32).toNatClampNeg)) fun s10 =>
  BND 6 156 <|
  BND 6 156 <|
  LET (u2 s10 1 (6 : Int32).toNatClampNeg ((s10 1 (6 : Int32).toNatClampNeg) + 1)) fun s13 =>
  BND (13 + p1) 156 <|
  LET (u2 s13 1 (13 + p1).toNatClampNeg 0) fun s15 =>
  OB (fX12_drops nF p2 s15) fun r16 s17 =>
  some (0, s17)
set_option maxHeartbeats 4000000 in
set_option maxRecDepth 100000 in
theorem mX12_finishes (l : Launch) (D : va_G) (cA : Nat → ClassId) (ad a : Nat → Nat) (fr : va_W) (nF : Nat) (p1 : Int32) (p2 : Int32) (s0 : St) (r : Int32) (s' : St) (h : fX12_finishes nF p1 p2 s0 = some (r, s')) : gMet l yX12_finishes cX12_finishes 4 none 1 D (TYS cA) ST0 (wm cA ad a fr s0) [.ref (a 0), .int p1, .int p2] (fun A => gQv D (TYS cA) A (wm cA ad a fr) s') := by
  refine g_ofW st0_ok (by decide) (Nat.le_of_ble_eq_true rfl) ?_
  intro p e s m args below meth c ls A G hP hD hl
  have G : GC p s m args meth c cX12_finishes 4 RX12 none A D (TYS cA) ST0 := G
  have hx := G.1
  have hb := G.2.1
  have hS : va_S A s.heap s.heap [] := va_S.rf
  have hl : lv_has ls 4 [(0, .ref (a 0)), (1, .int p1), (2, .int p2)] := hl
  unfold fX12_finishes at h
  refine lv_aload_n hx hb dX12_finishes_0 rfl (lv_at hl 0 rfl) ?_
  refine gf12_g G hP dX12_finishes_1 ?_
  refine lv_bipush (v := 6) hx hb dX12_finishes_4 (by decide) ?_
  obtain ⟨b1, h⟩ := bnd_e h
  refine al12_1 G hP b1 dX12_finishes_6 ?_
  refine lv_bipush (v := 8) hx hb dX12_finishes_7 (by decide) ?_
  refine lv_irem hx hb dX12_finishes_9 (by decide) ?_
  refine lv_topi (fun y2 ey2 => ?_)
  replace h := let_e ey2 h
  refine lv_istore_n (lv' := [(3, .int y2), (0, .ref (a 0)), (1, .int p1), (2, .int p2)]) hx hb dX12_finishes_10 rfl hl (by decide) rfl (fun ls hl => ?_)
  refine lv_aload_n hx hb dX12_finishes_11 rfl (lv_at hl 1 rfl) ?_
  refine gf12_g G hP dX12_finishes_12 ?_
  refine lv_sipush (v := 132) hx hb dX12_finishes_15 (by decide) ?_
  refine lv_iload_n hx hb dX12_finishes_18 rfl (lv_at hl 0 rfl) ?_
  refine lv_iadd hx hb dX12_finishes_19 ?_
  refine lv_aload_n hx hb dX12_finishes_20 rfl (lv_at hl 1 rfl) ?_
  refine gf12_g G hP dX12_finishes_21 ?_
  refine lv_bipush (v := 72) hx hb dX12_finishes_24 (by decide) ?_
  refine lv_iload_n hx hb dX12_finishes_26 rfl (lv_at hl 3 rfl) ?_
  refine lv_iadd hx hb dX12_finishes_27 ?_
  obtain ⟨b3, h⟩ := bnd_e h
  refine al12_1 G hP b3 dX12_finishes_28 ?_
  obtain ⟨b4, h⟩ := bnd_e h
  refine as12_1 G hP hD hS b4 dX12_finishes_29 (fun s5 es5 H locs hP hD hS => ?_)
  replace h := let_e es5 h
  refine lv_aload_n hx hb dX12_finishes_30 rfl (lv_at hl 1 rfl) ?_
  refine gf12_g G hP dX12_finishes_31 ?_
  refine lv_sipush (v := 140) hx hb dX12_finishes_34 (by decide) ?_
  refine lv_iload_n hx hb dX12_finishes_37 rfl (lv_at hl 0 rfl) ?_
  refine lv_iadd hx hb dX12_finishes_38 ?_
  refine lv_iload_n hx hb dX12_finishes_39 rfl (lv_at hl 2 rfl) ?_
  obtain ⟨b6, h⟩ := bnd_e h
  refine as12_1 G hP hD hS b6 dX12_finishes_40 (fun s7 es7 H locs hP hD hS => ?_)
  replace h := let_e es7 h
  refine lv_aload_n hx hb dX12_finishes_41 rfl (lv_at hl 1 rfl) ?_
  refine gf12_g G hP dX12_finishes_42 ?_
  refine lv_sipush (v := 148) hx hb dX12_finishes_45 (by decide) ?_
  refine lv_iload_n hx hb dX12_finishes_48 rfl (lv_at hl 0 rfl) ?_
  refine lv_iadd hx hb dX12_finishes_49 ?_
  refine lv_aload_n hx hb dX12_finishes_50 rfl (lv_at hl 1 rfl) ?_
  refine gf12_g G hP dX12_finishes_51 ?_
  refine lv_iconst (v := 0) hx hb dX12_finishes_54 (by decide) ?_
  obtain ⟨b8, h⟩ := bnd_e h
  refine al12_1 G hP b8 dX12_finishes_55 ?_
  obtain ⟨b9, h⟩ := bnd_e h
  refine as12_1 G hP hD hS b9 dX12_finishes_56 (fun s10 es10 H locs hP hD hS => ?_)
  replace h := let_e es10 h
  refine lv_aload_n hx hb dX12_finishes_57 rfl (lv_at hl 1 rfl) ?_
  refine gf12_g G hP dX12_finishes_58 ?_
  refine lv_bipush (v := 6) hx hb dX12_finishes_61 (by decide) ?_
  refine lv_dup2_11 hx hb dX12_finishes_63 rfl rfl ?_
  obtain ⟨b11, h⟩ := bnd_e h
  refine al12_1 G hP b11 dX12_finishes_64 ?_
  refine lv_iconst (v := 1) hx hb dX12_finishes_65 (by decide) ?_
  refine lv_iadd hx hb dX12_finishes_66 ?_
  obtain ⟨b12, h⟩ := bnd_e h
  refine as12_1 G hP hD hS b12 dX12_finishes_67 (fun s13 es13 H locs hP hD hS => ?_)
  replace h := let_e es13 h
  refine lv_aload_n hx hb dX12_finishes_68 rfl (lv_at hl 1 rfl) ?_
  refine gf12_g G hP dX12_finishes_69 ?_
  refine lv_bipush (v := 13) hx hb dX12_finishes_72 (by decide) ?_
  refine lv_iload_n hx hb dX12_finishes_74 rfl (lv_at hl 2 rfl) ?_
  refine lv_iadd hx hb dX12_finishes_75 ?_
  refine lv_iconst (v := 0) hx hb dX12_finishes_76 (by decide) ?_
  obtain ⟨b14, h⟩ := bnd_e h
  refine as12_1 G hP hD hS b14 dX12_finishes_77 (fun s15 es15 H locs hP hD hS => ?_)
  replace h := let_e es15 h
  refine lv_aload_n hx hb dX12_finishes_78 rfl (lv_at hl 1 rfl) ?_
  refine lv_iload_n hx hb dX12_finishes_79 rfl (lv_at hl 3 rfl) ?_
  obtain ⟨r16, s17, g18, h⟩ := ob_e h
  refine g_callVv (nA := 1) (mX12_drops l D cA ad a fr nF p2 s15 r16 s17 g18) G hP hD hS (g_good q8_36 q8_38 qs_32 q1_16 q8_39) (by decide +kernel) (by decide) (by decide) sh12_0 rfl rfl hl.1 [] rfl (Nat.le_of_ble_eq_true rfl) dX12_finishes_80 (fun H locs hP hD hS => ?_)
  exact g_vret G hP hD hS h dX12_finishes_83
noncomputable def fX12_grinds_B54 (nF : Nat) (x1 : Int32) (x2 : Int32) (z0 : Int32) (s1 : St) : Option (Int32 × St) :=
  BND (87 + x2) 156 <|
  LET (s1 1 (87 + x2).toNatClampNeg) fun y2 =>
  BND (117 + x2) 156 <|
  BND (117 + x2) 156 <|
  LET (u2 s1 1 (117 + x2).toNatClampNeg ((s1 1 (117 + x2).toNatClampNeg) - z0)) fun s5 =>
  BND (10 + x1) 156 <|
  BND (7 + x1) 156 <|
  BND (10 + x1) 156 <|
  LET (u2 s5 1 (10 + x1).toNatClampNeg ((s5 1 (10 + x1).toNatClampNeg) + (s5 1 (7 + x1).toNatClampNeg))) fun s9 =>
  BND 3 156 <|
  BND 3 156 <|
  LET (u2 s9 1 (3 : Int32).toNatClampNeg ((s9 1 (3 : Int32).toNatClampNeg) + z0)) fun s12 =>
  BND (64 + y2) 156 <|
  LET (u2 s12 1 (64 + y2).toNatClampNeg 1) fun s14 =>
  OB (fX12_sacks y2 z0 s14) fun r15 s16 =>
  BND (117 + x2) 156 <|
  if (s16 1 (117 + x2).toNatClampNeg) = 0 then
    OB (fX12_finishes nF x1 x2 s16) fun r20 s21 =>
    some (0, s21)
  else
    some (0, s16)
noncomputable def fX12_grinds (nF : Nat) (p1 : Int32) (s0 : St) : Option (Int32 × St) :=
  BND (13 + p1) 156 <|
  OB (fX12_placeOf nF ((s0 1 (13 + p1).toNatClampNeg) - 1) s0) fun r24 s25 =>
  BND (7 + p1) 156 <|
  LET (2 * (s25 1 (7 + p1).toNatClampNeg)) fun y28 =>
  BND (117 + r24) 156 <|
  if (s25 1 (117 + r24).toNatClampNeg) ≤ y28 then
    BND (117 + r24) 156 <|
    fX12_grinds_B54 nF p1 r24 (s25 1 (117 + r24).toNatClampNeg) s25
  else
    fX12_grinds_B54 nF p1 r24 y28 s25
set_option maxHeartbeats 4000000 in
set_option maxRecDepth 100000 in
theorem mX12_grinds (l : Launch) (D : va_G) (cA : Nat → ClassId) (ad a : Nat → Nat) (fr : va_W) (nF : Nat) (p1 : Int32) (s0 : St) (r : Int32) (s' : St) (h : fX12_grinds nF p1 s0 = some (r, s')) : gMet l yX12_grinds cX12_grinds 6 none 2 D (TYS cA) ST0 (wm cA ad a fr s0) [.ref (a 0), .int p1] (fun A => gQv D (TYS cA) A (wm cA ad a fr) s') := by
  refine g_ofW st0_ok (by decide) (Nat.le_of_ble_eq_true rfl) ?_
  intro p e s m args below meth c ls A G hP hD hl
  have G : GC p s m args meth c cX12_grinds 6 RX12 none A D (TYS cA) ST0 := G
  have hx := G.1
  have hb := G.2.1
  have hS : va_S A s.heap s.heap [] := va_S.rf
  have hl : lv_has ls 6 [(0, .ref (a 0)), (1, .int p1)] := hl
  have hB54 : ∀ (x1 : Int32) (x2 : Int32) (z0 : Int32) (s1 : St), fX12_grinds_B54 nF x1 x2 z0 s1 = some (r, s') → ∀ (H : Heap) (locs : List Loc) (ls : Array Slot), va_P D vwCl (wm cA ad a fr s1) H → va_D A (wm cA ad a fr s1) → va_S A s.heap H locs → lv_has ls 6 [(0, .ref (a 0)), (1, .int x1), (2, .int x2)] → W p l e (RM 2) s m args below meth c H locs 0 0 (MQ below (gQv D (TYS cA) A (wm cA ad a fr) s') args s 0 0 A) (F0 m 54 ls [.int z0]) := by
    intro x1 x2 z0 s1 h H locs ls hP hD hS hl
    unfold fX12_grinds_B54 at h
    refine lv_istore (lv' := [(4, .int z0), (0, .ref (a 0)), (1, .int x1), (2, .int x2)]) hx hb dX12_grinds_54 hl (by decide) rfl (fun ls hl => ?_)
    refine lv_aload_n hx hb dX12_grinds_56 rfl (lv_at hl 1 rfl) ?_
    refine gf12_g G hP dX12_grinds_57 ?_
    refine lv_bipush (v := 87) hx hb dX12_grinds_60 (by decide) ?_
    refine lv_iload_n hx hb dX12_grinds_62 rfl (lv_at hl 3 rfl) ?_
    refine lv_iadd hx hb dX12_grinds_63 ?_
    obtain ⟨b1, h⟩ := bnd_e h
    refine al12_1 G hP b1 dX12_grinds_64 ?_
    refine lv_topi (fun y2 ey2 => ?_)
    replace h := let_e ey2 h
    refine lv_istore (lv' := [(5, .int y2), (4, .int z0), (0, .ref (a 0)), (1, .int x1), (2, .int x2)]) hx hb dX12_grinds_65 hl (by decide) rfl (fun ls hl => ?_)
    refine lv_aload_n hx hb dX12_grinds_67 rfl (lv_at hl 2 rfl) ?_
    refine gf12_g G hP dX12_grinds_68 ?_
    refine lv_bipush (v := 117) hx hb dX12_grinds_71 (by decide) ?_
    refine lv_iload_n hx hb dX12_grinds_73 rfl (lv_at hl 4 rfl) ?_
    refine lv_iadd hx hb dX12_grinds_74 ?_
    refine lv_dup2_11 hx hb dX12_grinds_75 rfl rfl ?_
    obtain ⟨b3, h⟩ := bnd_e h
    refine al12_1 G hP b3 dX12_grinds_76 ?_
    refine lv_iload hx hb dX12_grinds_77 (lv_at hl 1 rfl) ?_
    refine lv_isub hx hb dX12_grinds_79 ?_
    obtain ⟨b4, h⟩ := bnd_e h
    refine as12_1 G hP hD hS b4 dX12_grinds_80 (fun s5 es5 H locs hP hD hS => ?_)
    replace h := let_e es5 h
    refine lv_aload_n hx hb dX12_grinds_81 rfl (lv_at hl 2 rfl) ?_
    refine gf12_g G hP dX12_grinds_82 ?_
    refine lv_bipush (v := 10) hx hb dX12_grinds_85 (by decide) ?_
    refine lv_iload_n hx hb dX12_grinds_87 rfl (lv_at hl 3 rfl) ?_
    refine lv_iadd hx hb dX12_grinds_88 ?_
    refine lv_dup2_11 hx hb dX12_grinds_89 rfl rfl ?_
    obtain ⟨b6, h⟩ := bnd_e h
    refine al12_1 G hP b6 dX12_grinds_90 ?_
    refine lv_aload_n hx hb dX12_grinds_91 rfl (lv_at hl 2 rfl) ?_
    refine gf12_g G hP dX12_grinds_92 ?_
    refine lv_bipush (v := 7) hx hb dX12_grinds_95 (by decide) ?_
    refine lv_iload_n hx hb dX12_grinds_97 rfl (lv_at hl 3 rfl) ?_
    refine lv_iadd hx hb dX12_grinds_98 ?_
    obtain ⟨b7, h⟩ := bnd_e h
    refine al12_1 G hP b7 dX12_grinds_99 ?_
    refine lv_iadd hx hb dX12_grinds_100 ?_
    obtain ⟨b8, h⟩ := bnd_e h
    refine as12_1 G hP hD hS b8 dX12_grinds_101 (fun s9 es9 H locs hP hD hS => ?_)
    replace h := let_e es9 h
    refine lv_aload_n hx hb dX12_grinds_102 rfl (lv_at hl 2 rfl) ?_
    refine gf12_g G hP dX12_grinds_103 ?_
    refine lv_iconst (v := 3) hx hb dX12_grinds_106 (by decide) ?_
    refine lv_dup2_11 hx hb dX12_grinds_107 rfl rfl ?_
    obtain ⟨b10, h⟩ := bnd_e h
    refine al12_1 G hP b10 dX12_grinds_108 ?_
    refine lv_iload hx hb dX12_grinds_109 (lv_at hl 1 rfl) ?_
    refine lv_iadd hx hb dX12_grinds_111 ?_
    obtain ⟨b11, h⟩ := bnd_e h
    refine as12_1 G hP hD hS b11 dX12_grinds_112 (fun s12 es12 H locs hP hD hS => ?_)
    replace h := let_e es12 h
    refine lv_aload_n hx hb dX12_grinds_113 rfl (lv_at hl 2 rfl) ?_
    refine gf12_g G hP dX12_grinds_114 ?_
    refine lv_bipush (v := 64) hx hb dX12_grinds_117 (by decide) ?_
    refine lv_iload hx hb dX12_grinds_119 (lv_at hl 0 rfl) ?_
    refine lv_iadd hx hb dX12_grinds_121 ?_
    refine lv_iconst (v := 1) hx hb dX12_grinds_122 (by decide) ?_
    obtain ⟨b13, h⟩ := bnd_e h
    refine as12_1 G hP hD hS b13 dX12_grinds_123 (fun s14 es14 H locs hP hD hS => ?_)
    replace h := let_e es14 h
    refine lv_aload_n hx hb dX12_grinds_124 rfl (lv_at hl 2 rfl) ?_
    refine lv_iload hx hb dX12_grinds_125 (lv_at hl 0 rfl) ?_
    refine lv_iload hx hb dX12_grinds_127 (lv_at hl 1 rfl) ?_
    obtain ⟨r15, s16, g17, h⟩ := ob_e h
    refine g_callVv (nA := 2) (mX12_sacks l D cA ad a fr y2 z0 s14 r15 s16 g17) G hP hD hS (g_good q8_118 q8_120 qs_45 q1_16 q8_121) (by decide +kernel) (by decide) (by decide) sh12_0 rfl rfl hl.1 [] rfl (Nat.le_of_ble_eq_true rfl) dX12_grinds_129 (fun H locs hP hD hS => ?_)
    refine lv_aload_n hx hb dX12_grinds_132 rfl (lv_at hl 2 rfl) ?_
    refine gf12_g G hP dX12_grinds_133 ?_
    refine lv_bipush (v := 117) hx hb dX12_grinds_136 (by decide) ?_
    refine lv_iload_n hx hb dX12_grinds_138 rfl (lv_at hl 4 rfl) ?_
    refine lv_iadd hx hb dX12_grinds_139 ?_
    obtain ⟨b18, h⟩ := bnd_e h
    refine al12_1 G hP b18 dX12_grinds_140 ?_
    refine lv_if_ne (tgt := 150) hx hb dX12_grinds_141 (by decide) (fun c19 => ?_) (fun c19 => ?_)
    · replace h := it_f c19 h
      exact g_vret G hP hD hS h dX12_grinds_150
    · replace h := it_t c19 h
      refine lv_aload_n hx hb dX12_grinds_144 rfl (lv_at hl 2 rfl) ?_
      refine lv_iload_n hx hb dX12_grinds_145 rfl (lv_at hl 3 rfl) ?_
      refine lv_iload_n hx hb dX12_grinds_146 rfl (lv_at hl 4 rfl) ?_
      obtain ⟨r20, s21, g22, h⟩ := ob_e h
      refine g_callVv (nA := 2) (mX12_finishes l D cA ad a fr nF x1 x2 s16 r20 s21 g22) G hP hD hS (g_good q8_122 q8_124 qs_46 q1_16 q8_125) (by decide +kernel) (by decide) (by decide) sh12_0 rfl rfl hl.1 [] rfl (Nat.le_of_ble_eq_true rfl) dX12_grinds_147 (fun H locs hP hD hS => ?_)
      exact g_vret G hP hD hS h dX12_grinds_150
  unfold fX12_grinds at h
  refine lv_aload_n hx hb dX12_grinds_0 rfl (lv_at hl 0 rfl) ?_
  refine lv_aload_n hx hb dX12_grinds_1 rfl (lv_at hl 0 rfl) ?_
  refine gf12_g G hP dX12_grinds_2 ?_
  refine lv_bipush (v := 13) hx hb dX12_grinds_5 (by decide) ?_
  refine lv_iload_n hx hb dX12_grinds_7 rfl (lv_at hl 1 rfl) ?_
  refine lv_iadd hx hb dX12_grinds_8 ?_
  obtain ⟨b23, h⟩ := bnd_e h
  refine al12_1 G hP b23 dX12_grinds_9 ?_
  refine lv_iconst (v := 1) hx hb dX12_grinds_10 (by decide) ?_
  refine lv_isub hx hb dX12_grinds_11 ?_
  obtain ⟨r24, s25, g26, h⟩ := ob_e h
  refine g_callVi (nA := 1) (mX12_placeOf l D cA ad a fr nF ((s0 1 (13 + p1).toNatClampNeg) - 1) s0 r24 s25 g26) G hP hD hS (g_good q8_32 q8_34 qs_31 q1_16 q8_35) (by decide +kernel) (by decide) (by decide) sh12_0 rfl rfl hl.1 [] rfl (Nat.le_of_ble_eq_true rfl) dX12_grinds_12 (fun H locs hP hD hS => ?_)
  refine lv_istore_n (lv' := [(2, .int r24), (0, .ref (a 0)), (1, .int p1)]) hx hb dX12_grinds_15 rfl hl (by decide) rfl (fun ls hl => ?_)
  refine lv_iconst (v := 2) hx hb dX12_grinds_16 (by decide) ?_
  refine lv_aload_n hx hb dX12_grinds_17 rfl (lv_at hl 1 rfl) ?_
  refine gf12_g G hP dX12_grinds_18 ?_
  refine lv_bipush (v := 7) hx hb dX12_grinds_21 (by decide) ?_
  refine lv_iload_n hx hb dX12_grinds_23 rfl (lv_at hl 2 rfl) ?_
  refine lv_iadd hx hb dX12_grinds_24 ?_
  obtain ⟨b27, h⟩ := bnd_e h
  refine al12_1 G hP b27 dX12_grinds_25 ?_
  refine lv_imul hx hb dX12_grinds_26 ?_
  refine lv_topi (fun y28 ey28 => ?_)
  replace h := let_e ey28 h
  refine lv_istore_n (lv' := [(3, .int y28), (2, .int r24), (0, .ref (a 0)), (1, .int p1)]) hx hb dX12_grinds_27 rfl hl (by decide) rfl (fun ls hl => ?_)
  refine lv_iload_n hx hb dX12_grinds_28 rfl (lv_at hl 0 rfl) ?_
  refine lv_aload_n hx hb dX12_grinds_29 rfl (lv_at hl 2 rfl) ?_
  refine gf12_g G hP dX12_grinds_30 ?_
  refine lv_bipush (v := 117) hx hb dX12_grinds_33 (by decide) ?_
  refine lv_iload_n hx hb dX12_grinds_35 rfl (lv_at hl 1 rfl) ?_
  refine lv_iadd hx hb dX12_grinds_36 ?_
  obtain ⟨b29, h⟩ := bnd_e h
  refine al12_1 G hP b29 dX12_grinds_37 ?_
  refine lv_icmp_ge (tgt := 45) hx hb dX12_grinds_38 (by decide) (fun c30 => ?_) (fun c30 => ?_)
  · replace h := it_t c30 h
    refine lv_aload_n hx hb dX12_grinds_45 rfl (lv_at hl 2 rfl) ?_
    refine gf12_g G hP dX12_grinds_46 ?_
    refine lv_bipush (v := 117) hx hb dX12_grinds_49 (by decide) ?_
    refine lv_iload_n hx hb dX12_grinds_51 rfl (lv_at hl 1 rfl) ?_
    refine lv_iadd hx hb dX12_grinds_52 ?_
    obtain ⟨b31, h⟩ := bnd_e h
    refine al12_1 G hP b31 dX12_grinds_53 ?_
    exact hB54 p1 r24 (s25 1 (117 + r24).toNatClampNeg) s25 h _ _ ls hP hD hS (lv_sub hl [2, 3, 1] rfl)
  · replace h := it_f c30 h
    refine lv_iload_n hx hb dX12_grinds_41 rfl (lv_at hl 0 rfl) ?_
    refine lv_goto (tgt := 54) hx hb dX12_grinds_42 (by decide) ?_
    exact hB54 p1 r24 y28 s25 h _ _ ls hP hD hS (lv_sub hl [2, 3, 1] rfl)
noncomputable def fX12_acts_B58 (nF : Nat) (x1 : Int32) (s1 : St) : Option (Int32 × St) :=
  BND (13 + x1) 156 <|
  if (s1 1 (13 + x1).toNatClampNeg) ≤ 0 then
    some (0, s1)
  else
    OB (fX12_grinds nF x1 s1) fun r3 s4 =>
    some (0, s4)
noncomputable def fX12_acts (nF : Nat) (p1 : Int32) (s0 : St) : Option (Int32 × St) :=
  BND (10 + p1) 156 <|
  if (s0 1 (10 + p1).toNatClampNeg) < 12 then
    OB (fX12_ranked nF 0 s0) fun r8 s9 =>
    BND (13 + p1) 156 <|
    if (s9 1 (13 + p1).toNatClampNeg) = 0 then
      if r8 = ((-1)) then
        fX12_acts_B58 nF p1 s9
      else
        BND (72 + r8) 156 <|
        BND (13 + p1) 156 <|
        LET (u2 s9 1 (13 + p1).toNatClampNeg ((s9 1 (72 + r8).toNatClampNeg) + 1)) fun s16 =>
        fX12_acts_B58 nF p1 s16
    else
      fX12_acts_B58 nF p1 s9
  else
    some (0, s0)
set_option maxHeartbeats 4000000 in
set_option maxRecDepth 100000 in
theorem mX12_acts (l : Launch) (D : va_G) (cA : Nat → ClassId) (ad a : Nat → Nat) (fr : va_W) (nF : Nat) (p1 : Int32) (s0 : St) (r : Int32) (s' : St) (h : fX12_acts nF p1 s0 = some (r, s')) : gMet l yX12_acts cX12_acts 3 none 4 D (TYS cA) ST0 (wm cA ad a fr s0) [.ref (a 0), .int p1] (fun A => gQv D (TYS cA) A (wm cA ad a fr) s') := by
  refine g_ofW st0_ok (by decide) (Nat.le_of_ble_eq_true rfl) ?_
  intro p e s m args below meth c ls A G hP hD hl
  have G : GC p s m args meth c cX12_acts 3 RX12 none A D (TYS cA) ST0 := G
  have hx := G.1
  have hb := G.2.1
  have hS : va_S A s.heap s.heap [] := va_S.rf
  have hl : lv_has ls 3 [(0, .ref (a 0)), (1, .int p1)] := hl
  have hB58 : ∀ (x1 : Int32) (s1 : St), fX12_acts_B58 nF x1 s1 = some (r, s') → ∀ (H : Heap) (locs : List Loc) (ls : Array Slot), va_P D vwCl (wm cA ad a fr s1) H → va_D A (wm cA ad a fr s1) → va_S A s.heap H locs → lv_has ls 3 [(0, .ref (a 0)), (1, .int x1)] → W p l e (RM 4) s m args below meth c H locs 0 0 (MQ below (gQv D (TYS cA) A (wm cA ad a fr) s') args s 0 0 A) (F0 m 58 ls []) := by
    intro x1 s1 h H locs ls hP hD hS hl
    unfold fX12_acts_B58 at h
    refine lv_aload_n hx hb dX12_acts_58 rfl (lv_at hl 0 rfl) ?_
    refine gf12_g G hP dX12_acts_59 ?_
    refine lv_bipush (v := 13) hx hb dX12_acts_62 (by decide) ?_
    refine lv_iload_n hx hb dX12_acts_64 rfl (lv_at hl 1 rfl) ?_
    refine lv_iadd hx hb dX12_acts_65 ?_
    obtain ⟨b1, h⟩ := bnd_e h
    refine al12_1 G hP b1 dX12_acts_66 ?_
    refine lv_if_le (tgt := 75) hx hb dX12_acts_67 (by decide) (fun c2 => ?_) (fun c2 => ?_)
    · replace h := it_t c2 h
      exact g_vret G hP hD hS h dX12_acts_75
    · replace h := it_f c2 h
      refine lv_aload_n hx hb dX12_acts_70 rfl (lv_at hl 0 rfl) ?_
      refine lv_iload_n hx hb dX12_acts_71 rfl (lv_at hl 1 rfl) ?_
      obtain ⟨r3, s4, g5, h⟩ := ob_e h
      refine g_callVv (nA := 1) (mX12_grinds l D cA ad a fr nF x1 s1 r3 s4 g5) G hP hD hS (g_good q8_114 q8_116 qs_44 q1_16 q8_117) (by decide +kernel) (by decide) (by decide) sh12_0 rfl rfl hl.1 [] rfl (Nat.le_of_ble_eq_true rfl) dX12_acts_72 (fun H locs hP hD hS => ?_)
      exact g_vret G hP hD hS h dX12_acts_75
  unfold fX12_acts at h
  refine lv_aload_n hx hb dX12_acts_0 rfl (lv_at hl 0 rfl) ?_
  refine gf12_g G hP dX12_acts_1 ?_
  refine lv_bipush (v := 10) hx hb dX12_acts_4 (by decide) ?_
  refine lv_iload_n hx hb dX12_acts_6 rfl (lv_at hl 1 rfl) ?_
  refine lv_iadd hx hb dX12_acts_7 ?_
  obtain ⟨b6, h⟩ := bnd_e h
  refine al12_1 G hP b6 dX12_acts_8 ?_
  refine lv_bipush (v := 12) hx hb dX12_acts_9 (by decide) ?_
  refine lv_icmp_lt (tgt := 15) hx hb dX12_acts_11 (by decide) (fun c7 => ?_) (fun c7 => ?_)
  · replace h := it_t c7 h
    refine lv_aload_n hx hb dX12_acts_15 rfl (lv_at hl 0 rfl) ?_
    refine lv_iconst (v := 0) hx hb dX12_acts_16 (by decide) ?_
    obtain ⟨r8, s9, g10, h⟩ := ob_e h
    refine g_callVi (nA := 1) (mX12_ranked l D cA ad a fr nF 0 s0 r8 s9 g10) G hP hD hS (g_good q8_102 q8_104 qs_41 q1_16 q8_105) (by decide +kernel) (by decide) (by decide) sh12_0 rfl rfl hl.1 [] rfl (Nat.le_of_ble_eq_true rfl) dX12_acts_17 (fun H locs hP hD hS => ?_)
    refine lv_istore_n (lv' := [(2, .int r8), (0, .ref (a 0)), (1, .int p1)]) hx hb dX12_acts_20 rfl hl (by decide) rfl (fun ls hl => ?_)
    refine lv_aload_n hx hb dX12_acts_21 rfl (lv_at hl 1 rfl) ?_
    refine gf12_g G hP dX12_acts_22 ?_
    refine lv_bipush (v := 13) hx hb dX12_acts_25 (by decide) ?_
    refine lv_iload_n hx hb dX12_acts_27 rfl (lv_at hl 2 rfl) ?_
    refine lv_iadd hx hb dX12_acts_28 ?_
    obtain ⟨b11, h⟩ := bnd_e h
    refine al12_1 G hP b11 dX12_acts_29 ?_
    refine lv_if_ne (tgt := 58) hx hb dX12_acts_30 (by decide) (fun c12 => ?_) (fun c12 => ?_)
    · replace h := it_f c12 h
      exact hB58 p1 s9 h _ _ ls hP hD hS (lv_sub hl [1, 2] rfl)
    · replace h := it_t c12 h
      refine lv_iload_n hx hb dX12_acts_33 rfl (lv_at hl 0 rfl) ?_
      refine lv_iconst (v := (-1)) hx hb dX12_acts_34 (by decide) ?_
      refine lv_icmp_eq (tgt := 58) hx hb dX12_acts_35 (by decide) (fun c13 => ?_) (fun c13 => ?_)
      · replace h := it_t c13 h
        exact hB58 p1 s9 h _ _ ls hP hD hS (lv_sub hl [1, 2] rfl)
      · replace h := it_f c13 h
        refine lv_aload_n hx hb dX12_acts_38 rfl (lv_at hl 1 rfl) ?_
        refine gf12_g G hP dX12_acts_39 ?_
        refine lv_bipush (v := 13) hx hb dX12_acts_42 (by decide) ?_
        refine lv_iload_n hx hb dX12_acts_44 rfl (lv_at hl 2 rfl) ?_
        refine lv_iadd hx hb dX12_acts_45 ?_
        refine lv_aload_n hx hb dX12_acts_46 rfl (lv_at hl 1 rfl) ?_
        refine gf12_g G hP dX12_acts_47 ?_
        refine lv_bipush (v := 72) hx hb dX12_acts_50 (by decide) ?_
        refine lv_iload_n hx hb dX12_acts_52 rfl (lv_at hl 0 rfl) ?_
        refine lv_iadd hx hb dX12_acts_53 ?_
        obtain ⟨b14, h⟩ := bnd_e h
        refine al12_1 G hP b14 dX12_acts_54 ?_
        refine lv_iconst (v := 1) hx hb dX12_acts_55 (by decide) ?_
        refine lv_iadd hx hb dX12_acts_56 ?_
        obtain ⟨b15, h⟩ := bnd_e h
        refine as12_1 G hP hD hS b15 dX12_acts_57 (fun s16 es16 H locs hP hD hS => ?_)
        replace h := let_e es16 h
        exact hB58 p1 s16 h _ _ ls hP hD hS (lv_sub hl [1, 2] rfl)
  · replace h := it_f c7 h
    exact g_vret G hP hD hS h dX12_acts_14
noncomputable def fX12_step_L12b (nF : Nat) (K12 : Int32 → St → Option (Int32 × St)) (x1 : Int32) (s1 : St) : Option (Int32 × St) :=
  if 3 ≤ x1 then
    some (0, s1)
  else
    OB (fX12_acts nF x1 s1) fun r2 s3 =>
    LET (x1 + 1) fun y5 =>
    K12 y5 s3
noncomputable def fX12_step_L12 (nF : Nat) : Nat → Int32 → St → Option (Int32 × St) := fun k => Nat.rec (fun _ _ => none) (fun _ K => fX12_step_L12b nF K) k
theorem fX12_step_L12_s (nF : Nat) (k : Nat) : fX12_step_L12 nF (k + 1) = fX12_step_L12b nF (fX12_step_L12 nF k) := rfl
noncomputable def fX12_step (nF : Nat) (s0 : St) : Option (Int32 × St) :=
  BND 0 156 <|
  BND 0 156 <|
  LET (u2 s0 1 (0 : Int32).toNatClampNeg ((s0 1 (0 : Int32).toNatClampNeg) + 1)) fun s8 =>
  fX12_step_L12 nF nF 0 s8
set_option maxHeartbeats 4000000 in
set_option maxRecDepth 100000 in
theorem mX12_step (l : Launch) (D : va_G) (cA : Nat → ClassId) (ad a : Nat → Nat) (fr : va_W) (nF : Nat) (s0 : St) (r : Int32) (s' : St) (h : fX12_step nF s0 = some (r, s')) : gMet l yX12_step cX12_step 2 none 5 D (TYS cA) ST0 (wm cA ad a fr s0) [.ref (a 0)] (fun A => gQv D (TYS cA) A (wm cA ad a fr) s') := by
  refine g_ofW st0_ok (by decide) (Nat.le_of_ble_eq_true rfl) ?_
  intro p e s m args below meth c ls A G hP hD hl
  have G : GC p s m args meth c cX12_step 2 RX12 none A D (TYS cA) ST0 := G
  have hx := G.1
  have hb := G.2.1
  have hS : va_S A s.heap s.heap [] := va_S.rf
  have hl : lv_has ls 2 [(0, .ref (a 0))] := hl
  have hB12 : ∀ (K12 : Int32 → St → Option (Int32 × St)), (∀ (x1 : Int32) (s1 : St), K12 x1 s1 = some (r, s') → ∀ (H : Heap) (locs : List Loc) (ls : Array Slot), va_P D vwCl (wm cA ad a fr s1) H → va_D A (wm cA ad a fr s1) → va_S A s.heap H locs → lv_has ls 2 [(0, .ref (a 0)), (1, .int x1)] → W p l e (RM 5) s m args below meth c H locs 0 0 (MQ below (gQv D (TYS cA) A (wm cA ad a fr) s') args s 0 0 A) (F0 m 12 ls [])) → ∀ (x1 : Int32) (s1 : St), fX12_step_L12b nF K12 x1 s1 = some (r, s') → ∀ (H : Heap) (locs : List Loc) (ls : Array Slot), va_P D vwCl (wm cA ad a fr s1) H → va_D A (wm cA ad a fr s1) → va_S A s.heap H locs → lv_has ls 2 [(0, .ref (a 0)), (1, .int x1)] → W p l e (RM 5) s m args below meth c H locs 0 0 (MQ below (gQv D (TYS cA) A (wm cA ad a fr) s') args s 0 0 A) (F0 m 12 ls []) := by
    intro K12 hK12 x1 s1 h H locs ls hP hD hS hl
    unfold fX12_step_L12b at h
    refine lv_iload_n hx hb dX12_step_12 rfl (lv_at hl 1 rfl) ?_
    refine lv_iconst (v := 3) hx hb dX12_step_13 (by decide) ?_
    refine lv_icmp_ge (tgt := 28) hx hb dX12_step_14 (by decide) (fun c1 => ?_) (fun c1 => ?_)
    · replace h := it_t c1 h
      exact g_vret G hP hD hS h dX12_step_28
    · replace h := it_f c1 h
      refine lv_aload_n hx hb dX12_step_17 rfl (lv_at hl 0 rfl) ?_
      refine lv_iload_n hx hb dX12_step_18 rfl (lv_at hl 1 rfl) ?_
      obtain ⟨r2, s3, g4, h⟩ := ob_e h
      refine g_callVv (nA := 1) (mX12_acts l D cA ad a fr nF x1 s1 r2 s3 g4) G hP hD hS (g_good q8_98 q8_100 qs_40 q1_16 q8_101) (by decide +kernel) (by decide) (by decide) sh12_0 rfl rfl hl.1 [] rfl (Nat.le_of_ble_eq_true rfl) dX12_step_19 (fun H locs hP hD hS => ?_)
      obtain ⟨y5, ey5⟩ : ∃ y : Int32, y = x1 + 1 := ⟨_, rfl⟩
      replace h := let_e ey5 h
      refine lv_iinc (v := y5) (lv' := [(1, .int y5), (0, .ref (a 0))]) hx hb dX12_step_22 hl (k := 1) rfl (by rw [ey5]; rfl) (by decide) rfl (fun ls hl => ?_)
      refine lv_goto (tgt := 12) hx hb dX12_step_25 (by decide) ?_
      exact hK12 y5 s3 h H _ ls hP hD hS (lv_sub hl [1, 0] rfl)
  have hL12 : ∀ k : Nat, ∀ (x1 : Int32) (s1 : St), fX12_step_L12 nF k x1 s1 = some (r, s') → ∀ (H : Heap) (locs : List Loc) (ls : Array Slot), va_P D vwCl (wm cA ad a fr s1) H → va_D A (wm cA ad a fr s1) → va_S A s.heap H locs → lv_has ls 2 [(0, .ref (a 0)), (1, .int x1)] → W p l e (RM 5) s m args below meth c H locs 0 0 (MQ below (gQv D (TYS cA) A (wm cA ad a fr) s') args s 0 0 A) (F0 m 12 ls []) := by
    intro k
    induction k with
    | zero => intro x1 s1 h; cases h
    | succ k ih => exact hB12 (fX12_step_L12 nF k) ih
  unfold fX12_step at h
  refine lv_aload_n hx hb dX12_step_0 rfl (lv_at hl 0 rfl) ?_
  refine gf12_g G hP dX12_step_1 ?_
  refine lv_iconst (v := 0) hx hb dX12_step_4 (by decide) ?_
  refine lv_dup2_11 hx hb dX12_step_5 rfl rfl ?_
  obtain ⟨b6, h⟩ := bnd_e h
  refine al12_1 G hP b6 dX12_step_6 ?_
  refine lv_iconst (v := 1) hx hb dX12_step_7 (by decide) ?_
  refine lv_iadd hx hb dX12_step_8 ?_
  obtain ⟨b7, h⟩ := bnd_e h
  refine as12_1 G hP hD hS b7 dX12_step_9 (fun s8 es8 H locs hP hD hS => ?_)
  replace h := let_e es8 h
  refine lv_iconst (v := 0) hx hb dX12_step_10 (by decide) ?_
  refine lv_istore_n (lv' := [(1, .int 0), (0, .ref (a 0))]) hx hb dX12_step_11 rfl hl (by decide) rfl (fun ls hl => ?_)
  exact hL12 nF 0 s8 h _ _ ls hP hD hS (lv_sub hl [1, 0] rfl)
noncomputable def fX12_advances_L25b (nF : Nat) (K25 : Int32 → Int32 → Int32 → St → Option (Int32 × St)) (x1 : Int32) (x2 : Int32) (x3 : Int32) (s1 : St) : Option (Int32 × St) :=
  if x1 ≤ x3 then
    BND 3 156 <|
    OB (fX12_done ((s1 1 (3 : Int32).toNatClampNeg) - x2) s1) fun r3 s4 =>
    some (r3, s4)
  else
    OB (fX12_step nF s1) fun r6 s7 =>
    LET (x3 + 1) fun y9 =>
    K25 x1 x2 y9 s7
noncomputable def fX12_advances_L25 (nF : Nat) : Nat → Int32 → Int32 → Int32 → St → Option (Int32 × St) := fun k => Nat.rec (fun _ _ _ _ => none) (fun _ K => fX12_advances_L25b nF K) k
theorem fX12_advances_L25_s (nF : Nat) (k : Nat) : fX12_advances_L25 nF (k + 1) = fX12_advances_L25b nF (fX12_advances_L25 nF k) := rfl
noncomputable def fX12_advances (nF : Nat) (p1 : Int32) (s0 : St) : Option (Int32 × St) :=
  OB (fX12_in p1 1 40 s0) fun r10 s11 =>
  if r10 = 0 then
    OB (fX12_fails 1 s11) fun r16 s17 =>
    some (r16, s17)
  else
    BND 3 156 <|
    LET (s11 1 (3 : Int32).toNatClampNeg) fun y15 =>
    fX12_advances_L25 nF nF p1 y15 0 s11
set_option maxHeartbeats 4000000 in
set_option maxRecDepth 100000 in
theorem mX12_advances (l : Launch) (D : va_G) (cA : Nat → ClassId) (ad a : Nat → Nat) (fr : va_W) (nF : Nat) (p1 : Int32) (s0 : St) (r : Int32) (s' : St) (h : fX12_advances nF p1 s0 = some (r, s')) : gMet l yX12_advances cX12_advances 4 (some .int) 6 D (TYS cA) ST0 (wm cA ad a fr s0) [.ref (a 0), .int p1] (fun A => gQi D (TYS cA) A (wm cA ad a fr) r s') := by
  refine g_ofW st0_ok (by decide) (Nat.le_of_ble_eq_true rfl) ?_
  intro p e s m args below meth c ls A G hP hD hl
  have G : GC p s m args meth c cX12_advances 4 RX12 (some .int) A D (TYS cA) ST0 := G
  have hx := G.1
  have hb := G.2.1
  have hS : va_S A s.heap s.heap [] := va_S.rf
  have hl : lv_has ls 4 [(0, .ref (a 0)), (1, .int p1)] := hl
  have hB25 : ∀ (K25 : Int32 → Int32 → Int32 → St → Option (Int32 × St)), (∀ (x1 : Int32) (x2 : Int32) (x3 : Int32) (s1 : St), K25 x1 x2 x3 s1 = some (r, s') → ∀ (H : Heap) (locs : List Loc) (ls : Array Slot), va_P D vwCl (wm cA ad a fr s1) H → va_D A (wm cA ad a fr s1) → va_S A s.heap H locs → lv_has ls 4 [(0, .ref (a 0)), (1, .int x1), (2, .int x2), (3, .int x3)] → W p l e (RM 6) s m args below meth c H locs 0 0 (MQ below (gQi D (TYS cA) A (wm cA ad a fr) r s') args s 0 0 A) (F0 m 25 ls [])) → ∀ (x1 : Int32) (x2 : Int32) (x3 : Int32) (s1 : St), fX12_advances_L25b nF K25 x1 x2 x3 s1 = some (r, s') → ∀ (H : Heap) (locs : List Loc) (ls : Array Slot), va_P D vwCl (wm cA ad a fr s1) H → va_D A (wm cA ad a fr s1) → va_S A s.heap H locs → lv_has ls 4 [(0, .ref (a 0)), (1, .int x1), (2, .int x2), (3, .int x3)] → W p l e (RM 6) s m args below meth c H locs 0 0 (MQ below (gQi D (TYS cA) A (wm cA ad a fr) r s') args s 0 0 A) (F0 m 25 ls []) := by
    intro K25 hK25 x1 x2 x3 s1 h H locs ls hP hD hS hl
    unfold fX12_advances_L25b at h
    refine lv_iload_n hx hb dX12_advances_25 rfl (lv_at hl 3 rfl) ?_
    refine lv_iload_n hx hb dX12_advances_26 rfl (lv_at hl 1 rfl) ?_
    refine lv_icmp_ge (tgt := 40) hx hb dX12_advances_27 (by decide) (fun c1 => ?_) (fun c1 => ?_)
    · replace h := it_t c1 h
      refine lv_aload_n hx hb dX12_advances_40 rfl (lv_at hl 0 rfl) ?_
      refine lv_aload_n hx hb dX12_advances_41 rfl (lv_at hl 0 rfl) ?_
      refine gf12_g G hP dX12_advances_42 ?_
      refine lv_iconst (v := 3) hx hb dX12_advances_45 (by decide) ?_
      obtain ⟨b2, h⟩ := bnd_e h
      refine al12_1 G hP b2 dX12_advances_46 ?_
      refine lv_iload_n hx hb dX12_advances_47 rfl (lv_at hl 2 rfl) ?_
      refine lv_isub hx hb dX12_advances_48 ?_
      obtain ⟨r3, s4, g5, h⟩ := ob_e h
      refine g_callVi (nA := 1) (mX12_done l D cA ad a fr ((s1 1 (3 : Int32).toNatClampNeg) - x2) s1 r3 s4 g5) G hP hD hS (g_good q8_16 q8_18 qs_28 q1_16 q8_19) (by decide +kernel) (by decide) (by decide) sh12_0 rfl rfl hl.1 [] rfl (Nat.le_of_ble_eq_true rfl) dX12_advances_49 (fun H locs hP hD hS => ?_)
      exact g_ret G hP hD hS h rfl dX12_advances_52
    · replace h := it_f c1 h
      refine lv_aload_n hx hb dX12_advances_30 rfl (lv_at hl 0 rfl) ?_
      obtain ⟨r6, s7, g8, h⟩ := ob_e h
      refine g_callVv (nA := 0) (mX12_step l D cA ad a fr nF s1 r6 s7 g8) G hP hD hS (g_good q8_94 q8_96 qs_39 q1_16 q8_97) (by decide +kernel) (by decide) (by decide) sh12_0 rfl rfl hl.1 [] rfl (Nat.le_of_ble_eq_true rfl) dX12_advances_31 (fun H locs hP hD hS => ?_)
      obtain ⟨y9, ey9⟩ : ∃ y : Int32, y = x3 + 1 := ⟨_, rfl⟩
      replace h := let_e ey9 h
      refine lv_iinc (v := y9) (lv' := [(3, .int y9), (0, .ref (a 0)), (1, .int x1), (2, .int x2)]) hx hb dX12_advances_34 hl (k := 3) rfl (by rw [ey9]; rfl) (by decide) rfl (fun ls hl => ?_)
      refine lv_goto (tgt := 25) hx hb dX12_advances_37 (by decide) ?_
      exact hK25 x1 x2 y9 s7 h H _ ls hP hD hS (lv_sub hl [1, 2, 3, 0] rfl)
  have hL25 : ∀ k : Nat, ∀ (x1 : Int32) (x2 : Int32) (x3 : Int32) (s1 : St), fX12_advances_L25 nF k x1 x2 x3 s1 = some (r, s') → ∀ (H : Heap) (locs : List Loc) (ls : Array Slot), va_P D vwCl (wm cA ad a fr s1) H → va_D A (wm cA ad a fr s1) → va_S A s.heap H locs → lv_has ls 4 [(0, .ref (a 0)), (1, .int x1), (2, .int x2), (3, .int x3)] → W p l e (RM 6) s m args below meth c H locs 0 0 (MQ below (gQi D (TYS cA) A (wm cA ad a fr) r s') args s 0 0 A) (F0 m 25 ls []) := by
    intro k
    induction k with
    | zero => intro x1 x2 x3 s1 h; cases h
    | succ k ih => exact hB25 (fX12_advances_L25 nF k) ih
  unfold fX12_advances at h
  refine lv_iload_n hx hb dX12_advances_0 rfl (lv_at hl 1 rfl) ?_
  refine lv_iconst (v := 1) hx hb dX12_advances_1 (by decide) ?_
  refine lv_bipush (v := 40) hx hb dX12_advances_2 (by decide) ?_
  obtain ⟨r10, s11, g12, h⟩ := ob_e h
  refine g_callSi (nA := 3) (mX12_in l D cA ad a fr p1 1 40 s0 r10 s11 g12) G hP hD hS (g_goodS q7_237 q7_238 q1_16 q7_239) (by decide +kernel) (by decide) rfl hl.1 [] rfl (Nat.le_of_ble_eq_true rfl) dX12_advances_4 (fun H locs hP hD hS => ?_)
  refine lv_if_ne (tgt := 16) hx hb dX12_advances_7 (by decide) (fun c13 => ?_) (fun c13 => ?_)
  · replace h := it_f c13 h
    refine lv_aload_n hx hb dX12_advances_16 rfl (lv_at hl 0 rfl) ?_
    refine gf12_g G hP dX12_advances_17 ?_
    refine lv_iconst (v := 3) hx hb dX12_advances_20 (by decide) ?_
    obtain ⟨b14, h⟩ := bnd_e h
    refine al12_1 G hP b14 dX12_advances_21 ?_
    refine lv_topi (fun y15 ey15 => ?_)
    replace h := let_e ey15 h
    refine lv_istore_n (lv' := [(2, .int y15), (0, .ref (a 0)), (1, .int p1)]) hx hb dX12_advances_22 rfl hl (by decide) rfl (fun ls hl => ?_)
    refine lv_iconst (v := 0) hx hb dX12_advances_23 (by decide) ?_
    refine lv_istore_n (lv' := [(3, .int 0), (2, .int y15), (0, .ref (a 0)), (1, .int p1)]) hx hb dX12_advances_24 rfl hl (by decide) rfl (fun ls hl => ?_)
    exact hL25 nF p1 y15 0 s11 h _ _ ls hP hD hS (lv_sub hl [2, 3, 1, 0] rfl)
  · replace h := it_t c13 h
    refine lv_aload_n hx hb dX12_advances_10 rfl (lv_at hl 0 rfl) ?_
    refine lv_iconst (v := 1) hx hb dX12_advances_11 (by decide) ?_
    obtain ⟨r16, s17, g18, h⟩ := ob_e h
    refine g_callVi (nA := 1) (mX12_fails l D cA ad a fr 1 s11 r16 s17 g18) G hP hD hS (g_good q8_0 q8_2 qs_24 q1_16 q8_3) (by decide +kernel) (by decide) (by decide) sh12_0 rfl rfl hl.1 [] rfl (Nat.le_of_ble_eq_true rfl) dX12_advances_12 (fun H locs hP hD hS => ?_)
    exact g_ret G hP hD hS h rfl dX12_advances_15
noncomputable def fX12_advance (nF : Nat) (p1 : Int32) (s0 : St) : Option (Int32 × St) :=
  OB (fX12_begin nF s0) fun r1 s2 =>
  OB (fX12_advances nF p1 s2) fun r4 s5 =>
  OB (fX12_kept nF r4 s5) fun r7 s8 =>
  some (r7, s8)
set_option maxHeartbeats 4000000 in
set_option maxRecDepth 100000 in
theorem mX12_advance (l : Launch) (D : va_G) (cA : Nat → ClassId) (ad a : Nat → Nat) (fr : va_W) (nF : Nat) (p1 : Int32) (s0 : St) (r : Int32) (s' : St) (h : fX12_advance nF p1 s0 = some (r, s')) : gMet l yX12_advance cX12_advance 2 (some .int) 7 D (TYS cA) ST0 (wm cA ad a fr s0) [.ref (a 0), .int p1] (fun A => gQi D (TYS cA) A (wm cA ad a fr) r s') := by
  refine g_ofW st0_ok (by decide) (Nat.le_of_ble_eq_true rfl) ?_
  intro p e s m args below meth c ls A G hP hD hl
  have G : GC p s m args meth c cX12_advance 2 RX12 (some .int) A D (TYS cA) ST0 := G
  have hx := G.1
  have hb := G.2.1
  have hS : va_S A s.heap s.heap [] := va_S.rf
  have hl : lv_has ls 2 [(0, .ref (a 0)), (1, .int p1)] := hl
  unfold fX12_advance at h
  refine lv_aload_n hx hb dX12_advance_0 rfl (lv_at hl 0 rfl) ?_
  obtain ⟨r1, s2, g3, h⟩ := ob_e h
  refine g_callVv (nA := 0) (mX12_begin l D cA ad a fr nF s0 r1 s2 g3) G hP hD hS (g_good q7_223 q7_225 qs_22 q1_16 q7_226) (by decide +kernel) (by decide) (by decide) sh12_0 rfl rfl hl.1 [] rfl (Nat.le_of_ble_eq_true rfl) dX12_advance_1 (fun H locs hP hD hS => ?_)
  refine lv_aload_n hx hb dX12_advance_4 rfl (lv_at hl 0 rfl) ?_
  refine lv_aload_n hx hb dX12_advance_5 rfl (lv_at hl 0 rfl) ?_
  refine lv_iload_n hx hb dX12_advance_6 rfl (lv_at hl 1 rfl) ?_
  obtain ⟨r4, s5, g6, h⟩ := ob_e h
  refine g_callVi (nA := 1) (mX12_advances l D cA ad a fr nF p1 s2 r4 s5 g6) G hP hD hS (g_good q8_90 q8_92 qs_38 q1_16 q8_93) (by decide +kernel) (by decide) (by decide) sh12_0 rfl rfl hl.1 [.ref (a 0)] rfl (Nat.le_of_ble_eq_true rfl) dX12_advance_7 (fun H locs hP hD hS => ?_)
  obtain ⟨r7, s8, g9, h⟩ := ob_e h
  refine g_callVi (nA := 1) (mX12_kept l D cA ad a fr nF r4 s5 r7 s8 g9) G hP hD hS (g_good q8_20 q8_22 qs_29 q1_16 q8_23) (by decide +kernel) (by decide) (by decide) sh12_0 rfl rfl hl.1 [] rfl (Nat.le_of_ble_eq_true rfl) dX12_advance_10 (fun H locs hP hD hS => ?_)
  exact g_ret G hP hD hS h rfl dX12_advance_13
def fX12_time (s0 : St) : Option (Int32 × St) :=
  BND 0 156 <|
  OB (fX12_done (s0 1 (0 : Int32).toNatClampNeg) s0) fun r2 s3 =>
  some (r2, s3)
set_option maxHeartbeats 4000000 in
set_option maxRecDepth 100000 in
theorem mX12_time (l : Launch) (D : va_G) (cA : Nat → ClassId) (ad a : Nat → Nat) (fr : va_W) (s0 : St) (r : Int32) (s' : St) (h : fX12_time s0 = some (r, s')) : gMet l yX12_time cX12_time 1 (some .int) 1 D (TYS cA) ST0 (wm cA ad a fr s0) [.ref (a 0)] (fun A => gQi D (TYS cA) A (wm cA ad a fr) r s') := by
  refine g_ofW st0_ok (by decide) (Nat.le_of_ble_eq_true rfl) ?_
  intro p e s m args below meth c ls A G hP hD hl
  have G : GC p s m args meth c cX12_time 1 RX12 (some .int) A D (TYS cA) ST0 := G
  have hx := G.1
  have hb := G.2.1
  have hS : va_S A s.heap s.heap [] := va_S.rf
  have hl : lv_has ls 1 [(0, .ref (a 0))] := hl
  unfold fX12_time at h
  refine lv_aload_n hx hb dX12_time_0 rfl (lv_at hl 0 rfl) ?_
  refine lv_aload_n hx hb dX12_time_1 rfl (lv_at hl 0 rfl) ?_
  refine gf12_g G hP dX12_time_2 ?_
  refine lv_iconst (v := 0) hx hb dX12_time_5 (by decide) ?_
  obtain ⟨b1, h⟩ := bnd_e h
  refine al12_1 G hP b1 dX12_time_6 ?_
  obtain ⟨r2, s3, g4, h⟩ := ob_e h
  refine g_callVi (nA := 1) (mX12_done l D cA ad a fr (s0 1 (0 : Int32).toNatClampNeg) s0 r2 s3 g4) G hP hD hS (g_good q8_16 q8_18 qs_28 q1_16 q8_19) (by decide +kernel) (by decide) (by decide) sh12_0 rfl rfl hl.1 [] rfl (Nat.le_of_ble_eq_true rfl) dX12_time_7 (fun H locs hP hD hS => ?_)
  exact g_ret G hP hD hS h rfl dX12_time_10
noncomputable def fX12_waitingCount (nF : Nat) (s0 : St) : Option (Int32 × St) :=
  OB (fX12_waiting nF s0) fun r1 s2 =>
  OB (fX12_done r1 s2) fun r4 s5 =>
  some (r4, s5)
set_option maxHeartbeats 4000000 in
set_option maxRecDepth 100000 in
theorem mX12_waitingCount (l : Launch) (D : va_G) (cA : Nat → ClassId) (ad a : Nat → Nat) (fr : va_W) (nF : Nat) (s0 : St) (r : Int32) (s' : St) (h : fX12_waitingCount nF s0 = some (r, s')) : gMet l yX12_waitingCount cX12_waitingCount 1 (some .int) 3 D (TYS cA) ST0 (wm cA ad a fr s0) [.ref (a 0)] (fun A => gQi D (TYS cA) A (wm cA ad a fr) r s') := by
  refine g_ofW st0_ok (by decide) (Nat.le_of_ble_eq_true rfl) ?_
  intro p e s m args below meth c ls A G hP hD hl
  have G : GC p s m args meth c cX12_waitingCount 1 RX12 (some .int) A D (TYS cA) ST0 := G
  have hx := G.1
  have hb := G.2.1
  have hS : va_S A s.heap s.heap [] := va_S.rf
  have hl : lv_has ls 1 [(0, .ref (a 0))] := hl
  unfold fX12_waitingCount at h
  refine lv_aload_n hx hb dX12_waitingCount_0 rfl (lv_at hl 0 rfl) ?_
  refine lv_aload_n hx hb dX12_waitingCount_1 rfl (lv_at hl 0 rfl) ?_
  obtain ⟨r1, s2, g3, h⟩ := ob_e h
  refine g_callVi (nA := 0) (mX12_waiting l D cA ad a fr nF s0 r1 s2 g3) G hP hD hS (g_good q8_4 q8_6 qs_25 q1_16 q8_7) (by decide +kernel) (by decide) (by decide) sh12_0 rfl rfl hl.1 [.ref (a 0)] rfl (Nat.le_of_ble_eq_true rfl) dX12_waitingCount_2 (fun H locs hP hD hS => ?_)
  obtain ⟨r4, s5, g6, h⟩ := ob_e h
  refine g_callVi (nA := 1) (mX12_done l D cA ad a fr r1 s2 r4 s5 g6) G hP hD hS (g_good q8_16 q8_18 qs_28 q1_16 q8_19) (by decide +kernel) (by decide) (by decide) sh12_0 rfl rfl hl.1 [] rfl (Nat.le_of_ble_eq_true rfl) dX12_waitingCount_5 (fun H locs hP hD hS => ?_)
  exact g_ret G hP hD hS h rfl dX12_waitingCount_8
noncomputable def fX12_waitingAt (nF : Nat) (p1 : Int32) (s0 : St) : Option (Int32 × St) :=
  OB (fX12_ranked nF p1 s0) fun r1 s2 =>
  if r1 = ((-1)) then
    OB (fX12_fails 1 s2) fun r9 s10 =>
    some (r9, s10)
  else
    BND (72 + r1) 156 <|
    OB (fX12_done (s2 1 (72 + r1).toNatClampNeg) s2) fun r6 s7 =>
    some (r6, s7)
set_option maxHeartbeats 4000000 in
set_option maxRecDepth 100000 in
theorem mX12_waitingAt (l : Launch) (D : va_G) (cA : Nat → ClassId) (ad a : Nat → Nat) (fr : va_W) (nF : Nat) (p1 : Int32) (s0 : St) (r : Int32) (s' : St) (h : fX12_waitingAt nF p1 s0 = some (r, s')) : gMet l yX12_waitingAt cX12_waitingAt 3 (some .int) 4 D (TYS cA) ST0 (wm cA ad a fr s0) [.ref (a 0), .int p1] (fun A => gQi D (TYS cA) A (wm cA ad a fr) r s') := by
  refine g_ofW st0_ok (by decide) (Nat.le_of_ble_eq_true rfl) ?_
  intro p e s m args below meth c ls A G hP hD hl
  have G : GC p s m args meth c cX12_waitingAt 3 RX12 (some .int) A D (TYS cA) ST0 := G
  have hx := G.1
  have hb := G.2.1
  have hS : va_S A s.heap s.heap [] := va_S.rf
  have hl : lv_has ls 3 [(0, .ref (a 0)), (1, .int p1)] := hl
  unfold fX12_waitingAt at h
  refine lv_aload_n hx hb dX12_waitingAt_0 rfl (lv_at hl 0 rfl) ?_
  refine lv_iload_n hx hb dX12_waitingAt_1 rfl (lv_at hl 1 rfl) ?_
  obtain ⟨r1, s2, g3, h⟩ := ob_e h
  refine g_callVi (nA := 1) (mX12_ranked l D cA ad a fr nF p1 s0 r1 s2 g3) G hP hD hS (g_good q8_102 q8_104 qs_41 q1_16 q8_105) (by decide +kernel) (by decide) (by decide) sh12_0 rfl rfl hl.1 [] rfl (Nat.le_of_ble_eq_true rfl) dX12_waitingAt_2 (fun H locs hP hD hS => ?_)
  refine lv_istore_n (lv' := [(2, .int r1), (0, .ref (a 0)), (1, .int p1)]) hx hb dX12_waitingAt_5 rfl hl (by decide) rfl (fun ls hl => ?_)
  refine lv_iload_n hx hb dX12_waitingAt_6 rfl (lv_at hl 0 rfl) ?_
  refine lv_iconst (v := (-1)) hx hb dX12_waitingAt_7 (by decide) ?_
  refine lv_icmp_ne (tgt := 19) hx hb dX12_waitingAt_8 (by decide) (fun c4 => ?_) (fun c4 => ?_)
  · replace h := it_f c4 h
    refine lv_aload_n hx hb dX12_waitingAt_19 rfl (lv_at hl 1 rfl) ?_
    refine lv_aload_n hx hb dX12_waitingAt_20 rfl (lv_at hl 1 rfl) ?_
    refine gf12_g G hP dX12_waitingAt_21 ?_
    refine lv_bipush (v := 72) hx hb dX12_waitingAt_24 (by decide) ?_
    refine lv_iload_n hx hb dX12_waitingAt_26 rfl (lv_at hl 0 rfl) ?_
    refine lv_iadd hx hb dX12_waitingAt_27 ?_
    obtain ⟨b5, h⟩ := bnd_e h
    refine al12_1 G hP b5 dX12_waitingAt_28 ?_
    obtain ⟨r6, s7, g8, h⟩ := ob_e h
    refine g_callVi (nA := 1) (mX12_done l D cA ad a fr (s2 1 (72 + r1).toNatClampNeg) s2 r6 s7 g8) G hP hD hS (g_good q8_16 q8_18 qs_28 q1_16 q8_19) (by decide +kernel) (by decide) (by decide) sh12_0 rfl rfl hl.1 [] rfl (Nat.le_of_ble_eq_true rfl) dX12_waitingAt_29 (fun H locs hP hD hS => ?_)
    exact g_ret G hP hD hS h rfl dX12_waitingAt_32
  · replace h := it_t c4 h
    refine lv_aload_n hx hb dX12_waitingAt_11 rfl (lv_at hl 1 rfl) ?_
    refine lv_iconst (v := 1) hx hb dX12_waitingAt_12 (by decide) ?_
    obtain ⟨r9, s10, g11, h⟩ := ob_e h
    refine g_callVi (nA := 1) (mX12_fails l D cA ad a fr 1 s2 r9 s10 g11) G hP hD hS (g_good q8_0 q8_2 qs_24 q1_16 q8_3) (by decide +kernel) (by decide) (by decide) sh12_0 rfl rfl hl.1 [] rfl (Nat.le_of_ble_eq_true rfl) dX12_waitingAt_13 (fun H locs hP hD hS => ?_)
    refine lv_goto (tgt := 32) hx hb dX12_waitingAt_16 (by decide) ?_
    exact g_ret G hP hD hS h rfl dX12_waitingAt_32
noncomputable def fX12_rankOf (nF : Nat) (p1 : Int32) (s0 : St) : Option (Int32 × St) :=
  OB (fX12_placeOf nF p1 s0) fun r1 s2 =>
  if r1 = ((-1)) then
    OB (fX12_fails 1 s2) fun r18 s19 =>
    some (r18, s19)
  else
    OB (fX12_waits nF r1 s2) fun r5 s6 =>
    if r5 = 0 then
      OB (fX12_fails 2 s6) fun r9 s10 =>
      some (r9, s10)
    else
      OB (fX12_rank nF r1 s6) fun r12 s13 =>
      OB (fX12_done r12 s13) fun r15 s16 =>
      some (r15, s16)
set_option maxHeartbeats 4000000 in
set_option maxRecDepth 100000 in
theorem mX12_rankOf (l : Launch) (D : va_G) (cA : Nat → ClassId) (ad a : Nat → Nat) (fr : va_W) (nF : Nat) (p1 : Int32) (s0 : St) (r : Int32) (s' : St) (h : fX12_rankOf nF p1 s0 = some (r, s')) : gMet l yX12_rankOf cX12_rankOf 3 (some .int) 3 D (TYS cA) ST0 (wm cA ad a fr s0) [.ref (a 0), .int p1] (fun A => gQi D (TYS cA) A (wm cA ad a fr) r s') := by
  refine g_ofW st0_ok (by decide) (Nat.le_of_ble_eq_true rfl) ?_
  intro p e s m args below meth c ls A G hP hD hl
  have G : GC p s m args meth c cX12_rankOf 3 RX12 (some .int) A D (TYS cA) ST0 := G
  have hx := G.1
  have hb := G.2.1
  have hS : va_S A s.heap s.heap [] := va_S.rf
  have hl : lv_has ls 3 [(0, .ref (a 0)), (1, .int p1)] := hl
  unfold fX12_rankOf at h
  refine lv_aload_n hx hb dX12_rankOf_0 rfl (lv_at hl 0 rfl) ?_
  refine lv_iload_n hx hb dX12_rankOf_1 rfl (lv_at hl 1 rfl) ?_
  obtain ⟨r1, s2, g3, h⟩ := ob_e h
  refine g_callVi (nA := 1) (mX12_placeOf l D cA ad a fr nF p1 s0 r1 s2 g3) G hP hD hS (g_good q8_32 q8_34 qs_31 q1_16 q8_35) (by decide +kernel) (by decide) (by decide) sh12_0 rfl rfl hl.1 [] rfl (Nat.le_of_ble_eq_true rfl) dX12_rankOf_2 (fun H locs hP hD hS => ?_)
  refine lv_istore_n (lv' := [(2, .int r1), (0, .ref (a 0)), (1, .int p1)]) hx hb dX12_rankOf_5 rfl hl (by decide) rfl (fun ls hl => ?_)
  refine lv_iload_n hx hb dX12_rankOf_6 rfl (lv_at hl 0 rfl) ?_
  refine lv_iconst (v := (-1)) hx hb dX12_rankOf_7 (by decide) ?_
  refine lv_icmp_ne (tgt := 17) hx hb dX12_rankOf_8 (by decide) (fun c4 => ?_) (fun c4 => ?_)
  · replace h := it_f c4 h
    refine lv_aload_n hx hb dX12_rankOf_17 rfl (lv_at hl 1 rfl) ?_
    refine lv_iload_n hx hb dX12_rankOf_18 rfl (lv_at hl 0 rfl) ?_
    obtain ⟨r5, s6, g7, h⟩ := ob_e h
    refine g_callVi (nA := 1) (mX12_waits l D cA ad a fr nF r1 s2 r5 s6 g7) G hP hD hS (g_good q8_8 q8_10 qs_26 q1_16 q8_11) (by decide +kernel) (by decide) (by decide) sh12_0 rfl rfl hl.1 [] rfl (Nat.le_of_ble_eq_true rfl) dX12_rankOf_19 (fun H locs hP hD hS => ?_)
    refine lv_if_eq (tgt := 37) hx hb dX12_rankOf_22 (by decide) (fun c8 => ?_) (fun c8 => ?_)
    · replace h := it_t c8 h
      refine lv_aload_n hx hb dX12_rankOf_37 rfl (lv_at hl 1 rfl) ?_
      refine lv_iconst (v := 2) hx hb dX12_rankOf_38 (by decide) ?_
      obtain ⟨r9, s10, g11, h⟩ := ob_e h
      refine g_callVi (nA := 1) (mX12_fails l D cA ad a fr 2 s6 r9 s10 g11) G hP hD hS (g_good q8_0 q8_2 qs_24 q1_16 q8_3) (by decide +kernel) (by decide) (by decide) sh12_0 rfl rfl hl.1 [] rfl (Nat.le_of_ble_eq_true rfl) dX12_rankOf_39 (fun H locs hP hD hS => ?_)
      exact g_ret G hP hD hS h rfl dX12_rankOf_42
    · replace h := it_f c8 h
      refine lv_aload_n hx hb dX12_rankOf_25 rfl (lv_at hl 1 rfl) ?_
      refine lv_aload_n hx hb dX12_rankOf_26 rfl (lv_at hl 1 rfl) ?_
      refine lv_iload_n hx hb dX12_rankOf_27 rfl (lv_at hl 0 rfl) ?_
      obtain ⟨r12, s13, g14, h⟩ := ob_e h
      refine g_callVi (nA := 1) (mX12_rank l D cA ad a fr nF r1 s6 r12 s13 g14) G hP hD hS (g_good q8_106 q8_108 qs_42 q1_16 q8_109) (by decide +kernel) (by decide) (by decide) sh12_0 rfl rfl hl.1 [.ref (a 0)] rfl (Nat.le_of_ble_eq_true rfl) dX12_rankOf_28 (fun H locs hP hD hS => ?_)
      obtain ⟨r15, s16, g17, h⟩ := ob_e h
      refine g_callVi (nA := 1) (mX12_done l D cA ad a fr r12 s13 r15 s16 g17) G hP hD hS (g_good q8_16 q8_18 qs_28 q1_16 q8_19) (by decide +kernel) (by decide) (by decide) sh12_0 rfl rfl hl.1 [] rfl (Nat.le_of_ble_eq_true rfl) dX12_rankOf_31 (fun H locs hP hD hS => ?_)
      refine lv_goto (tgt := 42) hx hb dX12_rankOf_34 (by decide) ?_
      exact g_ret G hP hD hS h rfl dX12_rankOf_42
  · replace h := it_t c4 h
    refine lv_aload_n hx hb dX12_rankOf_11 rfl (lv_at hl 1 rfl) ?_
    refine lv_iconst (v := 1) hx hb dX12_rankOf_12 (by decide) ?_
    obtain ⟨r18, s19, g20, h⟩ := ob_e h
    refine g_callVi (nA := 1) (mX12_fails l D cA ad a fr 1 s2 r18 s19 g20) G hP hD hS (g_good q8_0 q8_2 qs_24 q1_16 q8_3) (by decide +kernel) (by decide) (by decide) sh12_0 rfl rfl hl.1 [] rfl (Nat.le_of_ble_eq_true rfl) dX12_rankOf_13 (fun H locs hP hD hS => ?_)
    exact g_ret G hP hD hS h rfl dX12_rankOf_16
noncomputable def fX12_exists (nF : Nat) (p1 : Int32) (s0 : St) : Option (Int32 × St) :=
  LET (u2 s0 0 13 0) fun s1 =>
  OB (fX12_placeOf nF p1 s1) fun r2 s3 =>
  if r2 = ((-1)) then
    some (0, s3)
  else
    some (1, s3)
set_option maxHeartbeats 4000000 in
set_option maxRecDepth 100000 in
theorem mX12_exists (l : Launch) (D : va_G) (cA : Nat → ClassId) (ad a : Nat → Nat) (fr : va_W) (nF : Nat) (p1 : Int32) (s0 : St) (r : Int32) (s' : St) (h : fX12_exists nF p1 s0 = some (r, s')) : gMet l yX12_exists cX12_exists 2 (some .boolean) 1 D (TYS cA) ST0 (wm cA ad a fr s0) [.ref (a 0), .int p1] (fun A => gQi D (TYS cA) A (wm cA ad a fr) r s') := by
  refine g_ofW st0_ok (by decide) (Nat.le_of_ble_eq_true rfl) ?_
  intro p e s m args below meth c ls A G hP hD hl
  have G : GC p s m args meth c cX12_exists 2 RX12 (some .boolean) A D (TYS cA) ST0 := G
  have hx := G.1
  have hb := G.2.1
  have hS : va_S A s.heap s.heap [] := va_S.rf
  have hl : lv_has ls 2 [(0, .ref (a 0)), (1, .int p1)] := hl
  unfold fX12_exists at h
  refine lv_aload_n hx hb dX12_exists_0 rfl (lv_at hl 0 rfl) ?_
  refine lv_iconst (v := 0) hx hb dX12_exists_1 (by decide) ?_
  refine pf12_thrown G hP hD hS dX12_exists_2 (fun s1 es1 H locs hP hD hS => ?_)
  replace h := let_e es1 h
  refine lv_aload_n hx hb dX12_exists_5 rfl (lv_at hl 0 rfl) ?_
  refine lv_iload_n hx hb dX12_exists_6 rfl (lv_at hl 1 rfl) ?_
  obtain ⟨r2, s3, g4, h⟩ := ob_e h
  refine g_callVi (nA := 1) (mX12_placeOf l D cA ad a fr nF p1 s1 r2 s3 g4) G hP hD hS (g_good q8_32 q8_34 qs_31 q1_16 q8_35) (by decide +kernel) (by decide) (by decide) sh12_0 rfl rfl hl.1 [] rfl (Nat.le_of_ble_eq_true rfl) dX12_exists_7 (fun H locs hP hD hS => ?_)
  refine lv_iconst (v := (-1)) hx hb dX12_exists_10 (by decide) ?_
  refine lv_icmp_eq (tgt := 18) hx hb dX12_exists_11 (by decide) (fun c5 => ?_) (fun c5 => ?_)
  · replace h := it_t c5 h
    refine lv_iconst (v := 0) hx hb dX12_exists_18 (by decide) ?_
    exact g_ret G hP hD hS h rfl dX12_exists_19
  · replace h := it_f c5 h
    refine lv_iconst (v := 1) hx hb dX12_exists_14 (by decide) ?_
    refine lv_goto (tgt := 19) hx hb dX12_exists_15 (by decide) ?_
    exact g_ret G hP hD hS h rfl dX12_exists_19
noncomputable def fX12_noiseNumber (nF : Nat) (p1 : Int32) (p2 : Int32) (s0 : St) : Option (Int32 × St) :=
  OB (fX12_placeOf nF p2 s0) fun r1 s2 =>
  if r1 = ((-1)) then
    OB (fX12_fails 1 s2) fun r9 s10 =>
    some (r9, s10)
  else
    BND (p1 + r1) 156 <|
    OB (fX12_done (s2 1 (p1 + r1).toNatClampNeg) s2) fun r6 s7 =>
    some (r6, s7)
set_option maxHeartbeats 4000000 in
set_option maxRecDepth 100000 in
theorem mX12_noiseNumber (l : Launch) (D : va_G) (cA : Nat → ClassId) (ad a : Nat → Nat) (fr : va_W) (nF : Nat) (p1 : Int32) (p2 : Int32) (s0 : St) (r : Int32) (s' : St) (h : fX12_noiseNumber nF p1 p2 s0 = some (r, s')) : gMet l yX12_noiseNumber cX12_noiseNumber 4 (some .int) 1 D (TYS cA) ST0 (wm cA ad a fr s0) [.ref (a 0), .int p1, .int p2] (fun A => gQi D (TYS cA) A (wm cA ad a fr) r s') := by
  refine g_ofW st0_ok (by decide) (Nat.le_of_ble_eq_true rfl) ?_
  intro p e s m args below meth c ls A G hP hD hl
  have G : GC p s m args meth c cX12_noiseNumber 4 RX12 (some .int) A D (TYS cA) ST0 := G
  have hx := G.1
  have hb := G.2.1
  have hS : va_S A s.heap s.heap [] := va_S.rf
  have hl : lv_has ls 4 [(0, .ref (a 0)), (1, .int p1), (2, .int p2)] := hl
  unfold fX12_noiseNumber at h
  refine lv_aload_n hx hb dX12_noiseNumber_0 rfl (lv_at hl 0 rfl) ?_
  refine lv_iload_n hx hb dX12_noiseNumber_1 rfl (lv_at hl 2 rfl) ?_
  obtain ⟨r1, s2, g3, h⟩ := ob_e h
  refine g_callVi (nA := 1) (mX12_placeOf l D cA ad a fr nF p2 s0 r1 s2 g3) G hP hD hS (g_good q8_32 q8_34 qs_31 q1_16 q8_35) (by decide +kernel) (by decide) (by decide) sh12_0 rfl rfl hl.1 [] rfl (Nat.le_of_ble_eq_true rfl) dX12_noiseNumber_2 (fun H locs hP hD hS => ?_)
  refine lv_istore_n (lv' := [(3, .int r1), (0, .ref (a 0)), (1, .int p1), (2, .int p2)]) hx hb dX12_noiseNumber_5 rfl hl (by decide) rfl (fun ls hl => ?_)
  refine lv_iload_n hx hb dX12_noiseNumber_6 rfl (lv_at hl 0 rfl) ?_
  refine lv_iconst (v := (-1)) hx hb dX12_noiseNumber_7 (by decide) ?_
  refine lv_icmp_ne (tgt := 19) hx hb dX12_noiseNumber_8 (by decide) (fun c4 => ?_) (fun c4 => ?_)
  · replace h := it_f c4 h
    refine lv_aload_n hx hb dX12_noiseNumber_19 rfl (lv_at hl 1 rfl) ?_
    refine lv_aload_n hx hb dX12_noiseNumber_20 rfl (lv_at hl 1 rfl) ?_
    refine gf12_g G hP dX12_noiseNumber_21 ?_
    refine lv_iload_n hx hb dX12_noiseNumber_24 rfl (lv_at hl 2 rfl) ?_
    refine lv_iload_n hx hb dX12_noiseNumber_25 rfl (lv_at hl 0 rfl) ?_
    refine lv_iadd hx hb dX12_noiseNumber_26 ?_
    obtain ⟨b5, h⟩ := bnd_e h
    refine al12_1 G hP b5 dX12_noiseNumber_27 ?_
    obtain ⟨r6, s7, g8, h⟩ := ob_e h
    refine g_callVi (nA := 1) (mX12_done l D cA ad a fr (s2 1 (p1 + r1).toNatClampNeg) s2 r6 s7 g8) G hP hD hS (g_good q8_16 q8_18 qs_28 q1_16 q8_19) (by decide +kernel) (by decide) (by decide) sh12_0 rfl rfl hl.1 [] rfl (Nat.le_of_ble_eq_true rfl) dX12_noiseNumber_28 (fun H locs hP hD hS => ?_)
    exact g_ret G hP hD hS h rfl dX12_noiseNumber_31
  · replace h := it_t c4 h
    refine lv_aload_n hx hb dX12_noiseNumber_11 rfl (lv_at hl 1 rfl) ?_
    refine lv_iconst (v := 1) hx hb dX12_noiseNumber_12 (by decide) ?_
    obtain ⟨r9, s10, g11, h⟩ := ob_e h
    refine g_callVi (nA := 1) (mX12_fails l D cA ad a fr 1 s2 r9 s10 g11) G hP hD hS (g_good q8_0 q8_2 qs_24 q1_16 q8_3) (by decide +kernel) (by decide) (by decide) sh12_0 rfl rfl hl.1 [] rfl (Nat.le_of_ble_eq_true rfl) dX12_noiseNumber_13 (fun H locs hP hD hS => ?_)
    refine lv_goto (tgt := 31) hx hb dX12_noiseNumber_16 (by decide) ?_
    exact g_ret G hP hD hS h rfl dX12_noiseNumber_31
noncomputable def fX12_band (nF : Nat) (p1 : Int32) (s0 : St) : Option (Int32 × St) :=
  OB (fX12_noiseNumber nF 87 p1 s0) fun r1 s2 =>
  some (r1, s2)
set_option maxHeartbeats 4000000 in
set_option maxRecDepth 100000 in
theorem mX12_band (l : Launch) (D : va_G) (cA : Nat → ClassId) (ad a : Nat → Nat) (fr : va_W) (nF : Nat) (p1 : Int32) (s0 : St) (r : Int32) (s' : St) (h : fX12_band nF p1 s0 = some (r, s')) : gMet l yX12_band cX12_band 2 (some .int) 2 D (TYS cA) ST0 (wm cA ad a fr s0) [.ref (a 0), .int p1] (fun A => gQi D (TYS cA) A (wm cA ad a fr) r s') := by
  refine g_ofW st0_ok (by decide) (Nat.le_of_ble_eq_true rfl) ?_
  intro p e s m args below meth c ls A G hP hD hl
  have G : GC p s m args meth c cX12_band 2 RX12 (some .int) A D (TYS cA) ST0 := G
  have hx := G.1
  have hb := G.2.1
  have hS : va_S A s.heap s.heap [] := va_S.rf
  have hl : lv_has ls 2 [(0, .ref (a 0)), (1, .int p1)] := hl
  unfold fX12_band at h
  refine lv_aload_n hx hb dX12_band_0 rfl (lv_at hl 0 rfl) ?_
  refine lv_bipush (v := 87) hx hb dX12_band_1 (by decide) ?_
  refine lv_iload_n hx hb dX12_band_3 rfl (lv_at hl 1 rfl) ?_
  obtain ⟨r1, s2, g3, h⟩ := ob_e h
  refine g_callVi (nA := 2) (mX12_noiseNumber l D cA ad a fr nF 87 p1 s0 r1 s2 g3) G hP hD hS (g_good q8_150 q8_152 qs_47 q1_16 q8_153) (by decide +kernel) (by decide) (by decide) sh12_0 rfl rfl hl.1 [] rfl (Nat.le_of_ble_eq_true rfl) dX12_band_4 (fun H locs hP hD hS => ?_)
  exact g_ret G hP hD hS h rfl dX12_band_7
noncomputable def fX12_loudness (nF : Nat) (p1 : Int32) (s0 : St) : Option (Int32 × St) :=
  OB (fX12_noiseNumber nF 102 p1 s0) fun r1 s2 =>
  some (r1, s2)
set_option maxHeartbeats 4000000 in
set_option maxRecDepth 100000 in
theorem mX12_loudness (l : Launch) (D : va_G) (cA : Nat → ClassId) (ad a : Nat → Nat) (fr : va_W) (nF : Nat) (p1 : Int32) (s0 : St) (r : Int32) (s' : St) (h : fX12_loudness nF p1 s0 = some (r, s')) : gMet l yX12_loudness cX12_loudness 2 (some .int) 2 D (TYS cA) ST0 (wm cA ad a fr s0) [.ref (a 0), .int p1] (fun A => gQi D (TYS cA) A (wm cA ad a fr) r s') := by
  refine g_ofW st0_ok (by decide) (Nat.le_of_ble_eq_true rfl) ?_
  intro p e s m args below meth c ls A G hP hD hl
  have G : GC p s m args meth c cX12_loudness 2 RX12 (some .int) A D (TYS cA) ST0 := G
  have hx := G.1
  have hb := G.2.1
  have hS : va_S A s.heap s.heap [] := va_S.rf
  have hl : lv_has ls 2 [(0, .ref (a 0)), (1, .int p1)] := hl
  unfold fX12_loudness at h
  refine lv_aload_n hx hb dX12_loudness_0 rfl (lv_at hl 0 rfl) ?_
  refine lv_bipush (v := 102) hx hb dX12_loudness_1 (by decide) ?_
  refine lv_iload_n hx hb dX12_loudness_3 rfl (lv_at hl 1 rfl) ?_
  obtain ⟨r1, s2, g3, h⟩ := ob_e h
  refine g_callVi (nA := 2) (mX12_noiseNumber l D cA ad a fr nF 102 p1 s0 r1 s2 g3) G hP hD hS (g_good q8_150 q8_152 qs_47 q1_16 q8_153) (by decide +kernel) (by decide) (by decide) sh12_0 rfl rfl hl.1 [] rfl (Nat.le_of_ble_eq_true rfl) dX12_loudness_4 (fun H locs hP hD hS => ?_)
  exact g_ret G hP hD hS h rfl dX12_loudness_7
noncomputable def fX12_amount (nF : Nat) (p1 : Int32) (s0 : St) : Option (Int32 × St) :=
  OB (fX12_noiseNumber nF 117 p1 s0) fun r1 s2 =>
  some (r1, s2)
set_option maxHeartbeats 4000000 in
set_option maxRecDepth 100000 in
theorem mX12_amount (l : Launch) (D : va_G) (cA : Nat → ClassId) (ad a : Nat → Nat) (fr : va_W) (nF : Nat) (p1 : Int32) (s0 : St) (r : Int32) (s' : St) (h : fX12_amount nF p1 s0 = some (r, s')) : gMet l yX12_amount cX12_amount 2 (some .int) 2 D (TYS cA) ST0 (wm cA ad a fr s0) [.ref (a 0), .int p1] (fun A => gQi D (TYS cA) A (wm cA ad a fr) r s') := by
  refine g_ofW st0_ok (by decide) (Nat.le_of_ble_eq_true rfl) ?_
  intro p e s m args below meth c ls A G hP hD hl
  have G : GC p s m args meth c cX12_amount 2 RX12 (some .int) A D (TYS cA) ST0 := G
  have hx := G.1
  have hb := G.2.1
  have hS : va_S A s.heap s.heap [] := va_S.rf
  have hl : lv_has ls 2 [(0, .ref (a 0)), (1, .int p1)] := hl
  unfold fX12_amount at h
  refine lv_aload_n hx hb dX12_amount_0 rfl (lv_at hl 0 rfl) ?_
  refine lv_bipush (v := 117) hx hb dX12_amount_1 (by decide) ?_
  refine lv_iload_n hx hb dX12_amount_3 rfl (lv_at hl 1 rfl) ?_
  obtain ⟨r1, s2, g3, h⟩ := ob_e h
  refine g_callVi (nA := 2) (mX12_noiseNumber l D cA ad a fr nF 117 p1 s0 r1 s2 g3) G hP hD hS (g_good q8_150 q8_152 qs_47 q1_16 q8_153) (by decide +kernel) (by decide) (by decide) sh12_0 rfl rfl hl.1 [] rfl (Nat.le_of_ble_eq_true rfl) dX12_amount_4 (fun H locs hP hD hS => ?_)
  exact g_ret G hP hD hS h rfl dX12_amount_7
noncomputable def fX12_isWaiting_B17 (nF : Nat) (x2 : Int32) (z0 : Int32) (s1 : St) : Option (Int32 × St) :=
  LET (u2 s1 0 13 z0) fun s1 =>
  if (s1 0 13) = 0 then
    OB (fX12_waits nF x2 s1) fun r3 s4 =>
    if r3 = 0 then
      some (0, s4)
    else
      some (1, s4)
  else
    some (0, s1)
noncomputable def fX12_isWaiting (nF : Nat) (p1 : Int32) (s0 : St) : Option (Int32 × St) :=
  OB (fX12_placeOf nF p1 s0) fun r7 s8 =>
  if r7 = ((-1)) then
    fX12_isWaiting_B17 nF r7 1 s8
  else
    fX12_isWaiting_B17 nF r7 0 s8
set_option maxHeartbeats 4000000 in
set_option maxRecDepth 100000 in
theorem mX12_isWaiting (l : Launch) (D : va_G) (cA : Nat → ClassId) (ad a : Nat → Nat) (fr : va_W) (nF : Nat) (p1 : Int32) (s0 : St) (r : Int32) (s' : St) (h : fX12_isWaiting nF p1 s0 = some (r, s')) : gMet l yX12_isWaiting cX12_isWaiting 3 (some .boolean) 2 D (TYS cA) ST0 (wm cA ad a fr s0) [.ref (a 0), .int p1] (fun A => gQi D (TYS cA) A (wm cA ad a fr) r s') := by
  refine g_ofW st0_ok (by decide) (Nat.le_of_ble_eq_true rfl) ?_
  intro p e s m args below meth c ls A G hP hD hl
  have G : GC p s m args meth c cX12_isWaiting 3 RX12 (some .boolean) A D (TYS cA) ST0 := G
  have hx := G.1
  have hb := G.2.1
  have hS : va_S A s.heap s.heap [] := va_S.rf
  have hl : lv_has ls 3 [(0, .ref (a 0)), (1, .int p1)] := hl
  have hB17 : ∀ (x2 : Int32) (z0 : Int32) (s1 : St), fX12_isWaiting_B17 nF x2 z0 s1 = some (r, s') → ∀ (H : Heap) (locs : List Loc) (ls : Array Slot), va_P D vwCl (wm cA ad a fr s1) H → va_D A (wm cA ad a fr s1) → va_S A s.heap H locs → lv_has ls 3 [(0, .ref (a 0)), (2, .int x2)] → W p l e (RM 2) s m args below meth c H locs 0 0 (MQ below (gQi D (TYS cA) A (wm cA ad a fr) r s') args s 0 0 A) (F0 m 17 ls [.int z0, .ref (a 0)]) := by
    intro x2 z0 s1 h H locs ls hP hD hS hl
    unfold fX12_isWaiting_B17 at h
    refine pf12_thrown G hP hD hS dX12_isWaiting_17 (fun s1 es1 H locs hP hD hS => ?_)
    replace h := let_e es1 h
    refine lv_aload_n hx hb dX12_isWaiting_20 rfl (lv_at hl 0 rfl) ?_
    refine gf12_thrown G hP dX12_isWaiting_21 ?_
    refine lv_if_ne (tgt := 39) hx hb dX12_isWaiting_24 (by decide) (fun c2 => ?_) (fun c2 => ?_)
    · replace h := it_f c2 h
      refine lv_iconst (v := 0) hx hb dX12_isWaiting_39 (by decide) ?_
      exact g_ret G hP hD hS h rfl dX12_isWaiting_40
    · replace h := it_t c2 h
      refine lv_aload_n hx hb dX12_isWaiting_27 rfl (lv_at hl 0 rfl) ?_
      refine lv_iload_n hx hb dX12_isWaiting_28 rfl (lv_at hl 1 rfl) ?_
      obtain ⟨r3, s4, g5, h⟩ := ob_e h
      refine g_callVi (nA := 1) (mX12_waits l D cA ad a fr nF x2 s1 r3 s4 g5) G hP hD hS (g_good q8_8 q8_10 qs_26 q1_16 q8_11) (by decide +kernel) (by decide) (by decide) sh12_0 rfl rfl hl.1 [] rfl (Nat.le_of_ble_eq_true rfl) dX12_isWaiting_29 (fun H locs hP hD hS => ?_)
      refine lv_if_eq (tgt := 39) hx hb dX12_isWaiting_32 (by decide) (fun c6 => ?_) (fun c6 => ?_)
      · replace h := it_t c6 h
        refine lv_iconst (v := 0) hx hb dX12_isWaiting_39 (by decide) ?_
        exact g_ret G hP hD hS h rfl dX12_isWaiting_40
      · replace h := it_f c6 h
        refine lv_iconst (v := 1) hx hb dX12_isWaiting_35 (by decide) ?_
        refine lv_goto (tgt := 40) hx hb dX12_isWaiting_36 (by decide) ?_
        exact g_ret G hP hD hS h rfl dX12_isWaiting_40
  unfold fX12_isWaiting at h
  refine lv_aload_n hx hb dX12_isWaiting_0 rfl (lv_at hl 0 rfl) ?_
  refine lv_iload_n hx hb dX12_isWaiting_1 rfl (lv_at hl 1 rfl) ?_
  obtain ⟨r7, s8, g9, h⟩ := ob_e h
  refine g_callVi (nA := 1) (mX12_placeOf l D cA ad a fr nF p1 s0 r7 s8 g9) G hP hD hS (g_good q8_32 q8_34 qs_31 q1_16 q8_35) (by decide +kernel) (by decide) (by decide) sh12_0 rfl rfl hl.1 [] rfl (Nat.le_of_ble_eq_true rfl) dX12_isWaiting_2 (fun H locs hP hD hS => ?_)
  refine lv_istore_n (lv' := [(2, .int r7), (0, .ref (a 0)), (1, .int p1)]) hx hb dX12_isWaiting_5 rfl hl (by decide) rfl (fun ls hl => ?_)
  refine lv_aload_n hx hb dX12_isWaiting_6 rfl (lv_at hl 1 rfl) ?_
  refine lv_iload_n hx hb dX12_isWaiting_7 rfl (lv_at hl 0 rfl) ?_
  refine lv_iconst (v := (-1)) hx hb dX12_isWaiting_8 (by decide) ?_
  refine lv_icmp_ne (tgt := 16) hx hb dX12_isWaiting_9 (by decide) (fun c10 => ?_) (fun c10 => ?_)
  · replace h := it_f c10 h
    refine lv_iconst (v := 0) hx hb dX12_isWaiting_16 (by decide) ?_
    exact hB17 r7 0 s8 h _ _ ls hP hD hS (lv_sub hl [1, 0] rfl)
  · replace h := it_t c10 h
    refine lv_iconst (v := 1) hx hb dX12_isWaiting_12 (by decide) ?_
    refine lv_goto (tgt := 17) hx hb dX12_isWaiting_13 (by decide) ?_
    exact hB17 r7 1 s8 h _ _ ls hP hD hS (lv_sub hl [1, 0] rfl)
noncomputable def fX12_wheelOf_B18 (nF : Nat) (z0 : Int32) (s1 : St) : Option (Int32 × St) :=
  if z0 = ((-1)) then
    OB (fX12_fails 1 s1) fun r5 s6 =>
    some (r5, s6)
  else
    OB (fX12_done z0 s1) fun r2 s3 =>
    some (r2, s3)
noncomputable def fX12_wheelOf (nF : Nat) (p1 : Int32) (s0 : St) : Option (Int32 × St) :=
  OB (fX12_placeOf nF p1 s0) fun r8 s9 =>
  if r8 = ((-1)) then
    fX12_wheelOf_B18 nF ((-1)) s9
  else
    OB (fX12_holder nF p1 s9) fun r12 s13 =>
    fX12_wheelOf_B18 nF r12 s13
set_option maxHeartbeats 4000000 in
set_option maxRecDepth 100000 in
theorem mX12_wheelOf (l : Launch) (D : va_G) (cA : Nat → ClassId) (ad a : Nat → Nat) (fr : va_W) (nF : Nat) (p1 : Int32) (s0 : St) (r : Int32) (s' : St) (h : fX12_wheelOf nF p1 s0 = some (r, s')) : gMet l yX12_wheelOf cX12_wheelOf 3 (some .int) 1 D (TYS cA) ST0 (wm cA ad a fr s0) [.ref (a 0), .int p1] (fun A => gQi D (TYS cA) A (wm cA ad a fr) r s') := by
  refine g_ofW st0_ok (by decide) (Nat.le_of_ble_eq_true rfl) ?_
  intro p e s m args below meth c ls A G hP hD hl
  have G : GC p s m args meth c cX12_wheelOf 3 RX12 (some .int) A D (TYS cA) ST0 := G
  have hx := G.1
  have hb := G.2.1
  have hS : va_S A s.heap s.heap [] := va_S.rf
  have hl : lv_has ls 3 [(0, .ref (a 0)), (1, .int p1)] := hl
  have hB18 : ∀ (z0 : Int32) (s1 : St), fX12_wheelOf_B18 nF z0 s1 = some (r, s') → ∀ (H : Heap) (locs : List Loc) (ls : Array Slot), va_P D vwCl (wm cA ad a fr s1) H → va_D A (wm cA ad a fr s1) → va_S A s.heap H locs → lv_has ls 3 [(0, .ref (a 0))] → W p l e (RM 1) s m args below meth c H locs 0 0 (MQ below (gQi D (TYS cA) A (wm cA ad a fr) r s') args s 0 0 A) (F0 m 18 ls [.int z0]) := by
    intro z0 s1 h H locs ls hP hD hS hl
    unfold fX12_wheelOf_B18 at h
    refine lv_istore_n (lv' := [(2, .int z0), (0, .ref (a 0))]) hx hb dX12_wheelOf_18 rfl hl (by decide) rfl (fun ls hl => ?_)
    refine lv_iload_n hx hb dX12_wheelOf_19 rfl (lv_at hl 0 rfl) ?_
    refine lv_iconst (v := (-1)) hx hb dX12_wheelOf_20 (by decide) ?_
    refine lv_icmp_ne (tgt := 32) hx hb dX12_wheelOf_21 (by decide) (fun c1 => ?_) (fun c1 => ?_)
    · replace h := it_f c1 h
      refine lv_aload_n hx hb dX12_wheelOf_32 rfl (lv_at hl 1 rfl) ?_
      refine lv_iload_n hx hb dX12_wheelOf_33 rfl (lv_at hl 0 rfl) ?_
      obtain ⟨r2, s3, g4, h⟩ := ob_e h
      refine g_callVi (nA := 1) (mX12_done l D cA ad a fr z0 s1 r2 s3 g4) G hP hD hS (g_good q8_16 q8_18 qs_28 q1_16 q8_19) (by decide +kernel) (by decide) (by decide) sh12_0 rfl rfl hl.1 [] rfl (Nat.le_of_ble_eq_true rfl) dX12_wheelOf_34 (fun H locs hP hD hS => ?_)
      exact g_ret G hP hD hS h rfl dX12_wheelOf_37
    · replace h := it_t c1 h
      refine lv_aload_n hx hb dX12_wheelOf_24 rfl (lv_at hl 1 rfl) ?_
      refine lv_iconst (v := 1) hx hb dX12_wheelOf_25 (by decide) ?_
      obtain ⟨r5, s6, g7, h⟩ := ob_e h
      refine g_callVi (nA := 1) (mX12_fails l D cA ad a fr 1 s1 r5 s6 g7) G hP hD hS (g_good q8_0 q8_2 qs_24 q1_16 q8_3) (by decide +kernel) (by decide) (by decide) sh12_0 rfl rfl hl.1 [] rfl (Nat.le_of_ble_eq_true rfl) dX12_wheelOf_26 (fun H locs hP hD hS => ?_)
      refine lv_goto (tgt := 37) hx hb dX12_wheelOf_29 (by decide) ?_
      exact g_ret G hP hD hS h rfl dX12_wheelOf_37
  unfold fX12_wheelOf at h
  refine lv_aload_n hx hb dX12_wheelOf_0 rfl (lv_at hl 0 rfl) ?_
  refine lv_iload_n hx hb dX12_wheelOf_1 rfl (lv_at hl 1 rfl) ?_
  obtain ⟨r8, s9, g10, h⟩ := ob_e h
  refine g_callVi (nA := 1) (mX12_placeOf l D cA ad a fr nF p1 s0 r8 s9 g10) G hP hD hS (g_good q8_32 q8_34 qs_31 q1_16 q8_35) (by decide +kernel) (by decide) (by decide) sh12_0 rfl rfl hl.1 [] rfl (Nat.le_of_ble_eq_true rfl) dX12_wheelOf_2 (fun H locs hP hD hS => ?_)
  refine lv_iconst (v := (-1)) hx hb dX12_wheelOf_5 (by decide) ?_
  refine lv_icmp_ne (tgt := 13) hx hb dX12_wheelOf_6 (by decide) (fun c11 => ?_) (fun c11 => ?_)
  · replace h := it_f c11 h
    refine lv_aload_n hx hb dX12_wheelOf_13 rfl (lv_at hl 0 rfl) ?_
    refine lv_iload_n hx hb dX12_wheelOf_14 rfl (lv_at hl 1 rfl) ?_
    obtain ⟨r12, s13, g14, h⟩ := ob_e h
    refine g_callVi (nA := 1) (mX12_holder l D cA ad a fr nF p1 s9 r12 s13 g14) G hP hD hS (g_good q8_12 q8_14 qs_27 q1_16 q8_15) (by decide +kernel) (by decide) (by decide) sh12_0 rfl rfl hl.1 [] rfl (Nat.le_of_ble_eq_true rfl) dX12_wheelOf_15 (fun H locs hP hD hS => ?_)
    exact hB18 r12 s13 h _ _ ls hP hD hS (lv_sub hl [0] rfl)
  · replace h := it_t c11 h
    refine lv_iconst (v := (-1)) hx hb dX12_wheelOf_9 (by decide) ?_
    refine lv_goto (tgt := 18) hx hb dX12_wheelOf_10 (by decide) ?_
    exact hB18 ((-1)) s9 h _ _ ls hP hD hS (lv_sub hl [0] rfl)
def fX12_noiseOn (p1 : Int32) (s0 : St) : Option (Int32 × St) :=
  OB (fX12_isWheel p1 s0) fun r1 s2 =>
  if r1 = 0 then
    OB (fX12_fails 1 s2) fun r14 s15 =>
    some (r14, s15)
  else
    BND (13 + p1) 156 <|
    if (s2 1 (13 + p1).toNatClampNeg) = 0 then
      OB (fX12_fails 2 s2) fun r11 s12 =>
      some (r11, s12)
    else
      BND (13 + p1) 156 <|
      OB (fX12_done ((s2 1 (13 + p1).toNatClampNeg) - 1) s2) fun r8 s9 =>
      some (r8, s9)
set_option maxHeartbeats 4000000 in
set_option maxRecDepth 100000 in
theorem mX12_noiseOn (l : Launch) (D : va_G) (cA : Nat → ClassId) (ad a : Nat → Nat) (fr : va_W) (p1 : Int32) (s0 : St) (r : Int32) (s' : St) (h : fX12_noiseOn p1 s0 = some (r, s')) : gMet l yX12_noiseOn cX12_noiseOn 2 (some .int) 2 D (TYS cA) ST0 (wm cA ad a fr s0) [.ref (a 0), .int p1] (fun A => gQi D (TYS cA) A (wm cA ad a fr) r s') := by
  refine g_ofW st0_ok (by decide) (Nat.le_of_ble_eq_true rfl) ?_
  intro p e s m args below meth c ls A G hP hD hl
  have G : GC p s m args meth c cX12_noiseOn 2 RX12 (some .int) A D (TYS cA) ST0 := G
  have hx := G.1
  have hb := G.2.1
  have hS : va_S A s.heap s.heap [] := va_S.rf
  have hl : lv_has ls 2 [(0, .ref (a 0)), (1, .int p1)] := hl
  unfold fX12_noiseOn at h
  refine lv_iload_n hx hb dX12_noiseOn_0 rfl (lv_at hl 1 rfl) ?_
  obtain ⟨r1, s2, g3, h⟩ := ob_e h
  refine g_callSi (nA := 1) (mX12_isWheel l D cA ad a fr p1 s0 r1 s2 g3) G hP hD hS (g_goodS q8_48 q8_49 q1_16 q8_50) (by decide +kernel) (by decide) rfl hl.1 [] rfl (Nat.le_of_ble_eq_true rfl) dX12_noiseOn_1 (fun H locs hP hD hS => ?_)
  refine lv_if_ne (tgt := 13) hx hb dX12_noiseOn_4 (by decide) (fun c4 => ?_) (fun c4 => ?_)
  · replace h := it_f c4 h
    refine lv_aload_n hx hb dX12_noiseOn_13 rfl (lv_at hl 0 rfl) ?_
    refine gf12_g G hP dX12_noiseOn_14 ?_
    refine lv_bipush (v := 13) hx hb dX12_noiseOn_17 (by decide) ?_
    refine lv_iload_n hx hb dX12_noiseOn_19 rfl (lv_at hl 1 rfl) ?_
    refine lv_iadd hx hb dX12_noiseOn_20 ?_
    obtain ⟨b5, h⟩ := bnd_e h
    refine al12_1 G hP b5 dX12_noiseOn_21 ?_
    refine lv_if_ne (tgt := 33) hx hb dX12_noiseOn_22 (by decide) (fun c6 => ?_) (fun c6 => ?_)
    · replace h := it_f c6 h
      refine lv_aload_n hx hb dX12_noiseOn_33 rfl (lv_at hl 0 rfl) ?_
      refine lv_aload_n hx hb dX12_noiseOn_34 rfl (lv_at hl 0 rfl) ?_
      refine gf12_g G hP dX12_noiseOn_35 ?_
      refine lv_bipush (v := 13) hx hb dX12_noiseOn_38 (by decide) ?_
      refine lv_iload_n hx hb dX12_noiseOn_40 rfl (lv_at hl 1 rfl) ?_
      refine lv_iadd hx hb dX12_noiseOn_41 ?_
      obtain ⟨b7, h⟩ := bnd_e h
      refine al12_1 G hP b7 dX12_noiseOn_42 ?_
      refine lv_iconst (v := 1) hx hb dX12_noiseOn_43 (by decide) ?_
      refine lv_isub hx hb dX12_noiseOn_44 ?_
      obtain ⟨r8, s9, g10, h⟩ := ob_e h
      refine g_callVi (nA := 1) (mX12_done l D cA ad a fr ((s2 1 (13 + p1).toNatClampNeg) - 1) s2 r8 s9 g10) G hP hD hS (g_good q8_16 q8_18 qs_28 q1_16 q8_19) (by decide +kernel) (by decide) (by decide) sh12_0 rfl rfl hl.1 [] rfl (Nat.le_of_ble_eq_true rfl) dX12_noiseOn_45 (fun H locs hP hD hS => ?_)
      exact g_ret G hP hD hS h rfl dX12_noiseOn_48
    · replace h := it_t c6 h
      refine lv_aload_n hx hb dX12_noiseOn_25 rfl (lv_at hl 0 rfl) ?_
      refine lv_iconst (v := 2) hx hb dX12_noiseOn_26 (by decide) ?_
      obtain ⟨r11, s12, g13, h⟩ := ob_e h
      refine g_callVi (nA := 1) (mX12_fails l D cA ad a fr 2 s2 r11 s12 g13) G hP hD hS (g_good q8_0 q8_2 qs_24 q1_16 q8_3) (by decide +kernel) (by decide) (by decide) sh12_0 rfl rfl hl.1 [] rfl (Nat.le_of_ble_eq_true rfl) dX12_noiseOn_27 (fun H locs hP hD hS => ?_)
      refine lv_goto (tgt := 48) hx hb dX12_noiseOn_30 (by decide) ?_
      exact g_ret G hP hD hS h rfl dX12_noiseOn_48
  · replace h := it_t c4 h
    refine lv_aload_n hx hb dX12_noiseOn_7 rfl (lv_at hl 0 rfl) ?_
    refine lv_iconst (v := 1) hx hb dX12_noiseOn_8 (by decide) ?_
    obtain ⟨r14, s15, g16, h⟩ := ob_e h
    refine g_callVi (nA := 1) (mX12_fails l D cA ad a fr 1 s2 r14 s15 g16) G hP hD hS (g_good q8_0 q8_2 qs_24 q1_16 q8_3) (by decide +kernel) (by decide) (by decide) sh12_0 rfl rfl hl.1 [] rfl (Nat.le_of_ble_eq_true rfl) dX12_noiseOn_9 (fun H locs hP hD hS => ?_)
    exact g_ret G hP hD hS h rfl dX12_noiseOn_12
def fX12_wheelNumber (p1 : Int32) (p2 : Int32) (s0 : St) : Option (Int32 × St) :=
  OB (fX12_isWheel p2 s0) fun r1 s2 =>
  if r1 = 0 then
    OB (fX12_fails 1 s2) fun r5 s6 =>
    some (r5, s6)
  else
    BND (p1 + p2) 156 <|
    OB (fX12_done (s2 1 (p1 + p2).toNatClampNeg) s2) fun r9 s10 =>
    some (r9, s10)
set_option maxHeartbeats 4000000 in
set_option maxRecDepth 100000 in
theorem mX12_wheelNumber (l : Launch) (D : va_G) (cA : Nat → ClassId) (ad a : Nat → Nat) (fr : va_W) (p1 : Int32) (p2 : Int32) (s0 : St) (r : Int32) (s' : St) (h : fX12_wheelNumber p1 p2 s0 = some (r, s')) : gMet l yX12_wheelNumber cX12_wheelNumber 3 (some .int) 2 D (TYS cA) ST0 (wm cA ad a fr s0) [.ref (a 0), .int p1, .int p2] (fun A => gQi D (TYS cA) A (wm cA ad a fr) r s') := by
  refine g_ofW st0_ok (by decide) (Nat.le_of_ble_eq_true rfl) ?_
  intro p e s m args below meth c ls A G hP hD hl
  have G : GC p s m args meth c cX12_wheelNumber 3 RX12 (some .int) A D (TYS cA) ST0 := G
  have hx := G.1
  have hb := G.2.1
  have hS : va_S A s.heap s.heap [] := va_S.rf
  have hl : lv_has ls 3 [(0, .ref (a 0)), (1, .int p1), (2, .int p2)] := hl
  unfold fX12_wheelNumber at h
  refine lv_iload_n hx hb dX12_wheelNumber_0 rfl (lv_at hl 2 rfl) ?_
  obtain ⟨r1, s2, g3, h⟩ := ob_e h
  refine g_callSi (nA := 1) (mX12_isWheel l D cA ad a fr p2 s0 r1 s2 g3) G hP hD hS (g_goodS q8_48 q8_49 q1_16 q8_50) (by decide +kernel) (by decide) rfl hl.1 [] rfl (Nat.le_of_ble_eq_true rfl) dX12_wheelNumber_1 (fun H locs hP hD hS => ?_)
  refine lv_if_eq (tgt := 22) hx hb dX12_wheelNumber_4 (by decide) (fun c4 => ?_) (fun c4 => ?_)
  · replace h := it_t c4 h
    refine lv_aload_n hx hb dX12_wheelNumber_22 rfl (lv_at hl 0 rfl) ?_
    refine lv_iconst (v := 1) hx hb dX12_wheelNumber_23 (by decide) ?_
    obtain ⟨r5, s6, g7, h⟩ := ob_e h
    refine g_callVi (nA := 1) (mX12_fails l D cA ad a fr 1 s2 r5 s6 g7) G hP hD hS (g_good q8_0 q8_2 qs_24 q1_16 q8_3) (by decide +kernel) (by decide) (by decide) sh12_0 rfl rfl hl.1 [] rfl (Nat.le_of_ble_eq_true rfl) dX12_wheelNumber_24 (fun H locs hP hD hS => ?_)
    exact g_ret G hP hD hS h rfl dX12_wheelNumber_27
  · replace h := it_f c4 h
    refine lv_aload_n hx hb dX12_wheelNumber_7 rfl (lv_at hl 0 rfl) ?_
    refine lv_aload_n hx hb dX12_wheelNumber_8 rfl (lv_at hl 0 rfl) ?_
    refine gf12_g G hP dX12_wheelNumber_9 ?_
    refine lv_iload_n hx hb dX12_wheelNumber_12 rfl (lv_at hl 1 rfl) ?_
    refine lv_iload_n hx hb dX12_wheelNumber_13 rfl (lv_at hl 2 rfl) ?_
    refine lv_iadd hx hb dX12_wheelNumber_14 ?_
    obtain ⟨b8, h⟩ := bnd_e h
    refine al12_1 G hP b8 dX12_wheelNumber_15 ?_
    obtain ⟨r9, s10, g11, h⟩ := ob_e h
    refine g_callVi (nA := 1) (mX12_done l D cA ad a fr (s2 1 (p1 + p2).toNatClampNeg) s2 r9 s10 g11) G hP hD hS (g_good q8_16 q8_18 qs_28 q1_16 q8_19) (by decide +kernel) (by decide) (by decide) sh12_0 rfl rfl hl.1 [] rfl (Nat.le_of_ble_eq_true rfl) dX12_wheelNumber_16 (fun H locs hP hD hS => ?_)
    refine lv_goto (tgt := 27) hx hb dX12_wheelNumber_19 (by decide) ?_
    exact g_ret G hP hD hS h rfl dX12_wheelNumber_27
def fX12_gear (p1 : Int32) (s0 : St) : Option (Int32 × St) :=
  OB (fX12_wheelNumber 7 p1 s0) fun r1 s2 =>
  some (r1, s2)
set_option maxHeartbeats 4000000 in
set_option maxRecDepth 100000 in
theorem mX12_gear (l : Launch) (D : va_G) (cA : Nat → ClassId) (ad a : Nat → Nat) (fr : va_W) (p1 : Int32) (s0 : St) (r : Int32) (s' : St) (h : fX12_gear p1 s0 = some (r, s')) : gMet l yX12_gear cX12_gear 2 (some .int) 3 D (TYS cA) ST0 (wm cA ad a fr s0) [.ref (a 0), .int p1] (fun A => gQi D (TYS cA) A (wm cA ad a fr) r s') := by
  refine g_ofW st0_ok (by decide) (Nat.le_of_ble_eq_true rfl) ?_
  intro p e s m args below meth c ls A G hP hD hl
  have G : GC p s m args meth c cX12_gear 2 RX12 (some .int) A D (TYS cA) ST0 := G
  have hx := G.1
  have hb := G.2.1
  have hS : va_S A s.heap s.heap [] := va_S.rf
  have hl : lv_has ls 2 [(0, .ref (a 0)), (1, .int p1)] := hl
  unfold fX12_gear at h
  refine lv_aload_n hx hb dX12_gear_0 rfl (lv_at hl 0 rfl) ?_
  refine lv_bipush (v := 7) hx hb dX12_gear_1 (by decide) ?_
  refine lv_iload_n hx hb dX12_gear_3 rfl (lv_at hl 1 rfl) ?_
  obtain ⟨r1, s2, g3, h⟩ := ob_e h
  refine g_callVi (nA := 2) (mX12_wheelNumber l D cA ad a fr 7 p1 s0 r1 s2 g3) G hP hD hS (g_good q8_178 q8_180 qs_48 q1_16 q8_181) (by decide +kernel) (by decide) (by decide) sh12_0 rfl rfl hl.1 [] rfl (Nat.le_of_ble_eq_true rfl) dX12_gear_4 (fun H locs hP hD hS => ?_)
  exact g_ret G hP hD hS h rfl dX12_gear_7
def fX12_wear (p1 : Int32) (s0 : St) : Option (Int32 × St) :=
  OB (fX12_wheelNumber 10 p1 s0) fun r1 s2 =>
  some (r1, s2)
set_option maxHeartbeats 4000000 in
set_option maxRecDepth 100000 in
theorem mX12_wear (l : Launch) (D : va_G) (cA : Nat → ClassId) (ad a : Nat → Nat) (fr : va_W) (p1 : Int32) (s0 : St) (r : Int32) (s' : St) (h : fX12_wear p1 s0 = some (r, s')) : gMet l yX12_wear cX12_wear 2 (some .int) 3 D (TYS cA) ST0 (wm cA ad a fr s0) [.ref (a 0), .int p1] (fun A => gQi D (TYS cA) A (wm cA ad a fr) r s') := by
  refine g_ofW st0_ok (by decide) (Nat.le_of_ble_eq_true rfl) ?_
  intro p e s m args below meth c ls A G hP hD hl
  have G : GC p s m args meth c cX12_wear 2 RX12 (some .int) A D (TYS cA) ST0 := G
  have hx := G.1
  have hb := G.2.1
  have hS : va_S A s.heap s.heap [] := va_S.rf
  have hl : lv_has ls 2 [(0, .ref (a 0)), (1, .int p1)] := hl
  unfold fX12_wear at h
  refine lv_aload_n hx hb dX12_wear_0 rfl (lv_at hl 0 rfl) ?_
  refine lv_bipush (v := 10) hx hb dX12_wear_1 (by decide) ?_
  refine lv_iload_n hx hb dX12_wear_3 rfl (lv_at hl 1 rfl) ?_
  obtain ⟨r1, s2, g3, h⟩ := ob_e h
  refine g_callVi (nA := 2) (mX12_wheelNumber l D cA ad a fr 10 p1 s0 r1 s2 g3) G hP hD hS (g_good q8_178 q8_180 qs_48 q1_16 q8_181) (by decide +kernel) (by decide) (by decide) sh12_0 rfl rfl hl.1 [] rfl (Nat.le_of_ble_eq_true rfl) dX12_wear_4 (fun H locs hP hD hS => ?_)
  exact g_ret G hP hD hS h rfl dX12_wear_7
def fX12_isJammed (p1 : Int32) (s0 : St) : Option (Int32 × St) :=
  OB (fX12_wheelNumber 10 p1 s0) fun r1 s2 =>
  if r1 < 12 then
    some (0, s2)
  else
    some (1, s2)
set_option maxHeartbeats 4000000 in
set_option maxRecDepth 100000 in
theorem mX12_isJammed (l : Launch) (D : va_G) (cA : Nat → ClassId) (ad a : Nat → Nat) (fr : va_W) (p1 : Int32) (s0 : St) (r : Int32) (s' : St) (h : fX12_isJammed p1 s0 = some (r, s')) : gMet l yX12_isJammed cX12_isJammed 2 (some .boolean) 3 D (TYS cA) ST0 (wm cA ad a fr s0) [.ref (a 0), .int p1] (fun A => gQi D (TYS cA) A (wm cA ad a fr) r s') := by
  refine g_ofW st0_ok (by decide) (Nat.le_of_ble_eq_true rfl) ?_
  intro p e s m args below meth c ls A G hP hD hl
  have G : GC p s m args meth c cX12_isJammed 2 RX12 (some .boolean) A D (TYS cA) ST0 := G
  have hx := G.1
  have hb := G.2.1
  have hS : va_S A s.heap s.heap [] := va_S.rf
  have hl : lv_has ls 2 [(0, .ref (a 0)), (1, .int p1)] := hl
  unfold fX12_isJammed at h
  refine lv_aload_n hx hb dX12_isJammed_0 rfl (lv_at hl 0 rfl) ?_
  refine lv_bipush (v := 10) hx hb dX12_isJammed_1 (by decide) ?_
  refine lv_iload_n hx hb dX12_isJammed_3 rfl (lv_at hl 1 rfl) ?_
  obtain ⟨r1, s2, g3, h⟩ := ob_e h
  refine g_callVi (nA := 2) (mX12_wheelNumber l D cA ad a fr 10 p1 s0 r1 s2 g3) G hP hD hS (g_good q8_178 q8_180 qs_48 q1_16 q8_181) (by decide +kernel) (by decide) (by decide) sh12_0 rfl rfl hl.1 [] rfl (Nat.le_of_ble_eq_true rfl) dX12_isJammed_4 (fun H locs hP hD hS => ?_)
  refine lv_bipush (v := 12) hx hb dX12_isJammed_7 (by decide) ?_
  refine lv_icmp_lt (tgt := 16) hx hb dX12_isJammed_9 (by decide) (fun c4 => ?_) (fun c4 => ?_)
  · replace h := it_t c4 h
    refine lv_iconst (v := 0) hx hb dX12_isJammed_16 (by decide) ?_
    exact g_ret G hP hD hS h rfl dX12_isJammed_17
  · replace h := it_f c4 h
    refine lv_iconst (v := 1) hx hb dX12_isJammed_12 (by decide) ?_
    refine lv_goto (tgt := 17) hx hb dX12_isJammed_13 (by decide) ?_
    exact g_ret G hP hD hS h rfl dX12_isJammed_17
def fX12_bandNumber (p1 : Int32) (p2 : Int32) (s0 : St) : Option (Int32 × St) :=
  OB (fX12_isBand p2 s0) fun r1 s2 =>
  if r1 = 0 then
    OB (fX12_fails 1 s2) fun r5 s6 =>
    some (r5, s6)
  else
    BND (p1 + p2) 156 <|
    OB (fX12_done (s2 1 (p1 + p2).toNatClampNeg) s2) fun r9 s10 =>
    some (r9, s10)
set_option maxHeartbeats 4000000 in
set_option maxRecDepth 100000 in
theorem mX12_bandNumber (l : Launch) (D : va_G) (cA : Nat → ClassId) (ad a : Nat → Nat) (fr : va_W) (p1 : Int32) (p2 : Int32) (s0 : St) (r : Int32) (s' : St) (h : fX12_bandNumber p1 p2 s0 = some (r, s')) : gMet l yX12_bandNumber cX12_bandNumber 3 (some .int) 2 D (TYS cA) ST0 (wm cA ad a fr s0) [.ref (a 0), .int p1, .int p2] (fun A => gQi D (TYS cA) A (wm cA ad a fr) r s') := by
  refine g_ofW st0_ok (by decide) (Nat.le_of_ble_eq_true rfl) ?_
  intro p e s m args below meth c ls A G hP hD hl
  have G : GC p s m args meth c cX12_bandNumber 3 RX12 (some .int) A D (TYS cA) ST0 := G
  have hx := G.1
  have hb := G.2.1
  have hS : va_S A s.heap s.heap [] := va_S.rf
  have hl : lv_has ls 3 [(0, .ref (a 0)), (1, .int p1), (2, .int p2)] := hl
  unfold fX12_bandNumber at h
  refine lv_iload_n hx hb dX12_bandNumber_0 rfl (lv_at hl 2 rfl) ?_
  obtain ⟨r1, s2, g3, h⟩ := ob_e h
  refine g_callSi (nA := 1) (mX12_isBand l D cA ad a fr p2 s0 r1 s2 g3) G hP hD hS (g_goodS q7_234 q7_235 q1_16 q7_236) (by decide +kernel) (by decide) rfl hl.1 [] rfl (Nat.le_of_ble_eq_true rfl) dX12_bandNumber_1 (fun H locs hP hD hS => ?_)
  refine lv_if_eq (tgt := 22) hx hb dX12_bandNumber_4 (by decide) (fun c4 => ?_) (fun c4 => ?_)
  · replace h := it_t c4 h
    refine lv_aload_n hx hb dX12_bandNumber_22 rfl (lv_at hl 0 rfl) ?_
    refine lv_iconst (v := 1) hx hb dX12_bandNumber_23 (by decide) ?_
    obtain ⟨r5, s6, g7, h⟩ := ob_e h
    refine g_callVi (nA := 1) (mX12_fails l D cA ad a fr 1 s2 r5 s6 g7) G hP hD hS (g_good q8_0 q8_2 qs_24 q1_16 q8_3) (by decide +kernel) (by decide) (by decide) sh12_0 rfl rfl hl.1 [] rfl (Nat.le_of_ble_eq_true rfl) dX12_bandNumber_24 (fun H locs hP hD hS => ?_)
    exact g_ret G hP hD hS h rfl dX12_bandNumber_27
  · replace h := it_f c4 h
    refine lv_aload_n hx hb dX12_bandNumber_7 rfl (lv_at hl 0 rfl) ?_
    refine lv_aload_n hx hb dX12_bandNumber_8 rfl (lv_at hl 0 rfl) ?_
    refine gf12_g G hP dX12_bandNumber_9 ?_
    refine lv_iload_n hx hb dX12_bandNumber_12 rfl (lv_at hl 1 rfl) ?_
    refine lv_iload_n hx hb dX12_bandNumber_13 rfl (lv_at hl 2 rfl) ?_
    refine lv_iadd hx hb dX12_bandNumber_14 ?_
    obtain ⟨b8, h⟩ := bnd_e h
    refine al12_1 G hP b8 dX12_bandNumber_15 ?_
    obtain ⟨r9, s10, g11, h⟩ := ob_e h
    refine g_callVi (nA := 1) (mX12_done l D cA ad a fr (s2 1 (p1 + p2).toNatClampNeg) s2 r9 s10 g11) G hP hD hS (g_good q8_16 q8_18 qs_28 q1_16 q8_19) (by decide +kernel) (by decide) (by decide) sh12_0 rfl rfl hl.1 [] rfl (Nat.le_of_ble_eq_true rfl) dX12_bandNumber_16 (fun H locs hP hD hS => ?_)
    refine lv_goto (tgt := 27) hx hb dX12_bandNumber_19 (by decide) ?_
    exact g_ret G hP hD hS h rfl dX12_bandNumber_27
def fX12_mesh (p1 : Int32) (s0 : St) : Option (Int32 × St) :=
  OB (fX12_bandNumber 16 p1 s0) fun r1 s2 =>
  some (r1, s2)
set_option maxHeartbeats 4000000 in
set_option maxRecDepth 100000 in
theorem mX12_mesh (l : Launch) (D : va_G) (cA : Nat → ClassId) (ad a : Nat → Nat) (fr : va_W) (p1 : Int32) (s0 : St) (r : Int32) (s' : St) (h : fX12_mesh p1 s0 = some (r, s')) : gMet l yX12_mesh cX12_mesh 2 (some .int) 3 D (TYS cA) ST0 (wm cA ad a fr s0) [.ref (a 0), .int p1] (fun A => gQi D (TYS cA) A (wm cA ad a fr) r s') := by
  refine g_ofW st0_ok (by decide) (Nat.le_of_ble_eq_true rfl) ?_
  intro p e s m args below meth c ls A G hP hD hl
  have G : GC p s m args meth c cX12_mesh 2 RX12 (some .int) A D (TYS cA) ST0 := G
  have hx := G.1
  have hb := G.2.1
  have hS : va_S A s.heap s.heap [] := va_S.rf
  have hl : lv_has ls 2 [(0, .ref (a 0)), (1, .int p1)] := hl
  unfold fX12_mesh at h
  refine lv_aload_n hx hb dX12_mesh_0 rfl (lv_at hl 0 rfl) ?_
  refine lv_bipush (v := 16) hx hb dX12_mesh_1 (by decide) ?_
  refine lv_iload_n hx hb dX12_mesh_3 rfl (lv_at hl 1 rfl) ?_
  obtain ⟨r1, s2, g3, h⟩ := ob_e h
  refine g_callVi (nA := 2) (mX12_bandNumber l D cA ad a fr 16 p1 s0 r1 s2 g3) G hP hD hS (g_good q8_194 q8_196 qs_49 q1_16 q8_197) (by decide +kernel) (by decide) (by decide) sh12_0 rfl rfl hl.1 [] rfl (Nat.le_of_ble_eq_true rfl) dX12_mesh_4 (fun H locs hP hD hS => ?_)
  exact g_ret G hP hD hS h rfl dX12_mesh_7
def fX12_isBandGround (p1 : Int32) (s0 : St) : Option (Int32 × St) :=
  OB (fX12_bandNumber 64 p1 s0) fun r1 s2 =>
  if r1 = 1 then
    some (1, s2)
  else
    some (0, s2)
set_option maxHeartbeats 4000000 in
set_option maxRecDepth 100000 in
theorem mX12_isBandGround (l : Launch) (D : va_G) (cA : Nat → ClassId) (ad a : Nat → Nat) (fr : va_W) (p1 : Int32) (s0 : St) (r : Int32) (s' : St) (h : fX12_isBandGround p1 s0 = some (r, s')) : gMet l yX12_isBandGround cX12_isBandGround 2 (some .boolean) 3 D (TYS cA) ST0 (wm cA ad a fr s0) [.ref (a 0), .int p1] (fun A => gQi D (TYS cA) A (wm cA ad a fr) r s') := by
  refine g_ofW st0_ok (by decide) (Nat.le_of_ble_eq_true rfl) ?_
  intro p e s m args below meth c ls A G hP hD hl
  have G : GC p s m args meth c cX12_isBandGround 2 RX12 (some .boolean) A D (TYS cA) ST0 := G
  have hx := G.1
  have hb := G.2.1
  have hS : va_S A s.heap s.heap [] := va_S.rf
  have hl : lv_has ls 2 [(0, .ref (a 0)), (1, .int p1)] := hl
  unfold fX12_isBandGround at h
  refine lv_aload_n hx hb dX12_isBandGround_0 rfl (lv_at hl 0 rfl) ?_
  refine lv_bipush (v := 64) hx hb dX12_isBandGround_1 (by decide) ?_
  refine lv_iload_n hx hb dX12_isBandGround_3 rfl (lv_at hl 1 rfl) ?_
  obtain ⟨r1, s2, g3, h⟩ := ob_e h
  refine g_callVi (nA := 2) (mX12_bandNumber l D cA ad a fr 64 p1 s0 r1 s2 g3) G hP hD hS (g_good q8_194 q8_196 qs_49 q1_16 q8_197) (by decide +kernel) (by decide) (by decide) sh12_0 rfl rfl hl.1 [] rfl (Nat.le_of_ble_eq_true rfl) dX12_isBandGround_4 (fun H locs hP hD hS => ?_)
  refine lv_iconst (v := 1) hx hb dX12_isBandGround_7 (by decide) ?_
  refine lv_icmp_ne (tgt := 15) hx hb dX12_isBandGround_8 (by decide) (fun c4 => ?_) (fun c4 => ?_)
  · replace h := it_f c4 h
    refine lv_iconst (v := 0) hx hb dX12_isBandGround_15 (by decide) ?_
    exact g_ret G hP hD hS h rfl dX12_isBandGround_16
  · replace h := it_t c4 h
    refine lv_iconst (v := 1) hx hb dX12_isBandGround_11 (by decide) ?_
    refine lv_goto (tgt := 16) hx hb dX12_isBandGround_12 (by decide) ?_
    exact g_ret G hP hD hS h rfl dX12_isBandGround_16
noncomputable def fX12_groundBands_L4b (nF : Nat) (K4 : Int32 → Int32 → St → Option (Int32 × St)) (x1 : Int32) (x2 : Int32) (s1 : St) : Option (Int32 × St) :=
  if 8 ≤ x2 then
    OB (fX12_done x1 s1) fun r2 s3 =>
    some (r2, s3)
  else
    BND (64 + x2) 156 <|
    LET (x1 + (s1 1 (64 + x2).toNatClampNeg)) fun y6 =>
    LET (x2 + 1) fun y7 =>
    K4 y6 y7 s1
noncomputable def fX12_groundBands_L4 (nF : Nat) : Nat → Int32 → Int32 → St → Option (Int32 × St) := fun k => Nat.rec (fun _ _ _ => none) (fun _ K => fX12_groundBands_L4b nF K) k
theorem fX12_groundBands_L4_s (nF : Nat) (k : Nat) : fX12_groundBands_L4 nF (k + 1) = fX12_groundBands_L4b nF (fX12_groundBands_L4 nF k) := rfl
noncomputable def fX12_groundBands (nF : Nat) (s0 : St) : Option (Int32 × St) :=
  fX12_groundBands_L4 nF nF 0 0 s0
set_option maxHeartbeats 4000000 in
set_option maxRecDepth 100000 in
theorem mX12_groundBands (l : Launch) (D : va_G) (cA : Nat → ClassId) (ad a : Nat → Nat) (fr : va_W) (nF : Nat) (s0 : St) (r : Int32) (s' : St) (h : fX12_groundBands nF s0 = some (r, s')) : gMet l yX12_groundBands cX12_groundBands 3 (some .int) 1 D (TYS cA) ST0 (wm cA ad a fr s0) [.ref (a 0)] (fun A => gQi D (TYS cA) A (wm cA ad a fr) r s') := by
  refine g_ofW st0_ok (by decide) (Nat.le_of_ble_eq_true rfl) ?_
  intro p e s m args below meth c ls A G hP hD hl
  have G : GC p s m args meth c cX12_groundBands 3 RX12 (some .int) A D (TYS cA) ST0 := G
  have hx := G.1
  have hb := G.2.1
  have hS : va_S A s.heap s.heap [] := va_S.rf
  have hl : lv_has ls 3 [(0, .ref (a 0))] := hl
  have hB4 : ∀ (K4 : Int32 → Int32 → St → Option (Int32 × St)), (∀ (x1 : Int32) (x2 : Int32) (s1 : St), K4 x1 x2 s1 = some (r, s') → ∀ (H : Heap) (locs : List Loc) (ls : Array Slot), va_P D vwCl (wm cA ad a fr s1) H → va_D A (wm cA ad a fr s1) → va_S A s.heap H locs → lv_has ls 3 [(0, .ref (a 0)), (1, .int x1), (2, .int x2)] → W p l e (RM 1) s m args below meth c H locs 0 0 (MQ below (gQi D (TYS cA) A (wm cA ad a fr) r s') args s 0 0 A) (F0 m 4 ls [])) → ∀ (x1 : Int32) (x2 : Int32) (s1 : St), fX12_groundBands_L4b nF K4 x1 x2 s1 = some (r, s') → ∀ (H : Heap) (locs : List Loc) (ls : Array Slot), va_P D vwCl (wm cA ad a fr s1) H → va_D A (wm cA ad a fr s1) → va_S A s.heap H locs → lv_has ls 3 [(0, .ref (a 0)), (1, .int x1), (2, .int x2)] → W p l e (RM 1) s m args below meth c H locs 0 0 (MQ below (gQi D (TYS cA) A (wm cA ad a fr) r s') args s 0 0 A) (F0 m 4 ls []) := by
    intro K4 hK4 x1 x2 s1 h H locs ls hP hD hS hl
    unfold fX12_groundBands_L4b at h
    refine lv_iload_n hx hb dX12_groundBands_4 rfl (lv_at hl 2 rfl) ?_
    refine lv_bipush (v := 8) hx hb dX12_groundBands_5 (by decide) ?_
    refine lv_icmp_ge (tgt := 28) hx hb dX12_groundBands_7 (by decide) (fun c1 => ?_) (fun c1 => ?_)
    · replace h := it_t c1 h
      refine lv_aload_n hx hb dX12_groundBands_28 rfl (lv_at hl 0 rfl) ?_
      refine lv_iload_n hx hb dX12_groundBands_29 rfl (lv_at hl 1 rfl) ?_
      obtain ⟨r2, s3, g4, h⟩ := ob_e h
      refine g_callVi (nA := 1) (mX12_done l D cA ad a fr x1 s1 r2 s3 g4) G hP hD hS (g_good q8_16 q8_18 qs_28 q1_16 q8_19) (by decide +kernel) (by decide) (by decide) sh12_0 rfl rfl hl.1 [] rfl (Nat.le_of_ble_eq_true rfl) dX12_groundBands_30 (fun H locs hP hD hS => ?_)
      exact g_ret G hP hD hS h rfl dX12_groundBands_33
    · replace h := it_f c1 h
      refine lv_iload_n hx hb dX12_groundBands_10 rfl (lv_at hl 1 rfl) ?_
      refine lv_aload_n hx hb dX12_groundBands_11 rfl (lv_at hl 0 rfl) ?_
      refine gf12_g G hP dX12_groundBands_12 ?_
      refine lv_bipush (v := 64) hx hb dX12_groundBands_15 (by decide) ?_
      refine lv_iload_n hx hb dX12_groundBands_17 rfl (lv_at hl 2 rfl) ?_
      refine lv_iadd hx hb dX12_groundBands_18 ?_
      obtain ⟨b5, h⟩ := bnd_e h
      refine al12_1 G hP b5 dX12_groundBands_19 ?_
      refine lv_iadd hx hb dX12_groundBands_20 ?_
      refine lv_topi (fun y6 ey6 => ?_)
      replace h := let_e ey6 h
      refine lv_istore_n (lv' := [(1, .int y6), (0, .ref (a 0)), (2, .int x2)]) hx hb dX12_groundBands_21 rfl hl (by decide) rfl (fun ls hl => ?_)
      obtain ⟨y7, ey7⟩ : ∃ y : Int32, y = x2 + 1 := ⟨_, rfl⟩
      replace h := let_e ey7 h
      refine lv_iinc (v := y7) (lv' := [(2, .int y7), (1, .int y6), (0, .ref (a 0))]) hx hb dX12_groundBands_22 hl (k := 2) rfl (by rw [ey7]; rfl) (by decide) rfl (fun ls hl => ?_)
      refine lv_goto (tgt := 4) hx hb dX12_groundBands_25 (by decide) ?_
      exact hK4 y6 y7 s1 h H _ ls hP hD hS (lv_sub hl [2, 1, 0] rfl)
  have hL4 : ∀ k : Nat, ∀ (x1 : Int32) (x2 : Int32) (s1 : St), fX12_groundBands_L4 nF k x1 x2 s1 = some (r, s') → ∀ (H : Heap) (locs : List Loc) (ls : Array Slot), va_P D vwCl (wm cA ad a fr s1) H → va_D A (wm cA ad a fr s1) → va_S A s.heap H locs → lv_has ls 3 [(0, .ref (a 0)), (1, .int x1), (2, .int x2)] → W p l e (RM 1) s m args below meth c H locs 0 0 (MQ below (gQi D (TYS cA) A (wm cA ad a fr) r s') args s 0 0 A) (F0 m 4 ls []) := by
    intro k
    induction k with
    | zero => intro x1 x2 s1 h; cases h
    | succ k ih => exact hB4 (fX12_groundBands_L4 nF k) ih
  unfold fX12_groundBands at h
  refine lv_iconst (v := 0) hx hb dX12_groundBands_0 (by decide) ?_
  refine lv_istore_n (lv' := [(1, .int 0), (0, .ref (a 0))]) hx hb dX12_groundBands_1 rfl hl (by decide) rfl (fun ls hl => ?_)
  refine lv_iconst (v := 0) hx hb dX12_groundBands_2 (by decide) ?_
  refine lv_istore_n (lv' := [(2, .int 0), (1, .int 0), (0, .ref (a 0))]) hx hb dX12_groundBands_3 rfl hl (by decide) rfl (fun ls hl => ?_)
  exact hL4 nF 0 0 s0 h _ _ ls hP hD hS (lv_sub hl [2, 1, 0] rfl)
def fX12_flour (p1 : Int32) (s0 : St) : Option (Int32 × St) :=
  OB (fX12_isGrade p1 s0) fun r1 s2 =>
  if r1 = 0 then
    OB (fX12_fails 1 s2) fun r5 s6 =>
    some (r5, s6)
  else
    BND (28 + p1) 156 <|
    OB (fX12_done (s2 1 (28 + p1).toNatClampNeg) s2) fun r9 s10 =>
    some (r9, s10)
set_option maxHeartbeats 4000000 in
set_option maxRecDepth 100000 in
theorem mX12_flour (l : Launch) (D : va_G) (cA : Nat → ClassId) (ad a : Nat → Nat) (fr : va_W) (p1 : Int32) (s0 : St) (r : Int32) (s' : St) (h : fX12_flour p1 s0 = some (r, s')) : gMet l yX12_flour cX12_flour 2 (some .int) 2 D (TYS cA) ST0 (wm cA ad a fr s0) [.ref (a 0), .int p1] (fun A => gQi D (TYS cA) A (wm cA ad a fr) r s') := by
  refine g_ofW st0_ok (by decide) (Nat.le_of_ble_eq_true rfl) ?_
  intro p e s m args below meth c ls A G hP hD hl
  have G : GC p s m args meth c cX12_flour 2 RX12 (some .int) A D (TYS cA) ST0 := G
  have hx := G.1
  have hb := G.2.1
  have hS : va_S A s.heap s.heap [] := va_S.rf
  have hl : lv_has ls 2 [(0, .ref (a 0)), (1, .int p1)] := hl
  unfold fX12_flour at h
  refine lv_iload_n hx hb dX12_flour_0 rfl (lv_at hl 1 rfl) ?_
  obtain ⟨r1, s2, g3, h⟩ := ob_e h
  refine g_callSi (nA := 1) (mX12_isGrade l D cA ad a fr p1 s0 r1 s2 g3) G hP hD hS (g_goodS q8_83 q8_84 q1_16 q8_85) (by decide +kernel) (by decide) rfl hl.1 [] rfl (Nat.le_of_ble_eq_true rfl) dX12_flour_1 (fun H locs hP hD hS => ?_)
  refine lv_if_eq (tgt := 23) hx hb dX12_flour_4 (by decide) (fun c4 => ?_) (fun c4 => ?_)
  · replace h := it_t c4 h
    refine lv_aload_n hx hb dX12_flour_23 rfl (lv_at hl 0 rfl) ?_
    refine lv_iconst (v := 1) hx hb dX12_flour_24 (by decide) ?_
    obtain ⟨r5, s6, g7, h⟩ := ob_e h
    refine g_callVi (nA := 1) (mX12_fails l D cA ad a fr 1 s2 r5 s6 g7) G hP hD hS (g_good q8_0 q8_2 qs_24 q1_16 q8_3) (by decide +kernel) (by decide) (by decide) sh12_0 rfl rfl hl.1 [] rfl (Nat.le_of_ble_eq_true rfl) dX12_flour_25 (fun H locs hP hD hS => ?_)
    exact g_ret G hP hD hS h rfl dX12_flour_28
  · replace h := it_f c4 h
    refine lv_aload_n hx hb dX12_flour_7 rfl (lv_at hl 0 rfl) ?_
    refine lv_aload_n hx hb dX12_flour_8 rfl (lv_at hl 0 rfl) ?_
    refine gf12_g G hP dX12_flour_9 ?_
    refine lv_bipush (v := 28) hx hb dX12_flour_12 (by decide) ?_
    refine lv_iload_n hx hb dX12_flour_14 rfl (lv_at hl 1 rfl) ?_
    refine lv_iadd hx hb dX12_flour_15 ?_
    obtain ⟨b8, h⟩ := bnd_e h
    refine al12_1 G hP b8 dX12_flour_16 ?_
    obtain ⟨r9, s10, g11, h⟩ := ob_e h
    refine g_callVi (nA := 1) (mX12_done l D cA ad a fr (s2 1 (28 + p1).toNatClampNeg) s2 r9 s10 g11) G hP hD hS (g_good q8_16 q8_18 qs_28 q1_16 q8_19) (by decide +kernel) (by decide) (by decide) sh12_0 rfl rfl hl.1 [] rfl (Nat.le_of_ble_eq_true rfl) dX12_flour_17 (fun H locs hP hD hS => ?_)
    refine lv_goto (tgt := 28) hx hb dX12_flour_20 (by decide) ?_
    exact g_ret G hP hD hS h rfl dX12_flour_28
def fX12_flourByRecords (p1 : Int32) (s0 : St) : Option (Int32 × St) :=
  OB (fX12_flour p1 s0) fun r1 s2 =>
  some (r1, s2)
set_option maxHeartbeats 4000000 in
set_option maxRecDepth 100000 in
theorem mX12_flourByRecords (l : Launch) (D : va_G) (cA : Nat → ClassId) (ad a : Nat → Nat) (fr : va_W) (p1 : Int32) (s0 : St) (r : Int32) (s' : St) (h : fX12_flourByRecords p1 s0 = some (r, s')) : gMet l yX12_flourByRecords cX12_flourByRecords 2 (some .int) 3 D (TYS cA) ST0 (wm cA ad a fr s0) [.ref (a 0), .int p1] (fun A => gQi D (TYS cA) A (wm cA ad a fr) r s') := by
  refine g_ofW st0_ok (by decide) (Nat.le_of_ble_eq_true rfl) ?_
  intro p e s m args below meth c ls A G hP hD hl
  have G : GC p s m args meth c cX12_flourByRecords 2 RX12 (some .int) A D (TYS cA) ST0 := G
  have hx := G.1
  have hb := G.2.1
  have hS : va_S A s.heap s.heap [] := va_S.rf
  have hl : lv_has ls 2 [(0, .ref (a 0)), (1, .int p1)] := hl
  unfold fX12_flourByRecords at h
  refine lv_aload_n hx hb dX12_flourByRecords_0 rfl (lv_at hl 0 rfl) ?_
  refine lv_iload_n hx hb dX12_flourByRecords_1 rfl (lv_at hl 1 rfl) ?_
  obtain ⟨r1, s2, g3, h⟩ := ob_e h
  refine g_callVi (nA := 1) (mX12_flour l D cA ad a fr p1 s0 r1 s2 g3) G hP hD hS (g_good q8_214 q8_207 q8_208 q1_16 q8_209) (by decide +kernel) (by decide) (by decide) sh12_0 rfl rfl hl.1 [] rfl (Nat.le_of_ble_eq_true rfl) dX12_flourByRecords_2 (fun H locs hP hD hS => ?_)
  exact g_ret G hP hD hS h rfl dX12_flourByRecords_5
def fX12_fullSacks (p1 : Int32) (s0 : St) : Option (Int32 × St) :=
  OB (fX12_isGrade p1 s0) fun r1 s2 =>
  if r1 = 0 then
    OB (fX12_fails 1 s2) fun r5 s6 =>
    some (r5, s6)
  else
    BND (28 + p1) 156 <|
    OB (fX12_done ((s2 1 (28 + p1).toNatClampNeg) / 20) s2) fun r9 s10 =>
    some (r9, s10)
set_option maxHeartbeats 4000000 in
set_option maxRecDepth 100000 in
theorem mX12_fullSacks (l : Launch) (D : va_G) (cA : Nat → ClassId) (ad a : Nat → Nat) (fr : va_W) (p1 : Int32) (s0 : St) (r : Int32) (s' : St) (h : fX12_fullSacks p1 s0 = some (r, s')) : gMet l yX12_fullSacks cX12_fullSacks 2 (some .int) 2 D (TYS cA) ST0 (wm cA ad a fr s0) [.ref (a 0), .int p1] (fun A => gQi D (TYS cA) A (wm cA ad a fr) r s') := by
  refine g_ofW st0_ok (by decide) (Nat.le_of_ble_eq_true rfl) ?_
  intro p e s m args below meth c ls A G hP hD hl
  have G : GC p s m args meth c cX12_fullSacks 2 RX12 (some .int) A D (TYS cA) ST0 := G
  have hx := G.1
  have hb := G.2.1
  have hS : va_S A s.heap s.heap [] := va_S.rf
  have hl : lv_has ls 2 [(0, .ref (a 0)), (1, .int p1)] := hl
  unfold fX12_fullSacks at h
  refine lv_iload_n hx hb dX12_fullSacks_0 rfl (lv_at hl 1 rfl) ?_
  obtain ⟨r1, s2, g3, h⟩ := ob_e h
  refine g_callSi (nA := 1) (mX12_isGrade l D cA ad a fr p1 s0 r1 s2 g3) G hP hD hS (g_goodS q8_83 q8_84 q1_16 q8_85) (by decide +kernel) (by decide) rfl hl.1 [] rfl (Nat.le_of_ble_eq_true rfl) dX12_fullSacks_1 (fun H locs hP hD hS => ?_)
  refine lv_if_eq (tgt := 26) hx hb dX12_fullSacks_4 (by decide) (fun c4 => ?_) (fun c4 => ?_)
  · replace h := it_t c4 h
    refine lv_aload_n hx hb dX12_fullSacks_26 rfl (lv_at hl 0 rfl) ?_
    refine lv_iconst (v := 1) hx hb dX12_fullSacks_27 (by decide) ?_
    obtain ⟨r5, s6, g7, h⟩ := ob_e h
    refine g_callVi (nA := 1) (mX12_fails l D cA ad a fr 1 s2 r5 s6 g7) G hP hD hS (g_good q8_0 q8_2 qs_24 q1_16 q8_3) (by decide +kernel) (by decide) (by decide) sh12_0 rfl rfl hl.1 [] rfl (Nat.le_of_ble_eq_true rfl) dX12_fullSacks_28 (fun H locs hP hD hS => ?_)
    exact g_ret G hP hD hS h rfl dX12_fullSacks_31
  · replace h := it_f c4 h
    refine lv_aload_n hx hb dX12_fullSacks_7 rfl (lv_at hl 0 rfl) ?_
    refine lv_aload_n hx hb dX12_fullSacks_8 rfl (lv_at hl 0 rfl) ?_
    refine gf12_g G hP dX12_fullSacks_9 ?_
    refine lv_bipush (v := 28) hx hb dX12_fullSacks_12 (by decide) ?_
    refine lv_iload_n hx hb dX12_fullSacks_14 rfl (lv_at hl 1 rfl) ?_
    refine lv_iadd hx hb dX12_fullSacks_15 ?_
    obtain ⟨b8, h⟩ := bnd_e h
    refine al12_1 G hP b8 dX12_fullSacks_16 ?_
    refine lv_bipush (v := 20) hx hb dX12_fullSacks_17 (by decide) ?_
    refine lv_idiv hx hb dX12_fullSacks_19 (by decide) ?_
    obtain ⟨r9, s10, g11, h⟩ := ob_e h
    refine g_callVi (nA := 1) (mX12_done l D cA ad a fr ((s2 1 (28 + p1).toNatClampNeg) / 20) s2 r9 s10 g11) G hP hD hS (g_good q8_16 q8_18 qs_28 q1_16 q8_19) (by decide +kernel) (by decide) (by decide) sh12_0 rfl rfl hl.1 [] rfl (Nat.le_of_ble_eq_true rfl) dX12_fullSacks_20 (fun H locs hP hD hS => ?_)
    refine lv_goto (tgt := 31) hx hb dX12_fullSacks_23 (by decide) ?_
    exact g_ret G hP hD hS h rfl dX12_fullSacks_31
def fX12_openSack (p1 : Int32) (s0 : St) : Option (Int32 × St) :=
  OB (fX12_isGrade p1 s0) fun r1 s2 =>
  if r1 = 0 then
    OB (fX12_fails 1 s2) fun r5 s6 =>
    some (r5, s6)
  else
    BND (28 + p1) 156 <|
    OB (fX12_done ((s2 1 (28 + p1).toNatClampNeg) - (s2 1 (28 + p1).toNatClampNeg) / 20 * 20) s2) fun r9 s10 =>
    some (r9, s10)
set_option maxHeartbeats 4000000 in
set_option maxRecDepth 100000 in
theorem mX12_openSack (l : Launch) (D : va_G) (cA : Nat → ClassId) (ad a : Nat → Nat) (fr : va_W) (p1 : Int32) (s0 : St) (r : Int32) (s' : St) (h : fX12_openSack p1 s0 = some (r, s')) : gMet l yX12_openSack cX12_openSack 2 (some .int) 2 D (TYS cA) ST0 (wm cA ad a fr s0) [.ref (a 0), .int p1] (fun A => gQi D (TYS cA) A (wm cA ad a fr) r s') := by
  refine g_ofW st0_ok (by decide) (Nat.le_of_ble_eq_true rfl) ?_
  intro p e s m args below meth c ls A G hP hD hl
  have G : GC p s m args meth c cX12_openSack 2 RX12 (some .int) A D (TYS cA) ST0 := G
  have hx := G.1
  have hb := G.2.1
  have hS : va_S A s.heap s.heap [] := va_S.rf
  have hl : lv_has ls 2 [(0, .ref (a 0)), (1, .int p1)] := hl
  unfold fX12_openSack at h
  refine lv_iload_n hx hb dX12_openSack_0 rfl (lv_at hl 1 rfl) ?_
  obtain ⟨r1, s2, g3, h⟩ := ob_e h
  refine g_callSi (nA := 1) (mX12_isGrade l D cA ad a fr p1 s0 r1 s2 g3) G hP hD hS (g_goodS q8_83 q8_84 q1_16 q8_85) (by decide +kernel) (by decide) rfl hl.1 [] rfl (Nat.le_of_ble_eq_true rfl) dX12_openSack_1 (fun H locs hP hD hS => ?_)
  refine lv_if_eq (tgt := 26) hx hb dX12_openSack_4 (by decide) (fun c4 => ?_) (fun c4 => ?_)
  · replace h := it_t c4 h
    refine lv_aload_n hx hb dX12_openSack_26 rfl (lv_at hl 0 rfl) ?_
    refine lv_iconst (v := 1) hx hb dX12_openSack_27 (by decide) ?_
    obtain ⟨r5, s6, g7, h⟩ := ob_e h
    refine g_callVi (nA := 1) (mX12_fails l D cA ad a fr 1 s2 r5 s6 g7) G hP hD hS (g_good q8_0 q8_2 qs_24 q1_16 q8_3) (by decide +kernel) (by decide) (by decide) sh12_0 rfl rfl hl.1 [] rfl (Nat.le_of_ble_eq_true rfl) dX12_openSack_28 (fun H locs hP hD hS => ?_)
    exact g_ret G hP hD hS h rfl dX12_openSack_31
  · replace h := it_f c4 h
    refine lv_aload_n hx hb dX12_openSack_7 rfl (lv_at hl 0 rfl) ?_
    refine lv_aload_n hx hb dX12_openSack_8 rfl (lv_at hl 0 rfl) ?_
    refine gf12_g G hP dX12_openSack_9 ?_
    refine lv_bipush (v := 28) hx hb dX12_openSack_12 (by decide) ?_
    refine lv_iload_n hx hb dX12_openSack_14 rfl (lv_at hl 1 rfl) ?_
    refine lv_iadd hx hb dX12_openSack_15 ?_
    obtain ⟨b8, h⟩ := bnd_e h
    refine al12_1 G hP b8 dX12_openSack_16 ?_
    refine lv_bipush (v := 20) hx hb dX12_openSack_17 (by decide) ?_
    refine lv_irem hx hb dX12_openSack_19 (by decide) ?_
    obtain ⟨r9, s10, g11, h⟩ := ob_e h
    refine g_callVi (nA := 1) (mX12_done l D cA ad a fr ((s2 1 (28 + p1).toNatClampNeg) - (s2 1 (28 + p1).toNatClampNeg) / 20 * 20) s2 r9 s10 g11) G hP hD hS (g_good q8_16 q8_18 qs_28 q1_16 q8_19) (by decide +kernel) (by decide) (by decide) sh12_0 rfl rfl hl.1 [] rfl (Nat.le_of_ble_eq_true rfl) dX12_openSack_20 (fun H locs hP hD hS => ?_)
    refine lv_goto (tgt := 31) hx hb dX12_openSack_23 (by decide) ?_
    exact g_ret G hP hD hS h rfl dX12_openSack_31
def fX12_shippedSacks (p1 : Int32) (s0 : St) : Option (Int32 × St) :=
  OB (fX12_isGrade p1 s0) fun r1 s2 =>
  if r1 = 0 then
    OB (fX12_fails 1 s2) fun r5 s6 =>
    some (r5, s6)
  else
    BND (24 + p1) 156 <|
    OB (fX12_done (s2 1 (24 + p1).toNatClampNeg) s2) fun r9 s10 =>
    some (r9, s10)
set_option maxHeartbeats 4000000 in
set_option maxRecDepth 100000 in
theorem mX12_shippedSacks (l : Launch) (D : va_G) (cA : Nat → ClassId) (ad a : Nat → Nat) (fr : va_W) (p1 : Int32) (s0 : St) (r : Int32) (s' : St) (h : fX12_shippedSacks p1 s0 = some (r, s')) : gMet l yX12_shippedSacks cX12_shippedSacks 2 (some .int) 2 D (TYS cA) ST0 (wm cA ad a fr s0) [.ref (a 0), .int p1] (fun A => gQi D (TYS cA) A (wm cA ad a fr) r s') := by
  refine g_ofW st0_ok (by decide) (Nat.le_of_ble_eq_true rfl) ?_
  intro p e s m args below meth c ls A G hP hD hl
  have G : GC p s m args meth c cX12_shippedSacks 2 RX12 (some .int) A D (TYS cA) ST0 := G
  have hx := G.1
  have hb := G.2.1
  have hS : va_S A s.heap s.heap [] := va_S.rf
  have hl : lv_has ls 2 [(0, .ref (a 0)), (1, .int p1)] := hl
  unfold fX12_shippedSacks at h
  refine lv_iload_n hx hb dX12_shippedSacks_0 rfl (lv_at hl 1 rfl) ?_
  obtain ⟨r1, s2, g3, h⟩ := ob_e h
  refine g_callSi (nA := 1) (mX12_isGrade l D cA ad a fr p1 s0 r1 s2 g3) G hP hD hS (g_goodS q8_83 q8_84 q1_16 q8_85) (by decide +kernel) (by decide) rfl hl.1 [] rfl (Nat.le_of_ble_eq_true rfl) dX12_shippedSacks_1 (fun H locs hP hD hS => ?_)
  refine lv_if_eq (tgt := 23) hx hb dX12_shippedSacks_4 (by decide) (fun c4 => ?_) (fun c4 => ?_)
  · replace h := it_t c4 h
    refine lv_aload_n hx hb dX12_shippedSacks_23 rfl (lv_at hl 0 rfl) ?_
    refine lv_iconst (v := 1) hx hb dX12_shippedSacks_24 (by decide) ?_
    obtain ⟨r5, s6, g7, h⟩ := ob_e h
    refine g_callVi (nA := 1) (mX12_fails l D cA ad a fr 1 s2 r5 s6 g7) G hP hD hS (g_good q8_0 q8_2 qs_24 q1_16 q8_3) (by decide +kernel) (by decide) (by decide) sh12_0 rfl rfl hl.1 [] rfl (Nat.le_of_ble_eq_true rfl) dX12_shippedSacks_25 (fun H locs hP hD hS => ?_)
    exact g_ret G hP hD hS h rfl dX12_shippedSacks_28
  · replace h := it_f c4 h
    refine lv_aload_n hx hb dX12_shippedSacks_7 rfl (lv_at hl 0 rfl) ?_
    refine lv_aload_n hx hb dX12_shippedSacks_8 rfl (lv_at hl 0 rfl) ?_
    refine gf12_g G hP dX12_shippedSacks_9 ?_
    refine lv_bipush (v := 24) hx hb dX12_shippedSacks_12 (by decide) ?_
    refine lv_iload_n hx hb dX12_shippedSacks_14 rfl (lv_at hl 1 rfl) ?_
    refine lv_iadd hx hb dX12_shippedSacks_15 ?_
    obtain ⟨b8, h⟩ := bnd_e h
    refine al12_1 G hP b8 dX12_shippedSacks_16 ?_
    obtain ⟨r9, s10, g11, h⟩ := ob_e h
    refine g_callVi (nA := 1) (mX12_done l D cA ad a fr (s2 1 (24 + p1).toNatClampNeg) s2 r9 s10 g11) G hP hD hS (g_good q8_16 q8_18 qs_28 q1_16 q8_19) (by decide +kernel) (by decide) (by decide) sh12_0 rfl rfl hl.1 [] rfl (Nat.le_of_ble_eq_true rfl) dX12_shippedSacks_17 (fun H locs hP hD hS => ?_)
    refine lv_goto (tgt := 28) hx hb dX12_shippedSacks_20 (by decide) ?_
    exact g_ret G hP hD hS h rfl dX12_shippedSacks_28
def fX12_recorded_B34 (s1 : St) : Option (Int32 × St) :=
  OB (fX12_fails 1 s1) fun r1 s2 =>
  some (r1, s2)
def fX12_recorded (p1 : Int32) (p2 : Int32) (s0 : St) : Option (Int32 × St) :=
  OB (fX12_isBand p1 s0) fun r4 s5 =>
  if r4 = 0 then
    fX12_recorded_B34 s5
  else
    OB (fX12_isGrade p2 s5) fun r8 s9 =>
    if r8 = 0 then
      fX12_recorded_B34 s9
    else
      BND ((32 + (4 * p1)) + p2) 156 <|
      OB (fX12_done (s9 1 ((32 + (4 * p1)) + p2).toNatClampNeg) s9) fun r13 s14 =>
      some (r13, s14)
set_option maxHeartbeats 4000000 in
set_option maxRecDepth 100000 in
theorem mX12_recorded (l : Launch) (D : va_G) (cA : Nat → ClassId) (ad a : Nat → Nat) (fr : va_W) (p1 : Int32) (p2 : Int32) (s0 : St) (r : Int32) (s' : St) (h : fX12_recorded p1 p2 s0 = some (r, s')) : gMet l yX12_recorded cX12_recorded 3 (some .int) 2 D (TYS cA) ST0 (wm cA ad a fr s0) [.ref (a 0), .int p1, .int p2] (fun A => gQi D (TYS cA) A (wm cA ad a fr) r s') := by
  refine g_ofW st0_ok (by decide) (Nat.le_of_ble_eq_true rfl) ?_
  intro p e s m args below meth c ls A G hP hD hl
  have G : GC p s m args meth c cX12_recorded 3 RX12 (some .int) A D (TYS cA) ST0 := G
  have hx := G.1
  have hb := G.2.1
  have hS : va_S A s.heap s.heap [] := va_S.rf
  have hl : lv_has ls 3 [(0, .ref (a 0)), (1, .int p1), (2, .int p2)] := hl
  have hB34 : ∀ (s1 : St), fX12_recorded_B34 s1 = some (r, s') → ∀ (H : Heap) (locs : List Loc) (ls : Array Slot), va_P D vwCl (wm cA ad a fr s1) H → va_D A (wm cA ad a fr s1) → va_S A s.heap H locs → lv_has ls 3 [(0, .ref (a 0))] → W p l e (RM 2) s m args below meth c H locs 0 0 (MQ below (gQi D (TYS cA) A (wm cA ad a fr) r s') args s 0 0 A) (F0 m 34 ls []) := by
    intro s1 h H locs ls hP hD hS hl
    unfold fX12_recorded_B34 at h
    refine lv_aload_n hx hb dX12_recorded_34 rfl (lv_at hl 0 rfl) ?_
    refine lv_iconst (v := 1) hx hb dX12_recorded_35 (by decide) ?_
    obtain ⟨r1, s2, g3, h⟩ := ob_e h
    refine g_callVi (nA := 1) (mX12_fails l D cA ad a fr 1 s1 r1 s2 g3) G hP hD hS (g_good q8_0 q8_2 qs_24 q1_16 q8_3) (by decide +kernel) (by decide) (by decide) sh12_0 rfl rfl hl.1 [] rfl (Nat.le_of_ble_eq_true rfl) dX12_recorded_36 (fun H locs hP hD hS => ?_)
    exact g_ret G hP hD hS h rfl dX12_recorded_39
  unfold fX12_recorded at h
  refine lv_iload_n hx hb dX12_recorded_0 rfl (lv_at hl 1 rfl) ?_
  obtain ⟨r4, s5, g6, h⟩ := ob_e h
  refine g_callSi (nA := 1) (mX12_isBand l D cA ad a fr p1 s0 r4 s5 g6) G hP hD hS (g_goodS q7_234 q7_235 q1_16 q7_236) (by decide +kernel) (by decide) rfl hl.1 [] rfl (Nat.le_of_ble_eq_true rfl) dX12_recorded_1 (fun H locs hP hD hS => ?_)
  refine lv_if_eq (tgt := 34) hx hb dX12_recorded_4 (by decide) (fun c7 => ?_) (fun c7 => ?_)
  · replace h := it_t c7 h
    exact hB34  s5 h _ _ ls hP hD hS (lv_sub hl [0] rfl)
  · replace h := it_f c7 h
    refine lv_iload_n hx hb dX12_recorded_7 rfl (lv_at hl 2 rfl) ?_
    obtain ⟨r8, s9, g10, h⟩ := ob_e h
    refine g_callSi (nA := 1) (mX12_isGrade l D cA ad a fr p2 s5 r8 s9 g10) G hP hD hS (g_goodS q8_83 q8_84 q1_16 q8_85) (by decide +kernel) (by decide) rfl hl.1 [] rfl (Nat.le_of_ble_eq_true rfl) dX12_recorded_8 (fun H locs hP hD hS => ?_)
    refine lv_if_eq (tgt := 34) hx hb dX12_recorded_11 (by decide) (fun c11 => ?_) (fun c11 => ?_)
    · replace h := it_t c11 h
      exact hB34  s9 h _ _ ls hP hD hS (lv_sub hl [0] rfl)
    · replace h := it_f c11 h
      refine lv_aload_n hx hb dX12_recorded_14 rfl (lv_at hl 0 rfl) ?_
      refine lv_aload_n hx hb dX12_recorded_15 rfl (lv_at hl 0 rfl) ?_
      refine gf12_g G hP dX12_recorded_16 ?_
      refine lv_bipush (v := 32) hx hb dX12_recorded_19 (by decide) ?_
      refine lv_iconst (v := 4) hx hb dX12_recorded_21 (by decide) ?_
      refine lv_iload_n hx hb dX12_recorded_22 rfl (lv_at hl 1 rfl) ?_
      refine lv_imul hx hb dX12_recorded_23 ?_
      refine lv_iadd hx hb dX12_recorded_24 ?_
      refine lv_iload_n hx hb dX12_recorded_25 rfl (lv_at hl 2 rfl) ?_
      refine lv_iadd hx hb dX12_recorded_26 ?_
      obtain ⟨b12, h⟩ := bnd_e h
      refine al12_1 G hP b12 dX12_recorded_27 ?_
      obtain ⟨r13, s14, g15, h⟩ := ob_e h
      refine g_callVi (nA := 1) (mX12_done l D cA ad a fr (s9 1 ((32 + (4 * p1)) + p2).toNatClampNeg) s9 r13 s14 g15) G hP hD hS (g_good q8_16 q8_18 qs_28 q1_16 q8_19) (by decide +kernel) (by decide) (by decide) sh12_0 rfl rfl hl.1 [] rfl (Nat.le_of_ble_eq_true rfl) dX12_recorded_28 (fun H locs hP hD hS => ?_)
      refine lv_goto (tgt := 39) hx hb dX12_recorded_31 (by decide) ?_
      exact g_ret G hP hD hS h rfl dX12_recorded_39
def fX12_groundTotal (s0 : St) : Option (Int32 × St) :=
  BND 3 156 <|
  OB (fX12_done (s0 1 (3 : Int32).toNatClampNeg) s0) fun r2 s3 =>
  some (r2, s3)
set_option maxHeartbeats 4000000 in
set_option maxRecDepth 100000 in
theorem mX12_groundTotal (l : Launch) (D : va_G) (cA : Nat → ClassId) (ad a : Nat → Nat) (fr : va_W) (s0 : St) (r : Int32) (s' : St) (h : fX12_groundTotal s0 = some (r, s')) : gMet l yX12_groundTotal cX12_groundTotal 1 (some .int) 1 D (TYS cA) ST0 (wm cA ad a fr s0) [.ref (a 0)] (fun A => gQi D (TYS cA) A (wm cA ad a fr) r s') := by
  refine g_ofW st0_ok (by decide) (Nat.le_of_ble_eq_true rfl) ?_
  intro p e s m args below meth c ls A G hP hD hl
  have G : GC p s m args meth c cX12_groundTotal 1 RX12 (some .int) A D (TYS cA) ST0 := G
  have hx := G.1
  have hb := G.2.1
  have hS : va_S A s.heap s.heap [] := va_S.rf
  have hl : lv_has ls 1 [(0, .ref (a 0))] := hl
  unfold fX12_groundTotal at h
  refine lv_aload_n hx hb dX12_groundTotal_0 rfl (lv_at hl 0 rfl) ?_
  refine lv_aload_n hx hb dX12_groundTotal_1 rfl (lv_at hl 0 rfl) ?_
  refine gf12_g G hP dX12_groundTotal_2 ?_
  refine lv_iconst (v := 3) hx hb dX12_groundTotal_5 (by decide) ?_
  obtain ⟨b1, h⟩ := bnd_e h
  refine al12_1 G hP b1 dX12_groundTotal_6 ?_
  obtain ⟨r2, s3, g4, h⟩ := ob_e h
  refine g_callVi (nA := 1) (mX12_done l D cA ad a fr (s0 1 (3 : Int32).toNatClampNeg) s0 r2 s3 g4) G hP hD hS (g_good q8_16 q8_18 qs_28 q1_16 q8_19) (by decide +kernel) (by decide) (by decide) sh12_0 rfl rfl hl.1 [] rfl (Nat.le_of_ble_eq_true rfl) dX12_groundTotal_7 (fun H locs hP hD hS => ?_)
  exact g_ret G hP hD hS h rfl dX12_groundTotal_10
def fX12_groundByParts (s0 : St) : Option (Int32 × St) :=
  BND 3 156 <|
  OB (fX12_done (s0 1 (3 : Int32).toNatClampNeg) s0) fun r2 s3 =>
  some (r2, s3)
set_option maxHeartbeats 4000000 in
set_option maxRecDepth 100000 in
theorem mX12_groundByParts (l : Launch) (D : va_G) (cA : Nat → ClassId) (ad a : Nat → Nat) (fr : va_W) (s0 : St) (r : Int32) (s' : St) (h : fX12_groundByParts s0 = some (r, s')) : gMet l yX12_groundByParts cX12_groundByParts 1 (some .int) 1 D (TYS cA) ST0 (wm cA ad a fr s0) [.ref (a 0)] (fun A => gQi D (TYS cA) A (wm cA ad a fr) r s') := by
  refine g_ofW st0_ok (by decide) (Nat.le_of_ble_eq_true rfl) ?_
  intro p e s m args below meth c ls A G hP hD hl
  have G : GC p s m args meth c cX12_groundByParts 1 RX12 (some .int) A D (TYS cA) ST0 := G
  have hx := G.1
  have hb := G.2.1
  have hS : va_S A s.heap s.heap [] := va_S.rf
  have hl : lv_has ls 1 [(0, .ref (a 0))] := hl
  unfold fX12_groundByParts at h
  refine lv_aload_n hx hb dX12_groundByParts_0 rfl (lv_at hl 0 rfl) ?_
  refine lv_aload_n hx hb dX12_groundByParts_1 rfl (lv_at hl 0 rfl) ?_
  refine gf12_g G hP dX12_groundByParts_2 ?_
  refine lv_iconst (v := 3) hx hb dX12_groundByParts_5 (by decide) ?_
  obtain ⟨b1, h⟩ := bnd_e h
  refine al12_1 G hP b1 dX12_groundByParts_6 ?_
  obtain ⟨r2, s3, g4, h⟩ := ob_e h
  refine g_callVi (nA := 1) (mX12_done l D cA ad a fr (s0 1 (3 : Int32).toNatClampNeg) s0 r2 s3 g4) G hP hD hS (g_good q8_16 q8_18 qs_28 q1_16 q8_19) (by decide +kernel) (by decide) (by decide) sh12_0 rfl rfl hl.1 [] rfl (Nat.le_of_ble_eq_true rfl) dX12_groundByParts_7 (fun H locs hP hD hS => ?_)
  exact g_ret G hP hD hS h rfl dX12_groundByParts_10
def fX12_lostInSieves (s0 : St) : Option (Int32 × St) :=
  BND 4 156 <|
  OB (fX12_done (s0 1 (4 : Int32).toNatClampNeg) s0) fun r2 s3 =>
  some (r2, s3)
set_option maxHeartbeats 4000000 in
set_option maxRecDepth 100000 in
theorem mX12_lostInSieves (l : Launch) (D : va_G) (cA : Nat → ClassId) (ad a : Nat → Nat) (fr : va_W) (s0 : St) (r : Int32) (s' : St) (h : fX12_lostInSieves s0 = some (r, s')) : gMet l yX12_lostInSieves cX12_lostInSieves 1 (some .int) 1 D (TYS cA) ST0 (wm cA ad a fr s0) [.ref (a 0)] (fun A => gQi D (TYS cA) A (wm cA ad a fr) r s') := by
  refine g_ofW st0_ok (by decide) (Nat.le_of_ble_eq_true rfl) ?_
  intro p e s m args below meth c ls A G hP hD hl
  have G : GC p s m args meth c cX12_lostInSieves 1 RX12 (some .int) A D (TYS cA) ST0 := G
  have hx := G.1
  have hb := G.2.1
  have hS : va_S A s.heap s.heap [] := va_S.rf
  have hl : lv_has ls 1 [(0, .ref (a 0))] := hl
  unfold fX12_lostInSieves at h
  refine lv_aload_n hx hb dX12_lostInSieves_0 rfl (lv_at hl 0 rfl) ?_
  refine lv_aload_n hx hb dX12_lostInSieves_1 rfl (lv_at hl 0 rfl) ?_
  refine gf12_g G hP dX12_lostInSieves_2 ?_
  refine lv_iconst (v := 4) hx hb dX12_lostInSieves_5 (by decide) ?_
  obtain ⟨b1, h⟩ := bnd_e h
  refine al12_1 G hP b1 dX12_lostInSieves_6 ?_
  obtain ⟨r2, s3, g4, h⟩ := ob_e h
  refine g_callVi (nA := 1) (mX12_done l D cA ad a fr (s0 1 (4 : Int32).toNatClampNeg) s0 r2 s3 g4) G hP hD hS (g_good q8_16 q8_18 qs_28 q1_16 q8_19) (by decide +kernel) (by decide) (by decide) sh12_0 rfl rfl hl.1 [] rfl (Nat.le_of_ble_eq_true rfl) dX12_lostInSieves_7 (fun H locs hP hD hS => ?_)
  exact g_ret G hP hD hS h rfl dX12_lostInSieves_10
def fX12_lostForRoom (s0 : St) : Option (Int32 × St) :=
  BND 5 156 <|
  OB (fX12_done (s0 1 (5 : Int32).toNatClampNeg) s0) fun r2 s3 =>
  some (r2, s3)
set_option maxHeartbeats 4000000 in
set_option maxRecDepth 100000 in
theorem mX12_lostForRoom (l : Launch) (D : va_G) (cA : Nat → ClassId) (ad a : Nat → Nat) (fr : va_W) (s0 : St) (r : Int32) (s' : St) (h : fX12_lostForRoom s0 = some (r, s')) : gMet l yX12_lostForRoom cX12_lostForRoom 1 (some .int) 1 D (TYS cA) ST0 (wm cA ad a fr s0) [.ref (a 0)] (fun A => gQi D (TYS cA) A (wm cA ad a fr) r s') := by
  refine g_ofW st0_ok (by decide) (Nat.le_of_ble_eq_true rfl) ?_
  intro p e s m args below meth c ls A G hP hD hl
  have G : GC p s m args meth c cX12_lostForRoom 1 RX12 (some .int) A D (TYS cA) ST0 := G
  have hx := G.1
  have hb := G.2.1
  have hS : va_S A s.heap s.heap [] := va_S.rf
  have hl : lv_has ls 1 [(0, .ref (a 0))] := hl
  unfold fX12_lostForRoom at h
  refine lv_aload_n hx hb dX12_lostForRoom_0 rfl (lv_at hl 0 rfl) ?_
  refine lv_aload_n hx hb dX12_lostForRoom_1 rfl (lv_at hl 0 rfl) ?_
  refine gf12_g G hP dX12_lostForRoom_2 ?_
  refine lv_iconst (v := 5) hx hb dX12_lostForRoom_5 (by decide) ?_
  obtain ⟨b1, h⟩ := bnd_e h
  refine al12_1 G hP b1 dX12_lostForRoom_6 ?_
  obtain ⟨r2, s3, g4, h⟩ := ob_e h
  refine g_callVi (nA := 1) (mX12_done l D cA ad a fr (s0 1 (5 : Int32).toNatClampNeg) s0 r2 s3 g4) G hP hD hS (g_good q8_16 q8_18 qs_28 q1_16 q8_19) (by decide +kernel) (by decide) (by decide) sh12_0 rfl rfl hl.1 [] rfl (Nat.le_of_ble_eq_true rfl) dX12_lostForRoom_7 (fun H locs hP hD hS => ?_)
  exact g_ret G hP hD hS h rfl dX12_lostForRoom_10
noncomputable def fX12_stepsFor (nF : Nat) (p1 : Int32) (s0 : St) : Option (Int32 × St) :=
  BND (13 + p1) 156 <|
  OB (fX12_placeOf nF ((s0 1 (13 + p1).toNatClampNeg) - 1) s0) fun r2 s3 =>
  BND (7 + p1) 156 <|
  LET (s3 1 (7 + p1).toNatClampNeg) fun y6 =>
  BND (117 + r2) 156 <|
  NZ (2 * y6) <|
  LET ((((s3 1 (117 + r2).toNatClampNeg) + (2 * y6)) - 1) / (2 * y6)) fun y9 =>
  BND (10 + p1) 156 <|
  if 12 ≤ ((s3 1 (10 + p1).toNatClampNeg) + ((y9 - 1) * y6)) then
    some ((-1), s3)
  else
    some (y9, s3)
set_option maxHeartbeats 4000000 in
set_option maxRecDepth 100000 in
theorem mX12_stepsFor (l : Launch) (D : va_G) (cA : Nat → ClassId) (ad a : Nat → Nat) (fr : va_W) (nF : Nat) (p1 : Int32) (s0 : St) (r : Int32) (s' : St) (h : fX12_stepsFor nF p1 s0 = some (r, s')) : gMet l yX12_stepsFor cX12_stepsFor 5 (some .int) 1 D (TYS cA) ST0 (wm cA ad a fr s0) [.ref (a 0), .int p1] (fun A => gQi D (TYS cA) A (wm cA ad a fr) r s') := by
  refine g_ofW st0_ok (by decide) (Nat.le_of_ble_eq_true rfl) ?_
  intro p e s m args below meth c ls A G hP hD hl
  have G : GC p s m args meth c cX12_stepsFor 5 RX12 (some .int) A D (TYS cA) ST0 := G
  have hx := G.1
  have hb := G.2.1
  have hS : va_S A s.heap s.heap [] := va_S.rf
  have hl : lv_has ls 5 [(0, .ref (a 0)), (1, .int p1)] := hl
  unfold fX12_stepsFor at h
  refine lv_aload_n hx hb dX12_stepsFor_0 rfl (lv_at hl 0 rfl) ?_
  refine lv_aload_n hx hb dX12_stepsFor_1 rfl (lv_at hl 0 rfl) ?_
  refine gf12_g G hP dX12_stepsFor_2 ?_
  refine lv_bipush (v := 13) hx hb dX12_stepsFor_5 (by decide) ?_
  refine lv_iload_n hx hb dX12_stepsFor_7 rfl (lv_at hl 1 rfl) ?_
  refine lv_iadd hx hb dX12_stepsFor_8 ?_
  obtain ⟨b1, h⟩ := bnd_e h
  refine al12_1 G hP b1 dX12_stepsFor_9 ?_
  refine lv_iconst (v := 1) hx hb dX12_stepsFor_10 (by decide) ?_
  refine lv_isub hx hb dX12_stepsFor_11 ?_
  obtain ⟨r2, s3, g4, h⟩ := ob_e h
  refine g_callVi (nA := 1) (mX12_placeOf l D cA ad a fr nF ((s0 1 (13 + p1).toNatClampNeg) - 1) s0 r2 s3 g4) G hP hD hS (g_good q8_32 q8_34 qs_31 q1_16 q8_35) (by decide +kernel) (by decide) (by decide) sh12_0 rfl rfl hl.1 [] rfl (Nat.le_of_ble_eq_true rfl) dX12_stepsFor_12 (fun H locs hP hD hS => ?_)
  refine lv_istore_n (lv' := [(2, .int r2), (0, .ref (a 0)), (1, .int p1)]) hx hb dX12_stepsFor_15 rfl hl (by decide) rfl (fun ls hl => ?_)
  refine lv_aload_n hx hb dX12_stepsFor_16 rfl (lv_at hl 1 rfl) ?_
  refine gf12_g G hP dX12_stepsFor_17 ?_
  refine lv_bipush (v := 7) hx hb dX12_stepsFor_20 (by decide) ?_
  refine lv_iload_n hx hb dX12_stepsFor_22 rfl (lv_at hl 2 rfl) ?_
  refine lv_iadd hx hb dX12_stepsFor_23 ?_
  obtain ⟨b5, h⟩ := bnd_e h
  refine al12_1 G hP b5 dX12_stepsFor_24 ?_
  refine lv_topi (fun y6 ey6 => ?_)
  replace h := let_e ey6 h
  refine lv_istore_n (lv' := [(3, .int y6), (2, .int r2), (0, .ref (a 0)), (1, .int p1)]) hx hb dX12_stepsFor_25 rfl hl (by decide) rfl (fun ls hl => ?_)
  refine lv_aload_n hx hb dX12_stepsFor_26 rfl (lv_at hl 2 rfl) ?_
  refine gf12_g G hP dX12_stepsFor_27 ?_
  refine lv_bipush (v := 117) hx hb dX12_stepsFor_30 (by decide) ?_
  refine lv_iload_n hx hb dX12_stepsFor_32 rfl (lv_at hl 1 rfl) ?_
  refine lv_iadd hx hb dX12_stepsFor_33 ?_
  obtain ⟨b7, h⟩ := bnd_e h
  refine al12_1 G hP b7 dX12_stepsFor_34 ?_
  refine lv_iconst (v := 2) hx hb dX12_stepsFor_35 (by decide) ?_
  refine lv_iload_n hx hb dX12_stepsFor_36 rfl (lv_at hl 0 rfl) ?_
  refine lv_imul hx hb dX12_stepsFor_37 ?_
  refine lv_iadd hx hb dX12_stepsFor_38 ?_
  refine lv_iconst (v := 1) hx hb dX12_stepsFor_39 (by decide) ?_
  refine lv_isub hx hb dX12_stepsFor_40 ?_
  refine lv_iconst (v := 2) hx hb dX12_stepsFor_41 (by decide) ?_
  refine lv_iload_n hx hb dX12_stepsFor_42 rfl (lv_at hl 0 rfl) ?_
  refine lv_imul hx hb dX12_stepsFor_43 ?_
  obtain ⟨nz8, h⟩ := nz_e h
  refine lv_idiv hx hb dX12_stepsFor_44 nz8 ?_
  refine lv_topi (fun y9 ey9 => ?_)
  replace h := let_e ey9 h
  refine lv_istore (lv' := [(4, .int y9), (3, .int y6), (2, .int r2), (0, .ref (a 0)), (1, .int p1)]) hx hb dX12_stepsFor_45 hl (by decide) rfl (fun ls hl => ?_)
  refine lv_aload_n hx hb dX12_stepsFor_47 rfl (lv_at hl 3 rfl) ?_
  refine gf12_g G hP dX12_stepsFor_48 ?_
  refine lv_bipush (v := 10) hx hb dX12_stepsFor_51 (by decide) ?_
  refine lv_iload_n hx hb dX12_stepsFor_53 rfl (lv_at hl 4 rfl) ?_
  refine lv_iadd hx hb dX12_stepsFor_54 ?_
  obtain ⟨b10, h⟩ := bnd_e h
  refine al12_1 G hP b10 dX12_stepsFor_55 ?_
  refine lv_iload hx hb dX12_stepsFor_56 (lv_at hl 0 rfl) ?_
  refine lv_iconst (v := 1) hx hb dX12_stepsFor_58 (by decide) ?_
  refine lv_isub hx hb dX12_stepsFor_59 ?_
  refine lv_iload_n hx hb dX12_stepsFor_60 rfl (lv_at hl 1 rfl) ?_
  refine lv_imul hx hb dX12_stepsFor_61 ?_
  refine lv_iadd hx hb dX12_stepsFor_62 ?_
  refine lv_bipush (v := 12) hx hb dX12_stepsFor_63 (by decide) ?_
  refine lv_icmp_ge (tgt := 73) hx hb dX12_stepsFor_65 (by decide) (fun c11 => ?_) (fun c11 => ?_)
  · replace h := it_t c11 h
    refine lv_iconst (v := (-1)) hx hb dX12_stepsFor_73 (by decide) ?_
    exact g_ret G hP hD hS h rfl dX12_stepsFor_74
  · replace h := it_f c11 h
    refine lv_iload hx hb dX12_stepsFor_68 (lv_at hl 0 rfl) ?_
    refine lv_goto (tgt := 74) hx hb dX12_stepsFor_70 (by decide) ?_
    exact g_ret G hP hD hS h rfl dX12_stepsFor_74
noncomputable def fX12_stepsUntilDone_B34 (nF : Nat) (z0 : Int32) (s1 : St) : Option (Int32 × St) :=
  if z0 = ((-1)) then
    OB (fX12_fails 2 s1) fun r5 s6 =>
    some (r5, s6)
  else
    OB (fX12_done z0 s1) fun r2 s3 =>
    some (r2, s3)
noncomputable def fX12_stepsUntilDone (nF : Nat) (p1 : Int32) (s0 : St) : Option (Int32 × St) :=
  OB (fX12_isWheel p1 s0) fun r8 s9 =>
  if r8 = 0 then
    OB (fX12_fails 1 s9) fun r17 s18 =>
    some (r17, s18)
  else
    BND (13 + p1) 156 <|
    if (s9 1 (13 + p1).toNatClampNeg) = 0 then
      fX12_stepsUntilDone_B34 nF ((-1)) s9
    else
      OB (fX12_stepsFor nF p1 s9) fun r14 s15 =>
      fX12_stepsUntilDone_B34 nF r14 s15
set_option maxHeartbeats 4000000 in
set_option maxRecDepth 100000 in
theorem mX12_stepsUntilDone (l : Launch) (D : va_G) (cA : Nat → ClassId) (ad a : Nat → Nat) (fr : va_W) (nF : Nat) (p1 : Int32) (s0 : St) (r : Int32) (s' : St) (h : fX12_stepsUntilDone nF p1 s0 = some (r, s')) : gMet l yX12_stepsUntilDone cX12_stepsUntilDone 3 (some .int) 2 D (TYS cA) ST0 (wm cA ad a fr s0) [.ref (a 0), .int p1] (fun A => gQi D (TYS cA) A (wm cA ad a fr) r s') := by
  refine g_ofW st0_ok (by decide) (Nat.le_of_ble_eq_true rfl) ?_
  intro p e s m args below meth c ls A G hP hD hl
  have G : GC p s m args meth c cX12_stepsUntilDone 3 RX12 (some .int) A D (TYS cA) ST0 := G
  have hx := G.1
  have hb := G.2.1
  have hS : va_S A s.heap s.heap [] := va_S.rf
  have hl : lv_has ls 3 [(0, .ref (a 0)), (1, .int p1)] := hl
  have hB34 : ∀ (z0 : Int32) (s1 : St), fX12_stepsUntilDone_B34 nF z0 s1 = some (r, s') → ∀ (H : Heap) (locs : List Loc) (ls : Array Slot), va_P D vwCl (wm cA ad a fr s1) H → va_D A (wm cA ad a fr s1) → va_S A s.heap H locs → lv_has ls 3 [(0, .ref (a 0))] → W p l e (RM 2) s m args below meth c H locs 0 0 (MQ below (gQi D (TYS cA) A (wm cA ad a fr) r s') args s 0 0 A) (F0 m 34 ls [.int z0]) := by
    intro z0 s1 h H locs ls hP hD hS hl
    unfold fX12_stepsUntilDone_B34 at h
    refine lv_istore_n (lv' := [(2, .int z0), (0, .ref (a 0))]) hx hb dX12_stepsUntilDone_34 rfl hl (by decide) rfl (fun ls hl => ?_)
    refine lv_iload_n hx hb dX12_stepsUntilDone_35 rfl (lv_at hl 0 rfl) ?_
    refine lv_iconst (v := (-1)) hx hb dX12_stepsUntilDone_36 (by decide) ?_
    refine lv_icmp_ne (tgt := 48) hx hb dX12_stepsUntilDone_37 (by decide) (fun c1 => ?_) (fun c1 => ?_)
    · replace h := it_f c1 h
      refine lv_aload_n hx hb dX12_stepsUntilDone_48 rfl (lv_at hl 1 rfl) ?_
      refine lv_iload_n hx hb dX12_stepsUntilDone_49 rfl (lv_at hl 0 rfl) ?_
      obtain ⟨r2, s3, g4, h⟩ := ob_e h
      refine g_callVi (nA := 1) (mX12_done l D cA ad a fr z0 s1 r2 s3 g4) G hP hD hS (g_good q8_16 q8_18 qs_28 q1_16 q8_19) (by decide +kernel) (by decide) (by decide) sh12_0 rfl rfl hl.1 [] rfl (Nat.le_of_ble_eq_true rfl) dX12_stepsUntilDone_50 (fun H locs hP hD hS => ?_)
      exact g_ret G hP hD hS h rfl dX12_stepsUntilDone_53
    · replace h := it_t c1 h
      refine lv_aload_n hx hb dX12_stepsUntilDone_40 rfl (lv_at hl 1 rfl) ?_
      refine lv_iconst (v := 2) hx hb dX12_stepsUntilDone_41 (by decide) ?_
      obtain ⟨r5, s6, g7, h⟩ := ob_e h
      refine g_callVi (nA := 1) (mX12_fails l D cA ad a fr 2 s1 r5 s6 g7) G hP hD hS (g_good q8_0 q8_2 qs_24 q1_16 q8_3) (by decide +kernel) (by decide) (by decide) sh12_0 rfl rfl hl.1 [] rfl (Nat.le_of_ble_eq_true rfl) dX12_stepsUntilDone_42 (fun H locs hP hD hS => ?_)
      refine lv_goto (tgt := 53) hx hb dX12_stepsUntilDone_45 (by decide) ?_
      exact g_ret G hP hD hS h rfl dX12_stepsUntilDone_53
  unfold fX12_stepsUntilDone at h
  refine lv_iload_n hx hb dX12_stepsUntilDone_0 rfl (lv_at hl 1 rfl) ?_
  obtain ⟨r8, s9, g10, h⟩ := ob_e h
  refine g_callSi (nA := 1) (mX12_isWheel l D cA ad a fr p1 s0 r8 s9 g10) G hP hD hS (g_goodS q8_48 q8_49 q1_16 q8_50) (by decide +kernel) (by decide) rfl hl.1 [] rfl (Nat.le_of_ble_eq_true rfl) dX12_stepsUntilDone_1 (fun H locs hP hD hS => ?_)
  refine lv_if_ne (tgt := 13) hx hb dX12_stepsUntilDone_4 (by decide) (fun c11 => ?_) (fun c11 => ?_)
  · replace h := it_f c11 h
    refine lv_aload_n hx hb dX12_stepsUntilDone_13 rfl (lv_at hl 0 rfl) ?_
    refine gf12_g G hP dX12_stepsUntilDone_14 ?_
    refine lv_bipush (v := 13) hx hb dX12_stepsUntilDone_17 (by decide) ?_
    refine lv_iload_n hx hb dX12_stepsUntilDone_19 rfl (lv_at hl 1 rfl) ?_
    refine lv_iadd hx hb dX12_stepsUntilDone_20 ?_
    obtain ⟨b12, h⟩ := bnd_e h
    refine al12_1 G hP b12 dX12_stepsUntilDone_21 ?_
    refine lv_if_ne (tgt := 29) hx hb dX12_stepsUntilDone_22 (by decide) (fun c13 => ?_) (fun c13 => ?_)
    · replace h := it_f c13 h
      refine lv_aload_n hx hb dX12_stepsUntilDone_29 rfl (lv_at hl 0 rfl) ?_
      refine lv_iload_n hx hb dX12_stepsUntilDone_30 rfl (lv_at hl 1 rfl) ?_
      obtain ⟨r14, s15, g16, h⟩ := ob_e h
      refine g_callVi (nA := 1) (mX12_stepsFor l D cA ad a fr nF p1 s9 r14 s15 g16) G hP hD hS (g_good q9_11 q9_13 qs_50 q1_16 q9_14) (by decide +kernel) (by decide) (by decide) sh12_0 rfl rfl hl.1 [] rfl (Nat.le_of_ble_eq_true rfl) dX12_stepsUntilDone_31 (fun H locs hP hD hS => ?_)
      exact hB34 r14 s15 h _ _ ls hP hD hS (lv_sub hl [0] rfl)
    · replace h := it_t c13 h
      refine lv_iconst (v := (-1)) hx hb dX12_stepsUntilDone_25 (by decide) ?_
      refine lv_goto (tgt := 34) hx hb dX12_stepsUntilDone_26 (by decide) ?_
      exact hB34 ((-1)) s9 h _ _ ls hP hD hS (lv_sub hl [0] rfl)
  · replace h := it_t c11 h
    refine lv_aload_n hx hb dX12_stepsUntilDone_7 rfl (lv_at hl 0 rfl) ?_
    refine lv_iconst (v := 1) hx hb dX12_stepsUntilDone_8 (by decide) ?_
    obtain ⟨r17, s18, g19, h⟩ := ob_e h
    refine g_callVi (nA := 1) (mX12_fails l D cA ad a fr 1 s9 r17 s18 g19) G hP hD hS (g_good q8_0 q8_2 qs_24 q1_16 q8_3) (by decide +kernel) (by decide) (by decide) sh12_0 rfl rfl hl.1 [] rfl (Nat.le_of_ble_eq_true rfl) dX12_stepsUntilDone_9 (fun H locs hP hD hS => ?_)
    exact g_ret G hP hD hS h rfl dX12_stepsUntilDone_12
noncomputable def fX12_stepsUntilDoneByRate (nF : Nat) (p1 : Int32) (s0 : St) : Option (Int32 × St) :=
  OB (fX12_stepsUntilDone nF p1 s0) fun r1 s2 =>
  some (r1, s2)
set_option maxHeartbeats 4000000 in
set_option maxRecDepth 100000 in
theorem mX12_stepsUntilDoneByRate (l : Launch) (D : va_G) (cA : Nat → ClassId) (ad a : Nat → Nat) (fr : va_W) (nF : Nat) (p1 : Int32) (s0 : St) (r : Int32) (s' : St) (h : fX12_stepsUntilDoneByRate nF p1 s0 = some (r, s')) : gMet l yX12_stepsUntilDoneByRate cX12_stepsUntilDoneByRate 2 (some .int) 3 D (TYS cA) ST0 (wm cA ad a fr s0) [.ref (a 0), .int p1] (fun A => gQi D (TYS cA) A (wm cA ad a fr) r s') := by
  refine g_ofW st0_ok (by decide) (Nat.le_of_ble_eq_true rfl) ?_
  intro p e s m args below meth c ls A G hP hD hl
  have G : GC p s m args meth c cX12_stepsUntilDoneByRate 2 RX12 (some .int) A D (TYS cA) ST0 := G
  have hx := G.1
  have hb := G.2.1
  have hS : va_S A s.heap s.heap [] := va_S.rf
  have hl : lv_has ls 2 [(0, .ref (a 0)), (1, .int p1)] := hl
  unfold fX12_stepsUntilDoneByRate at h
  refine lv_aload_n hx hb dX12_stepsUntilDoneByRate_0 rfl (lv_at hl 0 rfl) ?_
  refine lv_iload_n hx hb dX12_stepsUntilDoneByRate_1 rfl (lv_at hl 1 rfl) ?_
  obtain ⟨r1, s2, g3, h⟩ := ob_e h
  refine g_callVi (nA := 1) (mX12_stepsUntilDone l D cA ad a fr nF p1 s0 r1 s2 g3) G hP hD hS (g_good q9_19 q9_8 q9_9 q1_16 q9_10) (by decide +kernel) (by decide) (by decide) sh12_0 rfl rfl hl.1 [] rfl (Nat.le_of_ble_eq_true rfl) dX12_stepsUntilDoneByRate_2 (fun H locs hP hD hS => ?_)
  exact g_ret G hP hD hS h rfl dX12_stepsUntilDoneByRate_5
noncomputable def fX12_stepsUntilJam_B58 (nF : Nat) (x2 : Int32) (s1 : St) : Option (Int32 × St) :=
  OB (fX12_copy nF 3 156 1 156 0 0 s1) fun r1 s2 =>
  if x2 ≤ 60 then
    OB (fX12_done x2 s2) fun r5 s6 =>
    some (r5, s6)
  else
    OB (fX12_fails 2 s2) fun r8 s9 =>
    some (r8, s9)
noncomputable def fX12_stepsUntilJam_L28b (nF : Nat) (K28 : Int32 → Int32 → St → Option (Int32 × St)) (x1 : Int32) (x2 : Int32) (s1 : St) : Option (Int32 × St) :=
  if 60 < x2 then
    fX12_stepsUntilJam_B58 nF x2 s1
  else
    BND (10 + x1) 156 <|
    if 12 ≤ (s1 1 (10 + x1).toNatClampNeg) then
      fX12_stepsUntilJam_B58 nF x2 s1
    else
      OB (fX12_step nF s1) fun r14 s15 =>
      LET (x2 + 1) fun y17 =>
      K28 x1 y17 s15
noncomputable def fX12_stepsUntilJam_L28 (nF : Nat) : Nat → Int32 → Int32 → St → Option (Int32 × St) := fun k => Nat.rec (fun _ _ _ => none) (fun _ K => fX12_stepsUntilJam_L28b nF K) k
theorem fX12_stepsUntilJam_L28_s (nF : Nat) (k : Nat) : fX12_stepsUntilJam_L28 nF (k + 1) = fX12_stepsUntilJam_L28b nF (fX12_stepsUntilJam_L28 nF k) := rfl
noncomputable def fX12_stepsUntilJam (nF : Nat) (p1 : Int32) (s0 : St) : Option (Int32 × St) :=
  OB (fX12_isWheel p1 s0) fun r18 s19 =>
  if r18 = 0 then
    OB (fX12_fails 1 s19) fun r25 s26 =>
    some (r25, s26)
  else
    OB (fX12_copy nF 1 156 3 156 0 0 s19) fun r22 s23 =>
    fX12_stepsUntilJam_L28 nF nF p1 0 s23
set_option maxHeartbeats 4000000 in
set_option maxRecDepth 100000 in
theorem mX12_stepsUntilJam (l : Launch) (D : va_G) (cA : Nat → ClassId) (ad a : Nat → Nat) (fr : va_W) (nF : Nat) (p1 : Int32) (s0 : St) (r : Int32) (s' : St) (h : fX12_stepsUntilJam nF p1 s0 = some (r, s')) : gMet l yX12_stepsUntilJam cX12_stepsUntilJam 3 (some .int) 6 D (TYS cA) ST0 (wm cA ad a fr s0) [.ref (a 0), .int p1] (fun A => gQi D (TYS cA) A (wm cA ad a fr) r s') := by
  refine g_ofW st0_ok (by decide) (Nat.le_of_ble_eq_true rfl) ?_
  intro p e s m args below meth c ls A G hP hD hl
  have G : GC p s m args meth c cX12_stepsUntilJam 3 RX12 (some .int) A D (TYS cA) ST0 := G
  have hx := G.1
  have hb := G.2.1
  have hS : va_S A s.heap s.heap [] := va_S.rf
  have hl : lv_has ls 3 [(0, .ref (a 0)), (1, .int p1)] := hl
  have hB58 : ∀ (x2 : Int32) (s1 : St), fX12_stepsUntilJam_B58 nF x2 s1 = some (r, s') → ∀ (H : Heap) (locs : List Loc) (ls : Array Slot), va_P D vwCl (wm cA ad a fr s1) H → va_D A (wm cA ad a fr s1) → va_S A s.heap H locs → lv_has ls 3 [(0, .ref (a 0)), (2, .int x2)] → W p l e (RM 6) s m args below meth c H locs 0 0 (MQ below (gQi D (TYS cA) A (wm cA ad a fr) r s') args s 0 0 A) (F0 m 58 ls []) := by
    intro x2 s1 h H locs ls hP hD hS hl
    unfold fX12_stepsUntilJam_B58 at h
    refine lv_aload_n hx hb dX12_stepsUntilJam_58 rfl (lv_at hl 0 rfl) ?_
    refine gf12_ahead G hP dX12_stepsUntilJam_59 ?_
    refine lv_iconst (v := 0) hx hb dX12_stepsUntilJam_62 (by decide) ?_
    refine lv_aload_n hx hb dX12_stepsUntilJam_63 rfl (lv_at hl 0 rfl) ?_
    refine gf12_g G hP dX12_stepsUntilJam_64 ?_
    refine lv_iconst (v := 0) hx hb dX12_stepsUntilJam_67 (by decide) ?_
    obtain ⟨r1, s2, g3, h⟩ := ob_e h
    refine g_callSv (nA := 4) (mX12_copy l D cA ad a fr nF 3 156 1 156 (by decide) sh12_3 (by decide) sh12_1 0 0 s1 r1 s2 g3) G hP hD hS (g_goodS q7_227 q7_228 q1_16 q7_229) (by decide +kernel) (by decide) rfl hl.1 [] rfl (Nat.le_of_ble_eq_true rfl) dX12_stepsUntilJam_68 (fun H locs hP hD hS => ?_)
    refine lv_iload_n hx hb dX12_stepsUntilJam_71 rfl (lv_at hl 1 rfl) ?_
    refine lv_bipush (v := 60) hx hb dX12_stepsUntilJam_72 (by decide) ?_
    refine lv_icmp_le (tgt := 85) hx hb dX12_stepsUntilJam_74 (by decide) (fun c4 => ?_) (fun c4 => ?_)
    · replace h := it_t c4 h
      refine lv_aload_n hx hb dX12_stepsUntilJam_85 rfl (lv_at hl 0 rfl) ?_
      refine lv_iload_n hx hb dX12_stepsUntilJam_86 rfl (lv_at hl 1 rfl) ?_
      obtain ⟨r5, s6, g7, h⟩ := ob_e h
      refine g_callVi (nA := 1) (mX12_done l D cA ad a fr x2 s2 r5 s6 g7) G hP hD hS (g_good q8_16 q8_18 qs_28 q1_16 q8_19) (by decide +kernel) (by decide) (by decide) sh12_0 rfl rfl hl.1 [] rfl (Nat.le_of_ble_eq_true rfl) dX12_stepsUntilJam_87 (fun H locs hP hD hS => ?_)
      exact g_ret G hP hD hS h rfl dX12_stepsUntilJam_90
    · replace h := it_f c4 h
      refine lv_aload_n hx hb dX12_stepsUntilJam_77 rfl (lv_at hl 0 rfl) ?_
      refine lv_iconst (v := 2) hx hb dX12_stepsUntilJam_78 (by decide) ?_
      obtain ⟨r8, s9, g10, h⟩ := ob_e h
      refine g_callVi (nA := 1) (mX12_fails l D cA ad a fr 2 s2 r8 s9 g10) G hP hD hS (g_good q8_0 q8_2 qs_24 q1_16 q8_3) (by decide +kernel) (by decide) (by decide) sh12_0 rfl rfl hl.1 [] rfl (Nat.le_of_ble_eq_true rfl) dX12_stepsUntilJam_79 (fun H locs hP hD hS => ?_)
      refine lv_goto (tgt := 90) hx hb dX12_stepsUntilJam_82 (by decide) ?_
      exact g_ret G hP hD hS h rfl dX12_stepsUntilJam_90
  have hB28 : ∀ (K28 : Int32 → Int32 → St → Option (Int32 × St)), (∀ (x1 : Int32) (x2 : Int32) (s1 : St), K28 x1 x2 s1 = some (r, s') → ∀ (H : Heap) (locs : List Loc) (ls : Array Slot), va_P D vwCl (wm cA ad a fr s1) H → va_D A (wm cA ad a fr s1) → va_S A s.heap H locs → lv_has ls 3 [(0, .ref (a 0)), (1, .int x1), (2, .int x2)] → W p l e (RM 6) s m args below meth c H locs 0 0 (MQ below (gQi D (TYS cA) A (wm cA ad a fr) r s') args s 0 0 A) (F0 m 28 ls [])) → ∀ (x1 : Int32) (x2 : Int32) (s1 : St), fX12_stepsUntilJam_L28b nF K28 x1 x2 s1 = some (r, s') → ∀ (H : Heap) (locs : List Loc) (ls : Array Slot), va_P D vwCl (wm cA ad a fr s1) H → va_D A (wm cA ad a fr s1) → va_S A s.heap H locs → lv_has ls 3 [(0, .ref (a 0)), (1, .int x1), (2, .int x2)] → W p l e (RM 6) s m args below meth c H locs 0 0 (MQ below (gQi D (TYS cA) A (wm cA ad a fr) r s') args s 0 0 A) (F0 m 28 ls []) := by
    intro K28 hK28 x1 x2 s1 h H locs ls hP hD hS hl
    unfold fX12_stepsUntilJam_L28b at h
    refine lv_iload_n hx hb dX12_stepsUntilJam_28 rfl (lv_at hl 2 rfl) ?_
    refine lv_bipush (v := 60) hx hb dX12_stepsUntilJam_29 (by decide) ?_
    refine lv_icmp_gt (tgt := 58) hx hb dX12_stepsUntilJam_31 (by decide) (fun c11 => ?_) (fun c11 => ?_)
    · replace h := it_t c11 h
      exact hB58 x2 s1 h H _ ls hP hD hS (lv_sub hl [0, 2] rfl)
    · replace h := it_f c11 h
      refine lv_aload_n hx hb dX12_stepsUntilJam_34 rfl (lv_at hl 0 rfl) ?_
      refine gf12_g G hP dX12_stepsUntilJam_35 ?_
      refine lv_bipush (v := 10) hx hb dX12_stepsUntilJam_38 (by decide) ?_
      refine lv_iload_n hx hb dX12_stepsUntilJam_40 rfl (lv_at hl 1 rfl) ?_
      refine lv_iadd hx hb dX12_stepsUntilJam_41 ?_
      obtain ⟨b12, h⟩ := bnd_e h
      refine al12_1 G hP b12 dX12_stepsUntilJam_42 ?_
      refine lv_bipush (v := 12) hx hb dX12_stepsUntilJam_43 (by decide) ?_
      refine lv_icmp_ge (tgt := 58) hx hb dX12_stepsUntilJam_45 (by decide) (fun c13 => ?_) (fun c13 => ?_)
      · replace h := it_t c13 h
        exact hB58 x2 s1 h H _ ls hP hD hS (lv_sub hl [0, 2] rfl)
      · replace h := it_f c13 h
        refine lv_aload_n hx hb dX12_stepsUntilJam_48 rfl (lv_at hl 0 rfl) ?_
        obtain ⟨r14, s15, g16, h⟩ := ob_e h
        refine g_callVv (nA := 0) (mX12_step l D cA ad a fr nF s1 r14 s15 g16) G hP hD hS (g_good q8_94 q8_96 qs_39 q1_16 q8_97) (by decide +kernel) (by decide) (by decide) sh12_0 rfl rfl hl.1 [] rfl (Nat.le_of_ble_eq_true rfl) dX12_stepsUntilJam_49 (fun H locs hP hD hS => ?_)
        obtain ⟨y17, ey17⟩ : ∃ y : Int32, y = x2 + 1 := ⟨_, rfl⟩
        replace h := let_e ey17 h
        refine lv_iinc (v := y17) (lv' := [(2, .int y17), (0, .ref (a 0)), (1, .int x1)]) hx hb dX12_stepsUntilJam_52 hl (k := 2) rfl (by rw [ey17]; rfl) (by decide) rfl (fun ls hl => ?_)
        refine lv_goto (tgt := 28) hx hb dX12_stepsUntilJam_55 (by decide) ?_
        exact hK28 x1 y17 s15 h H _ ls hP hD hS (lv_sub hl [1, 2, 0] rfl)
  have hL28 : ∀ k : Nat, ∀ (x1 : Int32) (x2 : Int32) (s1 : St), fX12_stepsUntilJam_L28 nF k x1 x2 s1 = some (r, s') → ∀ (H : Heap) (locs : List Loc) (ls : Array Slot), va_P D vwCl (wm cA ad a fr s1) H → va_D A (wm cA ad a fr s1) → va_S A s.heap H locs → lv_has ls 3 [(0, .ref (a 0)), (1, .int x1), (2, .int x2)] → W p l e (RM 6) s m args below meth c H locs 0 0 (MQ below (gQi D (TYS cA) A (wm cA ad a fr) r s') args s 0 0 A) (F0 m 28 ls []) := by
    intro k
    induction k with
    | zero => intro x1 x2 s1 h; cases h
    | succ k ih => exact hB28 (fX12_stepsUntilJam_L28 nF k) ih
  unfold fX12_stepsUntilJam at h
  refine lv_iload_n hx hb dX12_stepsUntilJam_0 rfl (lv_at hl 1 rfl) ?_
  obtain ⟨r18, s19, g20, h⟩ := ob_e h
  refine g_callSi (nA := 1) (mX12_isWheel l D cA ad a fr p1 s0 r18 s19 g20) G hP hD hS (g_goodS q8_48 q8_49 q1_16 q8_50) (by decide +kernel) (by decide) rfl hl.1 [] rfl (Nat.le_of_ble_eq_true rfl) dX12_stepsUntilJam_1 (fun H locs hP hD hS => ?_)
  refine lv_if_ne (tgt := 13) hx hb dX12_stepsUntilJam_4 (by decide) (fun c21 => ?_) (fun c21 => ?_)
  · replace h := it_f c21 h
    refine lv_aload_n hx hb dX12_stepsUntilJam_13 rfl (lv_at hl 0 rfl) ?_
    refine gf12_g G hP dX12_stepsUntilJam_14 ?_
    refine lv_iconst (v := 0) hx hb dX12_stepsUntilJam_17 (by decide) ?_
    refine lv_aload_n hx hb dX12_stepsUntilJam_18 rfl (lv_at hl 0 rfl) ?_
    refine gf12_ahead G hP dX12_stepsUntilJam_19 ?_
    refine lv_iconst (v := 0) hx hb dX12_stepsUntilJam_22 (by decide) ?_
    obtain ⟨r22, s23, g24, h⟩ := ob_e h
    refine g_callSv (nA := 4) (mX12_copy l D cA ad a fr nF 1 156 3 156 (by decide) sh12_1 (by decide) sh12_3 0 0 s19 r22 s23 g24) G hP hD hS (g_goodS q7_227 q7_228 q1_16 q7_229) (by decide +kernel) (by decide) rfl hl.1 [] rfl (Nat.le_of_ble_eq_true rfl) dX12_stepsUntilJam_23 (fun H locs hP hD hS => ?_)
    refine lv_iconst (v := 0) hx hb dX12_stepsUntilJam_26 (by decide) ?_
    refine lv_istore_n (lv' := [(2, .int 0), (0, .ref (a 0)), (1, .int p1)]) hx hb dX12_stepsUntilJam_27 rfl hl (by decide) rfl (fun ls hl => ?_)
    exact hL28 nF p1 0 s23 h _ _ ls hP hD hS (lv_sub hl [1, 2, 0] rfl)
  · replace h := it_t c21 h
    refine lv_aload_n hx hb dX12_stepsUntilJam_7 rfl (lv_at hl 0 rfl) ?_
    refine lv_iconst (v := 1) hx hb dX12_stepsUntilJam_8 (by decide) ?_
    obtain ⟨r25, s26, g27, h⟩ := ob_e h
    refine g_callVi (nA := 1) (mX12_fails l D cA ad a fr 1 s19 r25 s26 g27) G hP hD hS (g_good q8_0 q8_2 qs_24 q1_16 q8_3) (by decide +kernel) (by decide) (by decide) sh12_0 rfl rfl hl.1 [] rfl (Nat.le_of_ble_eq_true rfl) dX12_stepsUntilJam_9 (fun H locs hP hD hS => ?_)
    exact g_ret G hP hD hS h rfl dX12_stepsUntilJam_12
noncomputable def fX12_groundWithin_L31b (nF : Nat) (K31 : Int32 → Int32 → St → Option (Int32 × St)) (x1 : Int32) (x2 : Int32) (s1 : St) : Option (Int32 × St) :=
  if x1 ≤ x2 then
    BND 3 156 <|
    LET (s1 1 (3 : Int32).toNatClampNeg) fun y3 =>
    OB (fX12_copy nF 3 156 1 156 0 0 s1) fun r4 s5 =>
    BND 3 156 <|
    OB (fX12_done (y3 - (s5 1 (3 : Int32).toNatClampNeg)) s5) fun r8 s9 =>
    some (r8, s9)
  else
    OB (fX12_step nF s1) fun r11 s12 =>
    LET (x2 + 1) fun y14 =>
    K31 x1 y14 s12
noncomputable def fX12_groundWithin_L31 (nF : Nat) : Nat → Int32 → Int32 → St → Option (Int32 × St) := fun k => Nat.rec (fun _ _ _ => none) (fun _ K => fX12_groundWithin_L31b nF K) k
theorem fX12_groundWithin_L31_s (nF : Nat) (k : Nat) : fX12_groundWithin_L31 nF (k + 1) = fX12_groundWithin_L31b nF (fX12_groundWithin_L31 nF k) := rfl
noncomputable def fX12_groundWithin (nF : Nat) (p1 : Int32) (s0 : St) : Option (Int32 × St) :=
  OB (fX12_in p1 0 60 s0) fun r15 s16 =>
  if r15 = 0 then
    OB (fX12_fails 1 s16) fun r22 s23 =>
    some (r22, s23)
  else
    OB (fX12_copy nF 1 156 3 156 0 0 s16) fun r19 s20 =>
    fX12_groundWithin_L31 nF nF p1 0 s20
set_option maxHeartbeats 4000000 in
set_option maxRecDepth 100000 in
theorem mX12_groundWithin (l : Launch) (D : va_G) (cA : Nat → ClassId) (ad a : Nat → Nat) (fr : va_W) (nF : Nat) (p1 : Int32) (s0 : St) (r : Int32) (s' : St) (h : fX12_groundWithin nF p1 s0 = some (r, s')) : gMet l yX12_groundWithin cX12_groundWithin 3 (some .int) 6 D (TYS cA) ST0 (wm cA ad a fr s0) [.ref (a 0), .int p1] (fun A => gQi D (TYS cA) A (wm cA ad a fr) r s') := by
  refine g_ofW st0_ok (by decide) (Nat.le_of_ble_eq_true rfl) ?_
  intro p e s m args below meth c ls A G hP hD hl
  have G : GC p s m args meth c cX12_groundWithin 3 RX12 (some .int) A D (TYS cA) ST0 := G
  have hx := G.1
  have hb := G.2.1
  have hS : va_S A s.heap s.heap [] := va_S.rf
  have hl : lv_has ls 3 [(0, .ref (a 0)), (1, .int p1)] := hl
  have hB31 : ∀ (K31 : Int32 → Int32 → St → Option (Int32 × St)), (∀ (x1 : Int32) (x2 : Int32) (s1 : St), K31 x1 x2 s1 = some (r, s') → ∀ (H : Heap) (locs : List Loc) (ls : Array Slot), va_P D vwCl (wm cA ad a fr s1) H → va_D A (wm cA ad a fr s1) → va_S A s.heap H locs → lv_has ls 3 [(0, .ref (a 0)), (1, .int x1), (2, .int x2)] → W p l e (RM 6) s m args below meth c H locs 0 0 (MQ below (gQi D (TYS cA) A (wm cA ad a fr) r s') args s 0 0 A) (F0 m 31 ls [])) → ∀ (x1 : Int32) (x2 : Int32) (s1 : St), fX12_groundWithin_L31b nF K31 x1 x2 s1 = some (r, s') → ∀ (H : Heap) (locs : List Loc) (ls : Array Slot), va_P D vwCl (wm cA ad a fr s1) H → va_D A (wm cA ad a fr s1) → va_S A s.heap H locs → lv_has ls 3 [(0, .ref (a 0)), (1, .int x1), (2, .int x2)] → W p l e (RM 6) s m args below meth c H locs 0 0 (MQ below (gQi D (TYS cA) A (wm cA ad a fr) r s') args s 0 0 A) (F0 m 31 ls []) := by
    intro K31 hK31 x1 x2 s1 h H locs ls hP hD hS hl
    unfold fX12_groundWithin_L31b at h
    refine lv_iload_n hx hb dX12_groundWithin_31 rfl (lv_at hl 2 rfl) ?_
    refine lv_iload_n hx hb dX12_groundWithin_32 rfl (lv_at hl 1 rfl) ?_
    refine lv_icmp_ge (tgt := 46) hx hb dX12_groundWithin_33 (by decide) (fun c1 => ?_) (fun c1 => ?_)
    · replace h := it_t c1 h
      refine lv_aload_n hx hb dX12_groundWithin_46 rfl (lv_at hl 0 rfl) ?_
      refine gf12_g G hP dX12_groundWithin_47 ?_
      refine lv_iconst (v := 3) hx hb dX12_groundWithin_50 (by decide) ?_
      obtain ⟨b2, h⟩ := bnd_e h
      refine al12_1 G hP b2 dX12_groundWithin_51 ?_
      refine lv_topi (fun y3 ey3 => ?_)
      replace h := let_e ey3 h
      refine lv_istore_n (lv' := [(2, .int y3), (0, .ref (a 0)), (1, .int x1)]) hx hb dX12_groundWithin_52 rfl hl (by decide) rfl (fun ls hl => ?_)
      refine lv_aload_n hx hb dX12_groundWithin_53 rfl (lv_at hl 1 rfl) ?_
      refine gf12_ahead G hP dX12_groundWithin_54 ?_
      refine lv_iconst (v := 0) hx hb dX12_groundWithin_57 (by decide) ?_
      refine lv_aload_n hx hb dX12_groundWithin_58 rfl (lv_at hl 1 rfl) ?_
      refine gf12_g G hP dX12_groundWithin_59 ?_
      refine lv_iconst (v := 0) hx hb dX12_groundWithin_62 (by decide) ?_
      obtain ⟨r4, s5, g6, h⟩ := ob_e h
      refine g_callSv (nA := 4) (mX12_copy l D cA ad a fr nF 3 156 1 156 (by decide) sh12_3 (by decide) sh12_1 0 0 s1 r4 s5 g6) G hP hD hS (g_goodS q7_227 q7_228 q1_16 q7_229) (by decide +kernel) (by decide) rfl hl.1 [] rfl (Nat.le_of_ble_eq_true rfl) dX12_groundWithin_63 (fun H locs hP hD hS => ?_)
      refine lv_aload_n hx hb dX12_groundWithin_66 rfl (lv_at hl 1 rfl) ?_
      refine lv_iload_n hx hb dX12_groundWithin_67 rfl (lv_at hl 0 rfl) ?_
      refine lv_aload_n hx hb dX12_groundWithin_68 rfl (lv_at hl 1 rfl) ?_
      refine gf12_g G hP dX12_groundWithin_69 ?_
      refine lv_iconst (v := 3) hx hb dX12_groundWithin_72 (by decide) ?_
      obtain ⟨b7, h⟩ := bnd_e h
      refine al12_1 G hP b7 dX12_groundWithin_73 ?_
      refine lv_isub hx hb dX12_groundWithin_74 ?_
      obtain ⟨r8, s9, g10, h⟩ := ob_e h
      refine g_callVi (nA := 1) (mX12_done l D cA ad a fr (y3 - (s5 1 (3 : Int32).toNatClampNeg)) s5 r8 s9 g10) G hP hD hS (g_good q8_16 q8_18 qs_28 q1_16 q8_19) (by decide +kernel) (by decide) (by decide) sh12_0 rfl rfl hl.1 [] rfl (Nat.le_of_ble_eq_true rfl) dX12_groundWithin_75 (fun H locs hP hD hS => ?_)
      exact g_ret G hP hD hS h rfl dX12_groundWithin_78
    · replace h := it_f c1 h
      refine lv_aload_n hx hb dX12_groundWithin_36 rfl (lv_at hl 0 rfl) ?_
      obtain ⟨r11, s12, g13, h⟩ := ob_e h
      refine g_callVv (nA := 0) (mX12_step l D cA ad a fr nF s1 r11 s12 g13) G hP hD hS (g_good q8_94 q8_96 qs_39 q1_16 q8_97) (by decide +kernel) (by decide) (by decide) sh12_0 rfl rfl hl.1 [] rfl (Nat.le_of_ble_eq_true rfl) dX12_groundWithin_37 (fun H locs hP hD hS => ?_)
      obtain ⟨y14, ey14⟩ : ∃ y : Int32, y = x2 + 1 := ⟨_, rfl⟩
      replace h := let_e ey14 h
      refine lv_iinc (v := y14) (lv' := [(2, .int y14), (0, .ref (a 0)), (1, .int x1)]) hx hb dX12_groundWithin_40 hl (k := 2) rfl (by rw [ey14]; rfl) (by decide) rfl (fun ls hl => ?_)
      refine lv_goto (tgt := 31) hx hb dX12_groundWithin_43 (by decide) ?_
      exact hK31 x1 y14 s12 h H _ ls hP hD hS (lv_sub hl [1, 2, 0] rfl)
  have hL31 : ∀ k : Nat, ∀ (x1 : Int32) (x2 : Int32) (s1 : St), fX12_groundWithin_L31 nF k x1 x2 s1 = some (r, s') → ∀ (H : Heap) (locs : List Loc) (ls : Array Slot), va_P D vwCl (wm cA ad a fr s1) H → va_D A (wm cA ad a fr s1) → va_S A s.heap H locs → lv_has ls 3 [(0, .ref (a 0)), (1, .int x1), (2, .int x2)] → W p l e (RM 6) s m args below meth c H locs 0 0 (MQ below (gQi D (TYS cA) A (wm cA ad a fr) r s') args s 0 0 A) (F0 m 31 ls []) := by
    intro k
    induction k with
    | zero => intro x1 x2 s1 h; cases h
    | succ k ih => exact hB31 (fX12_groundWithin_L31 nF k) ih
  unfold fX12_groundWithin at h
  refine lv_iload_n hx hb dX12_groundWithin_0 rfl (lv_at hl 1 rfl) ?_
  refine lv_iconst (v := 0) hx hb dX12_groundWithin_1 (by decide) ?_
  refine lv_bipush (v := 60) hx hb dX12_groundWithin_2 (by decide) ?_
  obtain ⟨r15, s16, g17, h⟩ := ob_e h
  refine g_callSi (nA := 3) (mX12_in l D cA ad a fr p1 0 60 s0 r15 s16 g17) G hP hD hS (g_goodS q7_237 q7_238 q1_16 q7_239) (by decide +kernel) (by decide) rfl hl.1 [] rfl (Nat.le_of_ble_eq_true rfl) dX12_groundWithin_4 (fun H locs hP hD hS => ?_)
  refine lv_if_ne (tgt := 16) hx hb dX12_groundWithin_7 (by decide) (fun c18 => ?_) (fun c18 => ?_)
  · replace h := it_f c18 h
    refine lv_aload_n hx hb dX12_groundWithin_16 rfl (lv_at hl 0 rfl) ?_
    refine gf12_g G hP dX12_groundWithin_17 ?_
    refine lv_iconst (v := 0) hx hb dX12_groundWithin_20 (by decide) ?_
    refine lv_aload_n hx hb dX12_groundWithin_21 rfl (lv_at hl 0 rfl) ?_
    refine gf12_ahead G hP dX12_groundWithin_22 ?_
    refine lv_iconst (v := 0) hx hb dX12_groundWithin_25 (by decide) ?_
    obtain ⟨r19, s20, g21, h⟩ := ob_e h
    refine g_callSv (nA := 4) (mX12_copy l D cA ad a fr nF 1 156 3 156 (by decide) sh12_1 (by decide) sh12_3 0 0 s16 r19 s20 g21) G hP hD hS (g_goodS q7_227 q7_228 q1_16 q7_229) (by decide +kernel) (by decide) rfl hl.1 [] rfl (Nat.le_of_ble_eq_true rfl) dX12_groundWithin_26 (fun H locs hP hD hS => ?_)
    refine lv_iconst (v := 0) hx hb dX12_groundWithin_29 (by decide) ?_
    refine lv_istore_n (lv' := [(2, .int 0), (0, .ref (a 0)), (1, .int p1)]) hx hb dX12_groundWithin_30 rfl hl (by decide) rfl (fun ls hl => ?_)
    exact hL31 nF p1 0 s20 h _ _ ls hP hD hS (lv_sub hl [1, 2, 0] rfl)
  · replace h := it_t c18 h
    refine lv_aload_n hx hb dX12_groundWithin_10 rfl (lv_at hl 0 rfl) ?_
    refine lv_iconst (v := 1) hx hb dX12_groundWithin_11 (by decide) ?_
    obtain ⟨r22, s23, g24, h⟩ := ob_e h
    refine g_callVi (nA := 1) (mX12_fails l D cA ad a fr 1 s16 r22 s23 g24) G hP hD hS (g_good q8_0 q8_2 qs_24 q1_16 q8_3) (by decide +kernel) (by decide) (by decide) sh12_0 rfl rfl hl.1 [] rfl (Nat.le_of_ble_eq_true rfl) dX12_groundWithin_12 (fun H locs hP hD hS => ?_)
    exact g_ret G hP hD hS h rfl dX12_groundWithin_15
def fX12_doneCount (s0 : St) : Option (Int32 × St) :=
  BND 6 156 <|
  OB (fX12_done (s0 1 (6 : Int32).toNatClampNeg) s0) fun r2 s3 =>
  some (r2, s3)
set_option maxHeartbeats 4000000 in
set_option maxRecDepth 100000 in
theorem mX12_doneCount (l : Launch) (D : va_G) (cA : Nat → ClassId) (ad a : Nat → Nat) (fr : va_W) (s0 : St) (r : Int32) (s' : St) (h : fX12_doneCount s0 = some (r, s')) : gMet l yX12_doneCount cX12_doneCount 1 (some .int) 1 D (TYS cA) ST0 (wm cA ad a fr s0) [.ref (a 0)] (fun A => gQi D (TYS cA) A (wm cA ad a fr) r s') := by
  refine g_ofW st0_ok (by decide) (Nat.le_of_ble_eq_true rfl) ?_
  intro p e s m args below meth c ls A G hP hD hl
  have G : GC p s m args meth c cX12_doneCount 1 RX12 (some .int) A D (TYS cA) ST0 := G
  have hx := G.1
  have hb := G.2.1
  have hS : va_S A s.heap s.heap [] := va_S.rf
  have hl : lv_has ls 1 [(0, .ref (a 0))] := hl
  unfold fX12_doneCount at h
  refine lv_aload_n hx hb dX12_doneCount_0 rfl (lv_at hl 0 rfl) ?_
  refine lv_aload_n hx hb dX12_doneCount_1 rfl (lv_at hl 0 rfl) ?_
  refine gf12_g G hP dX12_doneCount_2 ?_
  refine lv_bipush (v := 6) hx hb dX12_doneCount_5 (by decide) ?_
  obtain ⟨b1, h⟩ := bnd_e h
  refine al12_1 G hP b1 dX12_doneCount_7 ?_
  obtain ⟨r2, s3, g4, h⟩ := ob_e h
  refine g_callVi (nA := 1) (mX12_done l D cA ad a fr (s0 1 (6 : Int32).toNatClampNeg) s0 r2 s3 g4) G hP hD hS (g_good q8_16 q8_18 qs_28 q1_16 q8_19) (by decide +kernel) (by decide) (by decide) sh12_0 rfl rfl hl.1 [] rfl (Nat.le_of_ble_eq_true rfl) dX12_doneCount_8 (fun H locs hP hD hS => ?_)
  exact g_ret G hP hD hS h rfl dX12_doneCount_11
def fX12_logNumber_B26 (x1 : Int32) (x2 : Int32) (z0 : Int32) (s1 : St) : Option (Int32 × St) :=
  if z0 = 0 then
    OB (fX12_fails 1 s1) fun r2 s3 =>
    some (r2, s3)
  else
    BND 6 156 <|
    BND (x1 + ((((s1 1 (6 : Int32).toNatClampNeg) - 1) - x2) - (((s1 1 (6 : Int32).toNatClampNeg) - 1) - x2) / 8 * 8)) 156 <|
    OB (fX12_done (s1 1 (x1 + ((((s1 1 (6 : Int32).toNatClampNeg) - 1) - x2) - (((s1 1 (6 : Int32).toNatClampNeg) - 1) - x2) / 8 * 8)).toNatClampNeg) s1) fun r7 s8 =>
    some (r7, s8)
def fX12_logNumber_B25 (x1 : Int32) (x2 : Int32) (s1 : St) : Option (Int32 × St) :=
  fX12_logNumber_B26 x1 x2 0 s1
def fX12_logNumber (p1 : Int32) (p2 : Int32) (s0 : St) : Option (Int32 × St) :=
  OB (fX12_in p2 0 7 s0) fun r10 s11 =>
  if r10 = 0 then
    fX12_logNumber_B25 p1 p2 s11
  else
    BND 6 156 <|
    if (s11 1 (6 : Int32).toNatClampNeg) ≤ p2 then
      fX12_logNumber_B25 p1 p2 s11
    else
      fX12_logNumber_B26 p1 p2 1 s11
set_option maxHeartbeats 4000000 in
set_option maxRecDepth 100000 in
theorem mX12_logNumber (l : Launch) (D : va_G) (cA : Nat → ClassId) (ad a : Nat → Nat) (fr : va_W) (p1 : Int32) (p2 : Int32) (s0 : St) (r : Int32) (s' : St) (h : fX12_logNumber p1 p2 s0 = some (r, s')) : gMet l yX12_logNumber cX12_logNumber 4 (some .int) 1 D (TYS cA) ST0 (wm cA ad a fr s0) [.ref (a 0), .int p1, .int p2] (fun A => gQi D (TYS cA) A (wm cA ad a fr) r s') := by
  refine g_ofW st0_ok (by decide) (Nat.le_of_ble_eq_true rfl) ?_
  intro p e s m args below meth c ls A G hP hD hl
  have G : GC p s m args meth c cX12_logNumber 4 RX12 (some .int) A D (TYS cA) ST0 := G
  have hx := G.1
  have hb := G.2.1
  have hS : va_S A s.heap s.heap [] := va_S.rf
  have hl : lv_has ls 4 [(0, .ref (a 0)), (1, .int p1), (2, .int p2)] := hl
  have hB26 : ∀ (x1 : Int32) (x2 : Int32) (z0 : Int32) (s1 : St), fX12_logNumber_B26 x1 x2 z0 s1 = some (r, s') → ∀ (H : Heap) (locs : List Loc) (ls : Array Slot), va_P D vwCl (wm cA ad a fr s1) H → va_D A (wm cA ad a fr s1) → va_S A s.heap H locs → lv_has ls 4 [(0, .ref (a 0)), (1, .int x1), (2, .int x2)] → W p l e (RM 1) s m args below meth c H locs 0 0 (MQ below (gQi D (TYS cA) A (wm cA ad a fr) r s') args s 0 0 A) (F0 m 26 ls [.int z0]) := by
    intro x1 x2 z0 s1 h H locs ls hP hD hS hl
    unfold fX12_logNumber_B26 at h
    refine lv_istore_n (lv' := [(3, .int z0), (0, .ref (a 0)), (1, .int x1), (2, .int x2)]) hx hb dX12_logNumber_26 rfl hl (by decide) rfl (fun ls hl => ?_)
    refine lv_iload_n hx hb dX12_logNumber_27 rfl (lv_at hl 0 rfl) ?_
    refine lv_if_eq (tgt := 59) hx hb dX12_logNumber_28 (by decide) (fun c1 => ?_) (fun c1 => ?_)
    · replace h := it_t c1 h
      refine lv_aload_n hx hb dX12_logNumber_59 rfl (lv_at hl 1 rfl) ?_
      refine lv_iconst (v := 1) hx hb dX12_logNumber_60 (by decide) ?_
      obtain ⟨r2, s3, g4, h⟩ := ob_e h
      refine g_callVi (nA := 1) (mX12_fails l D cA ad a fr 1 s1 r2 s3 g4) G hP hD hS (g_good q8_0 q8_2 qs_24 q1_16 q8_3) (by decide +kernel) (by decide) (by decide) sh12_0 rfl rfl hl.1 [] rfl (Nat.le_of_ble_eq_true rfl) dX12_logNumber_61 (fun H locs hP hD hS => ?_)
      exact g_ret G hP hD hS h rfl dX12_logNumber_64
    · replace h := it_f c1 h
      refine lv_aload_n hx hb dX12_logNumber_31 rfl (lv_at hl 1 rfl) ?_
      refine lv_aload_n hx hb dX12_logNumber_32 rfl (lv_at hl 1 rfl) ?_
      refine gf12_g G hP dX12_logNumber_33 ?_
      refine lv_iload_n hx hb dX12_logNumber_36 rfl (lv_at hl 2 rfl) ?_
      refine lv_aload_n hx hb dX12_logNumber_37 rfl (lv_at hl 1 rfl) ?_
      refine gf12_g G hP dX12_logNumber_38 ?_
      refine lv_bipush (v := 6) hx hb dX12_logNumber_41 (by decide) ?_
      obtain ⟨b5, h⟩ := bnd_e h
      refine al12_1 G hP b5 dX12_logNumber_43 ?_
      refine lv_iconst (v := 1) hx hb dX12_logNumber_44 (by decide) ?_
      refine lv_isub hx hb dX12_logNumber_45 ?_
      refine lv_iload_n hx hb dX12_logNumber_46 rfl (lv_at hl 3 rfl) ?_
      refine lv_isub hx hb dX12_logNumber_47 ?_
      refine lv_bipush (v := 8) hx hb dX12_logNumber_48 (by decide) ?_
      refine lv_irem hx hb dX12_logNumber_50 (by decide) ?_
      refine lv_iadd hx hb dX12_logNumber_51 ?_
      obtain ⟨b6, h⟩ := bnd_e h
      refine al12_1 G hP b6 dX12_logNumber_52 ?_
      obtain ⟨r7, s8, g9, h⟩ := ob_e h
      refine g_callVi (nA := 1) (mX12_done l D cA ad a fr (s1 1 (x1 + ((((s1 1 (6 : Int32).toNatClampNeg) - 1) - x2) - (((s1 1 (6 : Int32).toNatClampNeg) - 1) - x2) / 8 * 8)).toNatClampNeg) s1 r7 s8 g9) G hP hD hS (g_good q8_16 q8_18 qs_28 q1_16 q8_19) (by decide +kernel) (by decide) (by decide) sh12_0 rfl rfl hl.1 [] rfl (Nat.le_of_ble_eq_true rfl) dX12_logNumber_53 (fun H locs hP hD hS => ?_)
      refine lv_goto (tgt := 64) hx hb dX12_logNumber_56 (by decide) ?_
      exact g_ret G hP hD hS h rfl dX12_logNumber_64
  have hB25 : ∀ (x1 : Int32) (x2 : Int32) (s1 : St), fX12_logNumber_B25 x1 x2 s1 = some (r, s') → ∀ (H : Heap) (locs : List Loc) (ls : Array Slot), va_P D vwCl (wm cA ad a fr s1) H → va_D A (wm cA ad a fr s1) → va_S A s.heap H locs → lv_has ls 4 [(0, .ref (a 0)), (1, .int x1), (2, .int x2)] → W p l e (RM 1) s m args below meth c H locs 0 0 (MQ below (gQi D (TYS cA) A (wm cA ad a fr) r s') args s 0 0 A) (F0 m 25 ls []) := by
    intro x1 x2 s1 h H locs ls hP hD hS hl
    unfold fX12_logNumber_B25 at h
    refine lv_iconst (v := 0) hx hb dX12_logNumber_25 (by decide) ?_
    exact hB26 x1 x2 0 s1 h H _ ls hP hD hS (lv_sub hl [0, 1, 2] rfl)
  unfold fX12_logNumber at h
  refine lv_iload_n hx hb dX12_logNumber_0 rfl (lv_at hl 2 rfl) ?_
  refine lv_iconst (v := 0) hx hb dX12_logNumber_1 (by decide) ?_
  refine lv_bipush (v := 7) hx hb dX12_logNumber_2 (by decide) ?_
  obtain ⟨r10, s11, g12, h⟩ := ob_e h
  refine g_callSi (nA := 3) (mX12_in l D cA ad a fr p2 0 7 s0 r10 s11 g12) G hP hD hS (g_goodS q7_237 q7_238 q1_16 q7_239) (by decide +kernel) (by decide) rfl hl.1 [] rfl (Nat.le_of_ble_eq_true rfl) dX12_logNumber_4 (fun H locs hP hD hS => ?_)
  refine lv_if_eq (tgt := 25) hx hb dX12_logNumber_7 (by decide) (fun c13 => ?_) (fun c13 => ?_)
  · replace h := it_t c13 h
    exact hB25 p1 p2 s11 h _ _ ls hP hD hS (lv_sub hl [0, 1, 2] rfl)
  · replace h := it_f c13 h
    refine lv_iload_n hx hb dX12_logNumber_10 rfl (lv_at hl 2 rfl) ?_
    refine lv_aload_n hx hb dX12_logNumber_11 rfl (lv_at hl 0 rfl) ?_
    refine gf12_g G hP dX12_logNumber_12 ?_
    refine lv_bipush (v := 6) hx hb dX12_logNumber_15 (by decide) ?_
    obtain ⟨b14, h⟩ := bnd_e h
    refine al12_1 G hP b14 dX12_logNumber_17 ?_
    refine lv_icmp_ge (tgt := 25) hx hb dX12_logNumber_18 (by decide) (fun c15 => ?_) (fun c15 => ?_)
    · replace h := it_t c15 h
      exact hB25 p1 p2 s11 h _ _ ls hP hD hS (lv_sub hl [0, 1, 2] rfl)
    · replace h := it_f c15 h
      refine lv_iconst (v := 1) hx hb dX12_logNumber_21 (by decide) ?_
      refine lv_goto (tgt := 26) hx hb dX12_logNumber_22 (by decide) ?_
      exact hB26 p1 p2 1 s11 h _ _ ls hP hD hS (lv_sub hl [0, 1, 2] rfl)
def fX12_doneNumber (p1 : Int32) (s0 : St) : Option (Int32 × St) :=
  OB (fX12_logNumber 132 p1 s0) fun r1 s2 =>
  some (r1, s2)
set_option maxHeartbeats 4000000 in
set_option maxRecDepth 100000 in
theorem mX12_doneNumber (l : Launch) (D : va_G) (cA : Nat → ClassId) (ad a : Nat → Nat) (fr : va_W) (p1 : Int32) (s0 : St) (r : Int32) (s' : St) (h : fX12_doneNumber p1 s0 = some (r, s')) : gMet l yX12_doneNumber cX12_doneNumber 2 (some .int) 2 D (TYS cA) ST0 (wm cA ad a fr s0) [.ref (a 0), .int p1] (fun A => gQi D (TYS cA) A (wm cA ad a fr) r s') := by
  refine g_ofW st0_ok (by decide) (Nat.le_of_ble_eq_true rfl) ?_
  intro p e s m args below meth c ls A G hP hD hl
  have G : GC p s m args meth c cX12_doneNumber 2 RX12 (some .int) A D (TYS cA) ST0 := G
  have hx := G.1
  have hb := G.2.1
  have hS : va_S A s.heap s.heap [] := va_S.rf
  have hl : lv_has ls 2 [(0, .ref (a 0)), (1, .int p1)] := hl
  unfold fX12_doneNumber at h
  refine lv_aload_n hx hb dX12_doneNumber_0 rfl (lv_at hl 0 rfl) ?_
  refine lv_sipush (v := 132) hx hb dX12_doneNumber_1 (by decide) ?_
  refine lv_iload_n hx hb dX12_doneNumber_4 rfl (lv_at hl 1 rfl) ?_
  obtain ⟨r1, s2, g3, h⟩ := ob_e h
  refine g_callVi (nA := 2) (mX12_logNumber l D cA ad a fr 132 p1 s0 r1 s2 g3) G hP hD hS (g_good q9_36 q9_38 qs_51 q1_16 q9_39) (by decide +kernel) (by decide) (by decide) sh12_0 rfl rfl hl.1 [] rfl (Nat.le_of_ble_eq_true rfl) dX12_doneNumber_5 (fun H locs hP hD hS => ?_)
  exact g_ret G hP hD hS h rfl dX12_doneNumber_8
def fX12_doneWheel (p1 : Int32) (s0 : St) : Option (Int32 × St) :=
  OB (fX12_logNumber 140 p1 s0) fun r1 s2 =>
  some (r1, s2)
set_option maxHeartbeats 4000000 in
set_option maxRecDepth 100000 in
theorem mX12_doneWheel (l : Launch) (D : va_G) (cA : Nat → ClassId) (ad a : Nat → Nat) (fr : va_W) (p1 : Int32) (s0 : St) (r : Int32) (s' : St) (h : fX12_doneWheel p1 s0 = some (r, s')) : gMet l yX12_doneWheel cX12_doneWheel 2 (some .int) 2 D (TYS cA) ST0 (wm cA ad a fr s0) [.ref (a 0), .int p1] (fun A => gQi D (TYS cA) A (wm cA ad a fr) r s') := by
  refine g_ofW st0_ok (by decide) (Nat.le_of_ble_eq_true rfl) ?_
  intro p e s m args below meth c ls A G hP hD hl
  have G : GC p s m args meth c cX12_doneWheel 2 RX12 (some .int) A D (TYS cA) ST0 := G
  have hx := G.1
  have hb := G.2.1
  have hS : va_S A s.heap s.heap [] := va_S.rf
  have hl : lv_has ls 2 [(0, .ref (a 0)), (1, .int p1)] := hl
  unfold fX12_doneWheel at h
  refine lv_aload_n hx hb dX12_doneWheel_0 rfl (lv_at hl 0 rfl) ?_
  refine lv_sipush (v := 140) hx hb dX12_doneWheel_1 (by decide) ?_
  refine lv_iload_n hx hb dX12_doneWheel_4 rfl (lv_at hl 1 rfl) ?_
  obtain ⟨r1, s2, g3, h⟩ := ob_e h
  refine g_callVi (nA := 2) (mX12_logNumber l D cA ad a fr 140 p1 s0 r1 s2 g3) G hP hD hS (g_good q9_36 q9_38 qs_51 q1_16 q9_39) (by decide +kernel) (by decide) (by decide) sh12_0 rfl rfl hl.1 [] rfl (Nat.le_of_ble_eq_true rfl) dX12_doneWheel_5 (fun H locs hP hD hS => ?_)
  exact g_ret G hP hD hS h rfl dX12_doneWheel_8
def fX12_doneTime (p1 : Int32) (s0 : St) : Option (Int32 × St) :=
  OB (fX12_logNumber 148 p1 s0) fun r1 s2 =>
  some (r1, s2)
set_option maxHeartbeats 4000000 in
set_option maxRecDepth 100000 in
theorem mX12_doneTime (l : Launch) (D : va_G) (cA : Nat → ClassId) (ad a : Nat → Nat) (fr : va_W) (p1 : Int32) (s0 : St) (r : Int32) (s' : St) (h : fX12_doneTime p1 s0 = some (r, s')) : gMet l yX12_doneTime cX12_doneTime 2 (some .int) 2 D (TYS cA) ST0 (wm cA ad a fr s0) [.ref (a 0), .int p1] (fun A => gQi D (TYS cA) A (wm cA ad a fr) r s') := by
  refine g_ofW st0_ok (by decide) (Nat.le_of_ble_eq_true rfl) ?_
  intro p e s m args below meth c ls A G hP hD hl
  have G : GC p s m args meth c cX12_doneTime 2 RX12 (some .int) A D (TYS cA) ST0 := G
  have hx := G.1
  have hb := G.2.1
  have hS : va_S A s.heap s.heap [] := va_S.rf
  have hl : lv_has ls 2 [(0, .ref (a 0)), (1, .int p1)] := hl
  unfold fX12_doneTime at h
  refine lv_aload_n hx hb dX12_doneTime_0 rfl (lv_at hl 0 rfl) ?_
  refine lv_sipush (v := 148) hx hb dX12_doneTime_1 (by decide) ?_
  refine lv_iload_n hx hb dX12_doneTime_4 rfl (lv_at hl 1 rfl) ?_
  obtain ⟨r1, s2, g3, h⟩ := ob_e h
  refine g_callVi (nA := 2) (mX12_logNumber l D cA ad a fr 148 p1 s0 r1 s2 g3) G hP hD hS (g_good q9_36 q9_38 qs_51 q1_16 q9_39) (by decide +kernel) (by decide) (by decide) sh12_0 rfl rfl hl.1 [] rfl (Nat.le_of_ble_eq_true rfl) dX12_doneTime_5 (fun H locs hP hD hS => ?_)
  exact g_ret G hP hD hS h rfl dX12_doneTime_8
def fX12_isWheelAhead_B64 (s1 : St) : Option (Int32 × St) :=
  some (1, s1)
def fX12_isWheelAhead (p1 : Int32) (p2 : Int32) (s0 : St) : Option (Int32 × St) :=
  BND (10 + p1) 156 <|
  BND (10 + p2) 156 <|
  LET ((s0 1 (10 + p1).toNatClampNeg) - (s0 1 (10 + p2).toNatClampNeg)) fun y3 =>
  BND (7 + p1) 156 <|
  BND (7 + p2) 156 <|
  LET ((s0 1 (7 + p1).toNatClampNeg) - (s0 1 (7 + p2).toNatClampNeg)) fun y6 =>
  if 0 < y3 then
    fX12_isWheelAhead_B64 s0
  else
    if y3 = 0 then
      if 0 < y6 then
        fX12_isWheelAhead_B64 s0
      else
        if y6 = 0 then
          if p2 ≤ p1 then
            some (0, s0)
          else
            fX12_isWheelAhead_B64 s0
        else
          some (0, s0)
    else
      some (0, s0)
set_option maxHeartbeats 4000000 in
set_option maxRecDepth 100000 in
theorem mX12_isWheelAhead (l : Launch) (D : va_G) (cA : Nat → ClassId) (ad a : Nat → Nat) (fr : va_W) (p1 : Int32) (p2 : Int32) (s0 : St) (r : Int32) (s' : St) (h : fX12_isWheelAhead p1 p2 s0 = some (r, s')) : gMet l yX12_isWheelAhead cX12_isWheelAhead 5 (some .boolean) 0 D (TYS cA) ST0 (wm cA ad a fr s0) [.ref (a 0), .int p1, .int p2] (fun A => gQi D (TYS cA) A (wm cA ad a fr) r s') := by
  refine g_ofW st0_ok (by decide) (Nat.le_of_ble_eq_true rfl) ?_
  intro p e s m args below meth c ls A G hP hD hl
  have G : GC p s m args meth c cX12_isWheelAhead 5 RX12 (some .boolean) A D (TYS cA) ST0 := G
  have hx := G.1
  have hb := G.2.1
  have hS : va_S A s.heap s.heap [] := va_S.rf
  have hl : lv_has ls 5 [(0, .ref (a 0)), (1, .int p1), (2, .int p2)] := hl
  have hB64 : ∀ (s1 : St), fX12_isWheelAhead_B64 s1 = some (r, s') → ∀ (H : Heap) (locs : List Loc) (ls : Array Slot), va_P D vwCl (wm cA ad a fr s1) H → va_D A (wm cA ad a fr s1) → va_S A s.heap H locs → lv_has ls 5 [] → W p l e (RM 0) s m args below meth c H locs 0 0 (MQ below (gQi D (TYS cA) A (wm cA ad a fr) r s') args s 0 0 A) (F0 m 64 ls []) := by
    intro s1 h H locs ls hP hD hS hl
    unfold fX12_isWheelAhead_B64 at h
    refine lv_iconst (v := 1) hx hb dX12_isWheelAhead_64 (by decide) ?_
    refine lv_goto (tgt := 69) hx hb dX12_isWheelAhead_65 (by decide) ?_
    exact g_ret G hP hD hS h rfl dX12_isWheelAhead_69
  unfold fX12_isWheelAhead at h
  refine lv_aload_n hx hb dX12_isWheelAhead_0 rfl (lv_at hl 0 rfl) ?_
  refine gf12_g G hP dX12_isWheelAhead_1 ?_
  refine lv_bipush (v := 10) hx hb dX12_isWheelAhead_4 (by decide) ?_
  refine lv_iload_n hx hb dX12_isWheelAhead_6 rfl (lv_at hl 1 rfl) ?_
  refine lv_iadd hx hb dX12_isWheelAhead_7 ?_
  obtain ⟨b1, h⟩ := bnd_e h
  refine al12_1 G hP b1 dX12_isWheelAhead_8 ?_
  refine lv_aload_n hx hb dX12_isWheelAhead_9 rfl (lv_at hl 0 rfl) ?_
  refine gf12_g G hP dX12_isWheelAhead_10 ?_
  refine lv_bipush (v := 10) hx hb dX12_isWheelAhead_13 (by decide) ?_
  refine lv_iload_n hx hb dX12_isWheelAhead_15 rfl (lv_at hl 2 rfl) ?_
  refine lv_iadd hx hb dX12_isWheelAhead_16 ?_
  obtain ⟨b2, h⟩ := bnd_e h
  refine al12_1 G hP b2 dX12_isWheelAhead_17 ?_
  refine lv_isub hx hb dX12_isWheelAhead_18 ?_
  refine lv_topi (fun y3 ey3 => ?_)
  replace h := let_e ey3 h
  refine lv_istore_n (lv' := [(3, .int y3), (0, .ref (a 0)), (1, .int p1), (2, .int p2)]) hx hb dX12_isWheelAhead_19 rfl hl (by decide) rfl (fun ls hl => ?_)
  refine lv_aload_n hx hb dX12_isWheelAhead_20 rfl (lv_at hl 1 rfl) ?_
  refine gf12_g G hP dX12_isWheelAhead_21 ?_
  refine lv_bipush (v := 7) hx hb dX12_isWheelAhead_24 (by decide) ?_
  refine lv_iload_n hx hb dX12_isWheelAhead_26 rfl (lv_at hl 2 rfl) ?_
  refine lv_iadd hx hb dX12_isWheelAhead_27 ?_
  obtain ⟨b4, h⟩ := bnd_e h
  refine al12_1 G hP b4 dX12_isWheelAhead_28 ?_
  refine lv_aload_n hx hb dX12_isWheelAhead_29 rfl (lv_at hl 1 rfl) ?_
  refine gf12_g G hP dX12_isWheelAhead_30 ?_
  refine lv_bipush (v := 7) hx hb dX12_isWheelAhead_33 (by decide) ?_
  refine lv_iload_n hx hb dX12_isWheelAhead_35 rfl (lv_at hl 3 rfl) ?_
  refine lv_iadd hx hb dX12_isWheelAhead_36 ?_
  obtain ⟨b5, h⟩ := bnd_e h
  refine al12_1 G hP b5 dX12_isWheelAhead_37 ?_
  refine lv_isub hx hb dX12_isWheelAhead_38 ?_
  refine lv_topi (fun y6 ey6 => ?_)
  replace h := let_e ey6 h
  refine lv_istore (lv' := [(4, .int y6), (3, .int y3), (0, .ref (a 0)), (1, .int p1), (2, .int p2)]) hx hb dX12_isWheelAhead_39 hl (by decide) rfl (fun ls hl => ?_)
  refine lv_iload_n hx hb dX12_isWheelAhead_41 rfl (lv_at hl 1 rfl) ?_
  refine lv_if_gt (tgt := 64) hx hb dX12_isWheelAhead_42 (by decide) (fun c7 => ?_) (fun c7 => ?_)
  · replace h := it_t c7 h
    exact hB64  s0 h _ _ ls hP hD hS (lv_sub hl [] rfl)
  · replace h := it_f c7 h
    refine lv_iload_n hx hb dX12_isWheelAhead_45 rfl (lv_at hl 1 rfl) ?_
    refine lv_if_ne (tgt := 68) hx hb dX12_isWheelAhead_46 (by decide) (fun c8 => ?_) (fun c8 => ?_)
    · replace h := it_f c8 h
      refine lv_iconst (v := 0) hx hb dX12_isWheelAhead_68 (by decide) ?_
      exact g_ret G hP hD hS h rfl dX12_isWheelAhead_69
    · replace h := it_t c8 h
      refine lv_iload hx hb dX12_isWheelAhead_49 (lv_at hl 0 rfl) ?_
      refine lv_if_gt (tgt := 64) hx hb dX12_isWheelAhead_51 (by decide) (fun c9 => ?_) (fun c9 => ?_)
      · replace h := it_t c9 h
        exact hB64  s0 h _ _ ls hP hD hS (lv_sub hl [] rfl)
      · replace h := it_f c9 h
        refine lv_iload hx hb dX12_isWheelAhead_54 (lv_at hl 0 rfl) ?_
        refine lv_if_ne (tgt := 68) hx hb dX12_isWheelAhead_56 (by decide) (fun c10 => ?_) (fun c10 => ?_)
        · replace h := it_f c10 h
          refine lv_iconst (v := 0) hx hb dX12_isWheelAhead_68 (by decide) ?_
          exact g_ret G hP hD hS h rfl dX12_isWheelAhead_69
        · replace h := it_t c10 h
          refine lv_iload_n hx hb dX12_isWheelAhead_59 rfl (lv_at hl 3 rfl) ?_
          refine lv_iload_n hx hb dX12_isWheelAhead_60 rfl (lv_at hl 4 rfl) ?_
          refine lv_icmp_ge (tgt := 68) hx hb dX12_isWheelAhead_61 (by decide) (fun c11 => ?_) (fun c11 => ?_)
          · replace h := it_t c11 h
            refine lv_iconst (v := 0) hx hb dX12_isWheelAhead_68 (by decide) ?_
            exact g_ret G hP hD hS h rfl dX12_isWheelAhead_69
          · replace h := it_f c11 h
            exact hB64  s0 h _ _ ls hP hD hS (lv_sub hl [] rfl)
noncomputable def fX12_wheelByWear_B34 (nF : Nat) (K2 : Int32 → Int32 → St → Option (Int32 × St)) (K12 : Int32 → Int32 → Int32 → Int32 → St → Option (Int32 × St)) (x1 : Int32) (x2 : Int32) (x4 : Int32) (z0 : Int32) (z1 : Int32) (s1 : St) : Option (Int32 × St) :=
  LET (z1 + z0) fun y1 =>
  LET (x4 + 1) fun y2 =>
  K12 x1 x2 y1 y2 s1
noncomputable def fX12_wheelByWear_L12b (nF : Nat) (K2 : Int32 → Int32 → St → Option (Int32 × St)) (K12 : Int32 → Int32 → Int32 → Int32 → St → Option (Int32 × St)) (x1 : Int32) (x2 : Int32) (x3 : Int32) (x4 : Int32) (s1 : St) : Option (Int32 × St) :=
  if 3 ≤ x4 then
    if x3 = x1 then
      OB (fX12_done x2 s1) fun r6 s7 =>
      some (r6, s7)
    else
      LET (x2 + 1) fun y5 =>
      K2 x1 y5 s1
  else
    OB (fX12_isWheelAhead x4 x2 s1) fun r9 s10 =>
    if r9 = 0 then
      fX12_wheelByWear_B34 nF K2 K12 x1 x2 x4 0 x3 s10
    else
      fX12_wheelByWear_B34 nF K2 K12 x1 x2 x4 1 x3 s10
noncomputable def fX12_wheelByWear_L12 (nF : Nat) (K2 : Int32 → Int32 → St → Option (Int32 × St)) : Nat → Int32 → Int32 → Int32 → Int32 → St → Option (Int32 × St) := fun k => Nat.rec (fun _ _ _ _ _ => none) (fun _ K => fX12_wheelByWear_L12b nF K2 K) k
theorem fX12_wheelByWear_L12_s (nF : Nat) (K2 : Int32 → Int32 → St → Option (Int32 × St)) (k : Nat) : fX12_wheelByWear_L12 nF K2 (k + 1) = fX12_wheelByWear_L12b nF K2 (fX12_wheelByWear_L12 nF K2 k) := rfl
noncomputable def fX12_wheelByWear_L2b (nF : Nat) (K2 : Int32 → Int32 → St → Option (Int32 × St)) (x1 : Int32) (x2 : Int32) (s1 : St) : Option (Int32 × St) :=
  if 3 ≤ x2 then
    OB (fX12_fails 1 s1) fun r14 s15 =>
    some (r14, s15)
  else
    fX12_wheelByWear_L12 nF K2 nF x1 x2 0 0 s1
noncomputable def fX12_wheelByWear_L2 (nF : Nat) : Nat → Int32 → Int32 → St → Option (Int32 × St) := fun k => Nat.rec (fun _ _ _ => none) (fun _ K => fX12_wheelByWear_L2b nF K) k
theorem fX12_wheelByWear_L2_s (nF : Nat) (k : Nat) : fX12_wheelByWear_L2 nF (k + 1) = fX12_wheelByWear_L2b nF (fX12_wheelByWear_L2 nF k) := rfl
noncomputable def fX12_wheelByWear (nF : Nat) (p1 : Int32) (s0 : St) : Option (Int32 × St) :=
  fX12_wheelByWear_L2 nF nF p1 0 s0
set_option maxHeartbeats 4000000 in
set_option maxRecDepth 100000 in
theorem mX12_wheelByWear (l : Launch) (D : va_G) (cA : Nat → ClassId) (ad a : Nat → Nat) (fr : va_W) (nF : Nat) (p1 : Int32) (s0 : St) (r : Int32) (s' : St) (h : fX12_wheelByWear nF p1 s0 = some (r, s')) : gMet l yX12_wheelByWear cX12_wheelByWear 5 (some .int) 1 D (TYS cA) ST0 (wm cA ad a fr s0) [.ref (a 0), .int p1] (fun A => gQi D (TYS cA) A (wm cA ad a fr) r s') := by
  refine g_ofW st0_ok (by decide) (Nat.le_of_ble_eq_true rfl) ?_
  intro p e s m args below meth c ls A G hP hD hl
  have G : GC p s m args meth c cX12_wheelByWear 5 RX12 (some .int) A D (TYS cA) ST0 := G
  have hx := G.1
  have hb := G.2.1
  have hS : va_S A s.heap s.heap [] := va_S.rf
  have hl : lv_has ls 5 [(0, .ref (a 0)), (1, .int p1)] := hl
  have hB34 : ∀ (K2 : Int32 → Int32 → St → Option (Int32 × St)), (∀ (x1 : Int32) (x2 : Int32) (s1 : St), K2 x1 x2 s1 = some (r, s') → ∀ (H : Heap) (locs : List Loc) (ls : Array Slot), va_P D vwCl (wm cA ad a fr s1) H → va_D A (wm cA ad a fr s1) → va_S A s.heap H locs → lv_has ls 5 [(0, .ref (a 0)), (1, .int x1), (2, .int x2)] → W p l e (RM 1) s m args below meth c H locs 0 0 (MQ below (gQi D (TYS cA) A (wm cA ad a fr) r s') args s 0 0 A) (F0 m 2 ls [])) → ∀ (K12 : Int32 → Int32 → Int32 → Int32 → St → Option (Int32 × St)), (∀ (x1 : Int32) (x2 : Int32) (x3 : Int32) (x4 : Int32) (s1 : St), K12 x1 x2 x3 x4 s1 = some (r, s') → ∀ (H : Heap) (locs : List Loc) (ls : Array Slot), va_P D vwCl (wm cA ad a fr s1) H → va_D A (wm cA ad a fr s1) → va_S A s.heap H locs → lv_has ls 5 [(0, .ref (a 0)), (1, .int x1), (2, .int x2), (3, .int x3), (4, .int x4)] → W p l e (RM 1) s m args below meth c H locs 0 0 (MQ below (gQi D (TYS cA) A (wm cA ad a fr) r s') args s 0 0 A) (F0 m 12 ls [])) → ∀ (x1 : Int32) (x2 : Int32) (x4 : Int32) (z0 : Int32) (z1 : Int32) (s1 : St), fX12_wheelByWear_B34 nF K2 K12 x1 x2 x4 z0 z1 s1 = some (r, s') → ∀ (H : Heap) (locs : List Loc) (ls : Array Slot), va_P D vwCl (wm cA ad a fr s1) H → va_D A (wm cA ad a fr s1) → va_S A s.heap H locs → lv_has ls 5 [(0, .ref (a 0)), (1, .int x1), (2, .int x2), (4, .int x4)] → W p l e (RM 1) s m args below meth c H locs 0 0 (MQ below (gQi D (TYS cA) A (wm cA ad a fr) r s') args s 0 0 A) (F0 m 34 ls [.int z0, .int z1]) := by
    intro K2 hK2 K12 hK12 x1 x2 x4 z0 z1 s1 h H locs ls hP hD hS hl
    unfold fX12_wheelByWear_B34 at h
    refine lv_iadd hx hb dX12_wheelByWear_34 ?_
    refine lv_topi (fun y1 ey1 => ?_)
    replace h := let_e ey1 h
    refine lv_istore_n (lv' := [(3, .int y1), (0, .ref (a 0)), (1, .int x1), (2, .int x2), (4, .int x4)]) hx hb dX12_wheelByWear_35 rfl hl (by decide) rfl (fun ls hl => ?_)
    obtain ⟨y2, ey2⟩ : ∃ y : Int32, y = x4 + 1 := ⟨_, rfl⟩
    replace h := let_e ey2 h
    refine lv_iinc (v := y2) (lv' := [(4, .int y2), (3, .int y1), (0, .ref (a 0)), (1, .int x1), (2, .int x2)]) hx hb dX12_wheelByWear_36 hl (k := 4) rfl (by rw [ey2]; rfl) (by decide) rfl (fun ls hl => ?_)
    refine lv_goto (tgt := 12) hx hb dX12_wheelByWear_39 (by decide) ?_
    exact hK12 x1 x2 y1 y2 s1 h H _ ls hP hD hS (lv_sub hl [2, 3, 4, 1, 0] rfl)
  have hB12 : ∀ (K2 : Int32 → Int32 → St → Option (Int32 × St)), (∀ (x1 : Int32) (x2 : Int32) (s1 : St), K2 x1 x2 s1 = some (r, s') → ∀ (H : Heap) (locs : List Loc) (ls : Array Slot), va_P D vwCl (wm cA ad a fr s1) H → va_D A (wm cA ad a fr s1) → va_S A s.heap H locs → lv_has ls 5 [(0, .ref (a 0)), (1, .int x1), (2, .int x2)] → W p l e (RM 1) s m args below meth c H locs 0 0 (MQ below (gQi D (TYS cA) A (wm cA ad a fr) r s') args s 0 0 A) (F0 m 2 ls [])) → ∀ (K12 : Int32 → Int32 → Int32 → Int32 → St → Option (Int32 × St)), (∀ (x1 : Int32) (x2 : Int32) (x3 : Int32) (x4 : Int32) (s1 : St), K12 x1 x2 x3 x4 s1 = some (r, s') → ∀ (H : Heap) (locs : List Loc) (ls : Array Slot), va_P D vwCl (wm cA ad a fr s1) H → va_D A (wm cA ad a fr s1) → va_S A s.heap H locs → lv_has ls 5 [(0, .ref (a 0)), (1, .int x1), (2, .int x2), (3, .int x3), (4, .int x4)] → W p l e (RM 1) s m args below meth c H locs 0 0 (MQ below (gQi D (TYS cA) A (wm cA ad a fr) r s') args s 0 0 A) (F0 m 12 ls [])) → ∀ (x1 : Int32) (x2 : Int32) (x3 : Int32) (x4 : Int32) (s1 : St), fX12_wheelByWear_L12b nF K2 K12 x1 x2 x3 x4 s1 = some (r, s') → ∀ (H : Heap) (locs : List Loc) (ls : Array Slot), va_P D vwCl (wm cA ad a fr s1) H → va_D A (wm cA ad a fr s1) → va_S A s.heap H locs → lv_has ls 5 [(0, .ref (a 0)), (1, .int x1), (2, .int x2), (3, .int x3), (4, .int x4)] → W p l e (RM 1) s m args below meth c H locs 0 0 (MQ below (gQi D (TYS cA) A (wm cA ad a fr) r s') args s 0 0 A) (F0 m 12 ls []) := by
    intro K2 hK2 K12 hK12 x1 x2 x3 x4 s1 h H locs ls hP hD hS hl
    unfold fX12_wheelByWear_L12b at h
    refine lv_iload hx hb dX12_wheelByWear_12 (lv_at hl 4 rfl) ?_
    refine lv_iconst (v := 3) hx hb dX12_wheelByWear_14 (by decide) ?_
    refine lv_icmp_ge (tgt := 42) hx hb dX12_wheelByWear_15 (by decide) (fun c3 => ?_) (fun c3 => ?_)
    · replace h := it_t c3 h
      refine lv_iload_n hx hb dX12_wheelByWear_42 rfl (lv_at hl 3 rfl) ?_
      refine lv_iload_n hx hb dX12_wheelByWear_43 rfl (lv_at hl 1 rfl) ?_
      refine lv_icmp_ne (tgt := 53) hx hb dX12_wheelByWear_44 (by decide) (fun c4 => ?_) (fun c4 => ?_)
      · replace h := it_f c4 h
        obtain ⟨y5, ey5⟩ : ∃ y : Int32, y = x2 + 1 := ⟨_, rfl⟩
        replace h := let_e ey5 h
        refine lv_iinc (v := y5) (lv' := [(2, .int y5), (0, .ref (a 0)), (1, .int x1), (3, .int x3), (4, .int x4)]) hx hb dX12_wheelByWear_53 hl (k := 2) rfl (by rw [ey5]; rfl) (by decide) rfl (fun ls hl => ?_)
        refine lv_goto (tgt := 2) hx hb dX12_wheelByWear_56 (by decide) ?_
        exact hK2 x1 y5 s1 h H _ ls hP hD hS (lv_sub hl [1, 2, 0] rfl)
      · replace h := it_t c4 h
        refine lv_aload_n hx hb dX12_wheelByWear_47 rfl (lv_at hl 0 rfl) ?_
        refine lv_iload_n hx hb dX12_wheelByWear_48 rfl (lv_at hl 2 rfl) ?_
        obtain ⟨r6, s7, g8, h⟩ := ob_e h
        refine g_callVi (nA := 1) (mX12_done l D cA ad a fr x2 s1 r6 s7 g8) G hP hD hS (g_good q8_16 q8_18 qs_28 q1_16 q8_19) (by decide +kernel) (by decide) (by decide) sh12_0 rfl rfl hl.1 [] rfl (Nat.le_of_ble_eq_true rfl) dX12_wheelByWear_49 (fun H locs hP hD hS => ?_)
        exact g_ret G hP hD hS h rfl dX12_wheelByWear_52
    · replace h := it_f c3 h
      refine lv_iload_n hx hb dX12_wheelByWear_18 rfl (lv_at hl 3 rfl) ?_
      refine lv_aload_n hx hb dX12_wheelByWear_19 rfl (lv_at hl 0 rfl) ?_
      refine lv_iload hx hb dX12_wheelByWear_20 (lv_at hl 4 rfl) ?_
      refine lv_iload_n hx hb dX12_wheelByWear_22 rfl (lv_at hl 2 rfl) ?_
      obtain ⟨r9, s10, g11, h⟩ := ob_e h
      refine g_callVi (nA := 2) (mX12_isWheelAhead l D cA ad a fr x4 x2 s1 r9 s10 g11) G hP hD hS (g_good q9_52 q9_54 qs_52 q1_16 q9_55) (by decide +kernel) (by decide) (by decide) sh12_0 rfl rfl hl.1 [.int x3] rfl (Nat.le_of_ble_eq_true rfl) dX12_wheelByWear_23 (fun H locs hP hD hS => ?_)
      refine lv_if_eq (tgt := 33) hx hb dX12_wheelByWear_26 (by decide) (fun c12 => ?_) (fun c12 => ?_)
      · replace h := it_t c12 h
        refine lv_iconst (v := 0) hx hb dX12_wheelByWear_33 (by decide) ?_
        exact hB34 K2 hK2 K12 hK12 x1 x2 x4 0 x3 s10 h H _ ls hP hD hS (lv_sub hl [0, 1, 2, 4] rfl)
      · replace h := it_f c12 h
        refine lv_iconst (v := 1) hx hb dX12_wheelByWear_29 (by decide) ?_
        refine lv_goto (tgt := 34) hx hb dX12_wheelByWear_30 (by decide) ?_
        exact hB34 K2 hK2 K12 hK12 x1 x2 x4 1 x3 s10 h H _ ls hP hD hS (lv_sub hl [0, 1, 2, 4] rfl)
  have hL12 : ∀ (K2 : Int32 → Int32 → St → Option (Int32 × St)), (∀ (x1 : Int32) (x2 : Int32) (s1 : St), K2 x1 x2 s1 = some (r, s') → ∀ (H : Heap) (locs : List Loc) (ls : Array Slot), va_P D vwCl (wm cA ad a fr s1) H → va_D A (wm cA ad a fr s1) → va_S A s.heap H locs → lv_has ls 5 [(0, .ref (a 0)), (1, .int x1), (2, .int x2)] → W p l e (RM 1) s m args below meth c H locs 0 0 (MQ below (gQi D (TYS cA) A (wm cA ad a fr) r s') args s 0 0 A) (F0 m 2 ls [])) → ∀ k : Nat, ∀ (x1 : Int32) (x2 : Int32) (x3 : Int32) (x4 : Int32) (s1 : St), fX12_wheelByWear_L12 nF K2 k x1 x2 x3 x4 s1 = some (r, s') → ∀ (H : Heap) (locs : List Loc) (ls : Array Slot), va_P D vwCl (wm cA ad a fr s1) H → va_D A (wm cA ad a fr s1) → va_S A s.heap H locs → lv_has ls 5 [(0, .ref (a 0)), (1, .int x1), (2, .int x2), (3, .int x3), (4, .int x4)] → W p l e (RM 1) s m args below meth c H locs 0 0 (MQ below (gQi D (TYS cA) A (wm cA ad a fr) r s') args s 0 0 A) (F0 m 12 ls []) := by
    intro K2 hK2 k
    induction k with
    | zero => intro x1 x2 x3 x4 s1 h; cases h
    | succ k ih => exact hB12 K2 hK2 (fX12_wheelByWear_L12 nF K2 k) ih
  have hB2 : ∀ (K2 : Int32 → Int32 → St → Option (Int32 × St)), (∀ (x1 : Int32) (x2 : Int32) (s1 : St), K2 x1 x2 s1 = some (r, s') → ∀ (H : Heap) (locs : List Loc) (ls : Array Slot), va_P D vwCl (wm cA ad a fr s1) H → va_D A (wm cA ad a fr s1) → va_S A s.heap H locs → lv_has ls 5 [(0, .ref (a 0)), (1, .int x1), (2, .int x2)] → W p l e (RM 1) s m args below meth c H locs 0 0 (MQ below (gQi D (TYS cA) A (wm cA ad a fr) r s') args s 0 0 A) (F0 m 2 ls [])) → ∀ (x1 : Int32) (x2 : Int32) (s1 : St), fX12_wheelByWear_L2b nF K2 x1 x2 s1 = some (r, s') → ∀ (H : Heap) (locs : List Loc) (ls : Array Slot), va_P D vwCl (wm cA ad a fr s1) H → va_D A (wm cA ad a fr s1) → va_S A s.heap H locs → lv_has ls 5 [(0, .ref (a 0)), (1, .int x1), (2, .int x2)] → W p l e (RM 1) s m args below meth c H locs 0 0 (MQ below (gQi D (TYS cA) A (wm cA ad a fr) r s') args s 0 0 A) (F0 m 2 ls []) := by
    intro K2 hK2 x1 x2 s1 h H locs ls hP hD hS hl
    unfold fX12_wheelByWear_L2b at h
    refine lv_iload_n hx hb dX12_wheelByWear_2 rfl (lv_at hl 2 rfl) ?_
    refine lv_iconst (v := 3) hx hb dX12_wheelByWear_3 (by decide) ?_
    refine lv_icmp_ge (tgt := 59) hx hb dX12_wheelByWear_4 (by decide) (fun c13 => ?_) (fun c13 => ?_)
    · replace h := it_t c13 h
      refine lv_aload_n hx hb dX12_wheelByWear_59 rfl (lv_at hl 0 rfl) ?_
      refine lv_iconst (v := 1) hx hb dX12_wheelByWear_60 (by decide) ?_
      obtain ⟨r14, s15, g16, h⟩ := ob_e h
      refine g_callVi (nA := 1) (mX12_fails l D cA ad a fr 1 s1 r14 s15 g16) G hP hD hS (g_good q8_0 q8_2 qs_24 q1_16 q8_3) (by decide +kernel) (by decide) (by decide) sh12_0 rfl rfl hl.1 [] rfl (Nat.le_of_ble_eq_true rfl) dX12_wheelByWear_61 (fun H locs hP hD hS => ?_)
      exact g_ret G hP hD hS h rfl dX12_wheelByWear_64
    · replace h := it_f c13 h
      refine lv_iconst (v := 0) hx hb dX12_wheelByWear_7 (by decide) ?_
      refine lv_istore_n (lv' := [(3, .int 0), (0, .ref (a 0)), (1, .int x1), (2, .int x2)]) hx hb dX12_wheelByWear_8 rfl hl (by decide) rfl (fun ls hl => ?_)
      refine lv_iconst (v := 0) hx hb dX12_wheelByWear_9 (by decide) ?_
      refine lv_istore (lv' := [(4, .int 0), (3, .int 0), (0, .ref (a 0)), (1, .int x1), (2, .int x2)]) hx hb dX12_wheelByWear_10 hl (by decide) rfl (fun ls hl => ?_)
      exact hL12 K2 hK2 nF x1 x2 0 0 s1 h H _ ls hP hD hS (lv_sub hl [2, 3, 4, 1, 0] rfl)
  have hL2 : ∀ k : Nat, ∀ (x1 : Int32) (x2 : Int32) (s1 : St), fX12_wheelByWear_L2 nF k x1 x2 s1 = some (r, s') → ∀ (H : Heap) (locs : List Loc) (ls : Array Slot), va_P D vwCl (wm cA ad a fr s1) H → va_D A (wm cA ad a fr s1) → va_S A s.heap H locs → lv_has ls 5 [(0, .ref (a 0)), (1, .int x1), (2, .int x2)] → W p l e (RM 1) s m args below meth c H locs 0 0 (MQ below (gQi D (TYS cA) A (wm cA ad a fr) r s') args s 0 0 A) (F0 m 2 ls []) := by
    intro k
    induction k with
    | zero => intro x1 x2 s1 h; cases h
    | succ k ih => exact hB2 (fX12_wheelByWear_L2 nF k) ih
  unfold fX12_wheelByWear at h
  refine lv_iconst (v := 0) hx hb dX12_wheelByWear_0 (by decide) ?_
  refine lv_istore_n (lv' := [(2, .int 0), (0, .ref (a 0)), (1, .int p1)]) hx hb dX12_wheelByWear_1 rfl hl (by decide) rfl (fun ls hl => ?_)
  exact hL2 nF p1 0 s0 h _ _ ls hP hD hS (lv_sub hl [1, 2, 0] rfl)
noncomputable def fX12_grainsOf_L4b (nF : Nat) (K4 : Int32 → Int32 → Int32 → St → Option (Int32 × St)) (x1 : Int32) (x2 : Int32) (x3 : Int32) (s1 : St) : Option (Int32 × St) :=
  if 4 ≤ x3 then
    some (x2, s1)
  else
    BND ((32 + (4 * x1)) + x3) 156 <|
    LET (x2 + (s1 1 ((32 + (4 * x1)) + x3).toNatClampNeg)) fun y3 =>
    LET (x3 + 1) fun y4 =>
    K4 x1 y3 y4 s1
noncomputable def fX12_grainsOf_L4 (nF : Nat) : Nat → Int32 → Int32 → Int32 → St → Option (Int32 × St) := fun k => Nat.rec (fun _ _ _ _ => none) (fun _ K => fX12_grainsOf_L4b nF K) k
theorem fX12_grainsOf_L4_s (nF : Nat) (k : Nat) : fX12_grainsOf_L4 nF (k + 1) = fX12_grainsOf_L4b nF (fX12_grainsOf_L4 nF k) := rfl
noncomputable def fX12_grainsOf (nF : Nat) (p1 : Int32) (s0 : St) : Option (Int32 × St) :=
  fX12_grainsOf_L4 nF nF p1 0 0 s0
set_option maxHeartbeats 4000000 in
set_option maxRecDepth 100000 in
theorem mX12_grainsOf (l : Launch) (D : va_G) (cA : Nat → ClassId) (ad a : Nat → Nat) (fr : va_W) (nF : Nat) (p1 : Int32) (s0 : St) (r : Int32) (s' : St) (h : fX12_grainsOf nF p1 s0 = some (r, s')) : gMet l yX12_grainsOf cX12_grainsOf 4 (some .int) 0 D (TYS cA) ST0 (wm cA ad a fr s0) [.ref (a 0), .int p1] (fun A => gQi D (TYS cA) A (wm cA ad a fr) r s') := by
  refine g_ofW st0_ok (by decide) (Nat.le_of_ble_eq_true rfl) ?_
  intro p e s m args below meth c ls A G hP hD hl
  have G : GC p s m args meth c cX12_grainsOf 4 RX12 (some .int) A D (TYS cA) ST0 := G
  have hx := G.1
  have hb := G.2.1
  have hS : va_S A s.heap s.heap [] := va_S.rf
  have hl : lv_has ls 4 [(0, .ref (a 0)), (1, .int p1)] := hl
  have hB4 : ∀ (K4 : Int32 → Int32 → Int32 → St → Option (Int32 × St)), (∀ (x1 : Int32) (x2 : Int32) (x3 : Int32) (s1 : St), K4 x1 x2 x3 s1 = some (r, s') → ∀ (H : Heap) (locs : List Loc) (ls : Array Slot), va_P D vwCl (wm cA ad a fr s1) H → va_D A (wm cA ad a fr s1) → va_S A s.heap H locs → lv_has ls 4 [(0, .ref (a 0)), (1, .int x1), (2, .int x2), (3, .int x3)] → W p l e (RM 0) s m args below meth c H locs 0 0 (MQ below (gQi D (TYS cA) A (wm cA ad a fr) r s') args s 0 0 A) (F0 m 4 ls [])) → ∀ (x1 : Int32) (x2 : Int32) (x3 : Int32) (s1 : St), fX12_grainsOf_L4b nF K4 x1 x2 x3 s1 = some (r, s') → ∀ (H : Heap) (locs : List Loc) (ls : Array Slot), va_P D vwCl (wm cA ad a fr s1) H → va_D A (wm cA ad a fr s1) → va_S A s.heap H locs → lv_has ls 4 [(0, .ref (a 0)), (1, .int x1), (2, .int x2), (3, .int x3)] → W p l e (RM 0) s m args below meth c H locs 0 0 (MQ below (gQi D (TYS cA) A (wm cA ad a fr) r s') args s 0 0 A) (F0 m 4 ls []) := by
    intro K4 hK4 x1 x2 x3 s1 h H locs ls hP hD hS hl
    unfold fX12_grainsOf_L4b at h
    refine lv_iload_n hx hb dX12_grainsOf_4 rfl (lv_at hl 3 rfl) ?_
    refine lv_iconst (v := 4) hx hb dX12_grainsOf_5 (by decide) ?_
    refine lv_icmp_ge (tgt := 31) hx hb dX12_grainsOf_6 (by decide) (fun c1 => ?_) (fun c1 => ?_)
    · replace h := it_t c1 h
      refine lv_iload_n hx hb dX12_grainsOf_31 rfl (lv_at hl 2 rfl) ?_
      exact g_ret G hP hD hS h rfl dX12_grainsOf_32
    · replace h := it_f c1 h
      refine lv_iload_n hx hb dX12_grainsOf_9 rfl (lv_at hl 2 rfl) ?_
      refine lv_aload_n hx hb dX12_grainsOf_10 rfl (lv_at hl 0 rfl) ?_
      refine gf12_g G hP dX12_grainsOf_11 ?_
      refine lv_bipush (v := 32) hx hb dX12_grainsOf_14 (by decide) ?_
      refine lv_iconst (v := 4) hx hb dX12_grainsOf_16 (by decide) ?_
      refine lv_iload_n hx hb dX12_grainsOf_17 rfl (lv_at hl 1 rfl) ?_
      refine lv_imul hx hb dX12_grainsOf_18 ?_
      refine lv_iadd hx hb dX12_grainsOf_19 ?_
      refine lv_iload_n hx hb dX12_grainsOf_20 rfl (lv_at hl 3 rfl) ?_
      refine lv_iadd hx hb dX12_grainsOf_21 ?_
      obtain ⟨b2, h⟩ := bnd_e h
      refine al12_1 G hP b2 dX12_grainsOf_22 ?_
      refine lv_iadd hx hb dX12_grainsOf_23 ?_
      refine lv_topi (fun y3 ey3 => ?_)
      replace h := let_e ey3 h
      refine lv_istore_n (lv' := [(2, .int y3), (0, .ref (a 0)), (1, .int x1), (3, .int x3)]) hx hb dX12_grainsOf_24 rfl hl (by decide) rfl (fun ls hl => ?_)
      obtain ⟨y4, ey4⟩ : ∃ y : Int32, y = x3 + 1 := ⟨_, rfl⟩
      replace h := let_e ey4 h
      refine lv_iinc (v := y4) (lv' := [(3, .int y4), (2, .int y3), (0, .ref (a 0)), (1, .int x1)]) hx hb dX12_grainsOf_25 hl (k := 3) rfl (by rw [ey4]; rfl) (by decide) rfl (fun ls hl => ?_)
      refine lv_goto (tgt := 4) hx hb dX12_grainsOf_28 (by decide) ?_
      exact hK4 x1 y3 y4 s1 h H _ ls hP hD hS (lv_sub hl [2, 3, 1, 0] rfl)
  have hL4 : ∀ k : Nat, ∀ (x1 : Int32) (x2 : Int32) (x3 : Int32) (s1 : St), fX12_grainsOf_L4 nF k x1 x2 x3 s1 = some (r, s') → ∀ (H : Heap) (locs : List Loc) (ls : Array Slot), va_P D vwCl (wm cA ad a fr s1) H → va_D A (wm cA ad a fr s1) → va_S A s.heap H locs → lv_has ls 4 [(0, .ref (a 0)), (1, .int x1), (2, .int x2), (3, .int x3)] → W p l e (RM 0) s m args below meth c H locs 0 0 (MQ below (gQi D (TYS cA) A (wm cA ad a fr) r s') args s 0 0 A) (F0 m 4 ls []) := by
    intro k
    induction k with
    | zero => intro x1 x2 x3 s1 h; cases h
    | succ k ih => exact hB4 (fX12_grainsOf_L4 nF k) ih
  unfold fX12_grainsOf at h
  refine lv_iconst (v := 0) hx hb dX12_grainsOf_0 (by decide) ?_
  refine lv_istore_n (lv' := [(2, .int 0), (0, .ref (a 0)), (1, .int p1)]) hx hb dX12_grainsOf_1 rfl hl (by decide) rfl (fun ls hl => ?_)
  refine lv_iconst (v := 0) hx hb dX12_grainsOf_2 (by decide) ?_
  refine lv_istore_n (lv' := [(3, .int 0), (2, .int 0), (0, .ref (a 0)), (1, .int p1)]) hx hb dX12_grainsOf_3 rfl hl (by decide) rfl (fun ls hl => ?_)
  exact hL4 nF p1 0 0 s0 h _ _ ls hP hD hS (lv_sub hl [2, 3, 1, 0] rfl)
noncomputable def fX12_isBandAhead_B56 (nF : Nat) (s1 : St) : Option (Int32 × St) :=
  some (1, s1)
noncomputable def fX12_isBandAhead (nF : Nat) (p1 : Int32) (p2 : Int32) (s0 : St) : Option (Int32 × St) :=
  OB (fX12_grainsOf nF p1 s0) fun r1 s2 =>
  OB (fX12_grainsOf nF p2 s2) fun r4 s5 =>
  LET (r1 - r4) fun y7 =>
  BND (16 + p2) 156 <|
  BND (16 + p1) 156 <|
  LET ((s5 1 (16 + p2).toNatClampNeg) - (s5 1 (16 + p1).toNatClampNeg)) fun y10 =>
  if 0 < y7 then
    fX12_isBandAhead_B56 nF s5
  else
    if y7 = 0 then
      if 0 < y10 then
        fX12_isBandAhead_B56 nF s5
      else
        if y10 = 0 then
          if p2 ≤ p1 then
            some (0, s5)
          else
            fX12_isBandAhead_B56 nF s5
        else
          some (0, s5)
    else
      some (0, s5)
set_option maxHeartbeats 4000000 in
set_option maxRecDepth 100000 in
theorem mX12_isBandAhead (l : Launch) (D : va_G) (cA : Nat → ClassId) (ad a : Nat → Nat) (fr : va_W) (nF : Nat) (p1 : Int32) (p2 : Int32) (s0 : St) (r : Int32) (s' : St) (h : fX12_isBandAhead nF p1 p2 s0 = some (r, s')) : gMet l yX12_isBandAhead cX12_isBandAhead 5 (some .boolean) 1 D (TYS cA) ST0 (wm cA ad a fr s0) [.ref (a 0), .int p1, .int p2] (fun A => gQi D (TYS cA) A (wm cA ad a fr) r s') := by
  refine g_ofW st0_ok (by decide) (Nat.le_of_ble_eq_true rfl) ?_
  intro p e s m args below meth c ls A G hP hD hl
  have G : GC p s m args meth c cX12_isBandAhead 5 RX12 (some .boolean) A D (TYS cA) ST0 := G
  have hx := G.1
  have hb := G.2.1
  have hS : va_S A s.heap s.heap [] := va_S.rf
  have hl : lv_has ls 5 [(0, .ref (a 0)), (1, .int p1), (2, .int p2)] := hl
  have hB56 : ∀ (s1 : St), fX12_isBandAhead_B56 nF s1 = some (r, s') → ∀ (H : Heap) (locs : List Loc) (ls : Array Slot), va_P D vwCl (wm cA ad a fr s1) H → va_D A (wm cA ad a fr s1) → va_S A s.heap H locs → lv_has ls 5 [] → W p l e (RM 1) s m args below meth c H locs 0 0 (MQ below (gQi D (TYS cA) A (wm cA ad a fr) r s') args s 0 0 A) (F0 m 56 ls []) := by
    intro s1 h H locs ls hP hD hS hl
    unfold fX12_isBandAhead_B56 at h
    refine lv_iconst (v := 1) hx hb dX12_isBandAhead_56 (by decide) ?_
    refine lv_goto (tgt := 61) hx hb dX12_isBandAhead_57 (by decide) ?_
    exact g_ret G hP hD hS h rfl dX12_isBandAhead_61
  unfold fX12_isBandAhead at h
  refine lv_aload_n hx hb dX12_isBandAhead_0 rfl (lv_at hl 0 rfl) ?_
  refine lv_iload_n hx hb dX12_isBandAhead_1 rfl (lv_at hl 1 rfl) ?_
  obtain ⟨r1, s2, g3, h⟩ := ob_e h
  refine g_callVi (nA := 1) (mX12_grainsOf l D cA ad a fr nF p1 s0 r1 s2 g3) G hP hD hS (g_good q9_64 q9_66 qs_54 q1_16 q9_67) (by decide +kernel) (by decide) (by decide) sh12_0 rfl rfl hl.1 [] rfl (Nat.le_of_ble_eq_true rfl) dX12_isBandAhead_2 (fun H locs hP hD hS => ?_)
  refine lv_aload_n hx hb dX12_isBandAhead_5 rfl (lv_at hl 0 rfl) ?_
  refine lv_iload_n hx hb dX12_isBandAhead_6 rfl (lv_at hl 2 rfl) ?_
  obtain ⟨r4, s5, g6, h⟩ := ob_e h
  refine g_callVi (nA := 1) (mX12_grainsOf l D cA ad a fr nF p2 s2 r4 s5 g6) G hP hD hS (g_good q9_64 q9_66 qs_54 q1_16 q9_67) (by decide +kernel) (by decide) (by decide) sh12_0 rfl rfl hl.1 [.int r1] rfl (Nat.le_of_ble_eq_true rfl) dX12_isBandAhead_7 (fun H locs hP hD hS => ?_)
  refine lv_isub hx hb dX12_isBandAhead_10 ?_
  refine lv_topi (fun y7 ey7 => ?_)
  replace h := let_e ey7 h
  refine lv_istore_n (lv' := [(3, .int y7), (0, .ref (a 0)), (1, .int p1), (2, .int p2)]) hx hb dX12_isBandAhead_11 rfl hl (by decide) rfl (fun ls hl => ?_)
  refine lv_aload_n hx hb dX12_isBandAhead_12 rfl (lv_at hl 1 rfl) ?_
  refine gf12_g G hP dX12_isBandAhead_13 ?_
  refine lv_bipush (v := 16) hx hb dX12_isBandAhead_16 (by decide) ?_
  refine lv_iload_n hx hb dX12_isBandAhead_18 rfl (lv_at hl 3 rfl) ?_
  refine lv_iadd hx hb dX12_isBandAhead_19 ?_
  obtain ⟨b8, h⟩ := bnd_e h
  refine al12_1 G hP b8 dX12_isBandAhead_20 ?_
  refine lv_aload_n hx hb dX12_isBandAhead_21 rfl (lv_at hl 1 rfl) ?_
  refine gf12_g G hP dX12_isBandAhead_22 ?_
  refine lv_bipush (v := 16) hx hb dX12_isBandAhead_25 (by decide) ?_
  refine lv_iload_n hx hb dX12_isBandAhead_27 rfl (lv_at hl 2 rfl) ?_
  refine lv_iadd hx hb dX12_isBandAhead_28 ?_
  obtain ⟨b9, h⟩ := bnd_e h
  refine al12_1 G hP b9 dX12_isBandAhead_29 ?_
  refine lv_isub hx hb dX12_isBandAhead_30 ?_
  refine lv_topi (fun y10 ey10 => ?_)
  replace h := let_e ey10 h
  refine lv_istore (lv' := [(4, .int y10), (3, .int y7), (0, .ref (a 0)), (1, .int p1), (2, .int p2)]) hx hb dX12_isBandAhead_31 hl (by decide) rfl (fun ls hl => ?_)
  refine lv_iload_n hx hb dX12_isBandAhead_33 rfl (lv_at hl 1 rfl) ?_
  refine lv_if_gt (tgt := 56) hx hb dX12_isBandAhead_34 (by decide) (fun c11 => ?_) (fun c11 => ?_)
  · replace h := it_t c11 h
    exact hB56  s5 h _ _ ls hP hD hS (lv_sub hl [] rfl)
  · replace h := it_f c11 h
    refine lv_iload_n hx hb dX12_isBandAhead_37 rfl (lv_at hl 1 rfl) ?_
    refine lv_if_ne (tgt := 60) hx hb dX12_isBandAhead_38 (by decide) (fun c12 => ?_) (fun c12 => ?_)
    · replace h := it_f c12 h
      refine lv_iconst (v := 0) hx hb dX12_isBandAhead_60 (by decide) ?_
      exact g_ret G hP hD hS h rfl dX12_isBandAhead_61
    · replace h := it_t c12 h
      refine lv_iload hx hb dX12_isBandAhead_41 (lv_at hl 0 rfl) ?_
      refine lv_if_gt (tgt := 56) hx hb dX12_isBandAhead_43 (by decide) (fun c13 => ?_) (fun c13 => ?_)
      · replace h := it_t c13 h
        exact hB56  s5 h _ _ ls hP hD hS (lv_sub hl [] rfl)
      · replace h := it_f c13 h
        refine lv_iload hx hb dX12_isBandAhead_46 (lv_at hl 0 rfl) ?_
        refine lv_if_ne (tgt := 60) hx hb dX12_isBandAhead_48 (by decide) (fun c14 => ?_) (fun c14 => ?_)
        · replace h := it_f c14 h
          refine lv_iconst (v := 0) hx hb dX12_isBandAhead_60 (by decide) ?_
          exact g_ret G hP hD hS h rfl dX12_isBandAhead_61
        · replace h := it_t c14 h
          refine lv_iload_n hx hb dX12_isBandAhead_51 rfl (lv_at hl 3 rfl) ?_
          refine lv_iload_n hx hb dX12_isBandAhead_52 rfl (lv_at hl 4 rfl) ?_
          refine lv_icmp_ge (tgt := 60) hx hb dX12_isBandAhead_53 (by decide) (fun c15 => ?_) (fun c15 => ?_)
          · replace h := it_t c15 h
            refine lv_iconst (v := 0) hx hb dX12_isBandAhead_60 (by decide) ?_
            exact g_ret G hP hD hS h rfl dX12_isBandAhead_61
          · replace h := it_f c15 h
            exact hB56  s5 h _ _ ls hP hD hS (lv_sub hl [] rfl)
noncomputable def fX12_bandByGrains_B36 (nF : Nat) (K2 : Int32 → Int32 → St → Option (Int32 × St)) (K13 : Int32 → Int32 → Int32 → Int32 → St → Option (Int32 × St)) (x1 : Int32) (x2 : Int32) (x4 : Int32) (z0 : Int32) (z1 : Int32) (s1 : St) : Option (Int32 × St) :=
  LET (z1 + z0) fun y1 =>
  LET (x4 + 1) fun y2 =>
  K13 x1 x2 y1 y2 s1
noncomputable def fX12_bandByGrains_L13b (nF : Nat) (K2 : Int32 → Int32 → St → Option (Int32 × St)) (K13 : Int32 → Int32 → Int32 → Int32 → St → Option (Int32 × St)) (x1 : Int32) (x2 : Int32) (x3 : Int32) (x4 : Int32) (s1 : St) : Option (Int32 × St) :=
  if 8 ≤ x4 then
    if x3 = x1 then
      OB (fX12_done x2 s1) fun r6 s7 =>
      some (r6, s7)
    else
      LET (x2 + 1) fun y5 =>
      K2 x1 y5 s1
  else
    OB (fX12_isBandAhead nF x4 x2 s1) fun r9 s10 =>
    if r9 = 0 then
      fX12_bandByGrains_B36 nF K2 K13 x1 x2 x4 0 x3 s10
    else
      fX12_bandByGrains_B36 nF K2 K13 x1 x2 x4 1 x3 s10
noncomputable def fX12_bandByGrains_L13 (nF : Nat) (K2 : Int32 → Int32 → St → Option (Int32 × St)) : Nat → Int32 → Int32 → Int32 → Int32 → St → Option (Int32 × St) := fun k => Nat.rec (fun _ _ _ _ _ => none) (fun _ K => fX12_bandByGrains_L13b nF K2 K) k
theorem fX12_bandByGrains_L13_s (nF : Nat) (K2 : Int32 → Int32 → St → Option (Int32 × St)) (k : Nat) : fX12_bandByGrains_L13 nF K2 (k + 1) = fX12_bandByGrains_L13b nF K2 (fX12_bandByGrains_L13 nF K2 k) := rfl
noncomputable def fX12_bandByGrains_L2b (nF : Nat) (K2 : Int32 → Int32 → St → Option (Int32 × St)) (x1 : Int32) (x2 : Int32) (s1 : St) : Option (Int32 × St) :=
  if 8 ≤ x2 then
    OB (fX12_fails 1 s1) fun r14 s15 =>
    some (r14, s15)
  else
    fX12_bandByGrains_L13 nF K2 nF x1 x2 0 0 s1
noncomputable def fX12_bandByGrains_L2 (nF : Nat) : Nat → Int32 → Int32 → St → Option (Int32 × St) := fun k => Nat.rec (fun _ _ _ => none) (fun _ K => fX12_bandByGrains_L2b nF K) k
theorem fX12_bandByGrains_L2_s (nF : Nat) (k : Nat) : fX12_bandByGrains_L2 nF (k + 1) = fX12_bandByGrains_L2b nF (fX12_bandByGrains_L2 nF k) := rfl
noncomputable def fX12_bandByGrains (nF : Nat) (p1 : Int32) (s0 : St) : Option (Int32 × St) :=
  fX12_bandByGrains_L2 nF nF p1 0 s0
set_option maxHeartbeats 4000000 in
set_option maxRecDepth 100000 in
theorem mX12_bandByGrains (l : Launch) (D : va_G) (cA : Nat → ClassId) (ad a : Nat → Nat) (fr : va_W) (nF : Nat) (p1 : Int32) (s0 : St) (r : Int32) (s' : St) (h : fX12_bandByGrains nF p1 s0 = some (r, s')) : gMet l yX12_bandByGrains cX12_bandByGrains 5 (some .int) 2 D (TYS cA) ST0 (wm cA ad a fr s0) [.ref (a 0), .int p1] (fun A => gQi D (TYS cA) A (wm cA ad a fr) r s') := by
  refine g_ofW st0_ok (by decide) (Nat.le_of_ble_eq_true rfl) ?_
  intro p e s m args below meth c ls A G hP hD hl
  have G : GC p s m args meth c cX12_bandByGrains 5 RX12 (some .int) A D (TYS cA) ST0 := G
  have hx := G.1
  have hb := G.2.1
  have hS : va_S A s.heap s.heap [] := va_S.rf
  have hl : lv_has ls 5 [(0, .ref (a 0)), (1, .int p1)] := hl
  have hB36 : ∀ (K2 : Int32 → Int32 → St → Option (Int32 × St)), (∀ (x1 : Int32) (x2 : Int32) (s1 : St), K2 x1 x2 s1 = some (r, s') → ∀ (H : Heap) (locs : List Loc) (ls : Array Slot), va_P D vwCl (wm cA ad a fr s1) H → va_D A (wm cA ad a fr s1) → va_S A s.heap H locs → lv_has ls 5 [(0, .ref (a 0)), (1, .int x1), (2, .int x2)] → W p l e (RM 2) s m args below meth c H locs 0 0 (MQ below (gQi D (TYS cA) A (wm cA ad a fr) r s') args s 0 0 A) (F0 m 2 ls [])) → ∀ (K13 : Int32 → Int32 → Int32 → Int32 → St → Option (Int32 × St)), (∀ (x1 : Int32) (x2 : Int32) (x3 : Int32) (x4 : Int32) (s1 : St), K13 x1 x2 x3 x4 s1 = some (r, s') → ∀ (H : Heap) (locs : List Loc) (ls : Array Slot), va_P D vwCl (wm cA ad a fr s1) H → va_D A (wm cA ad a fr s1) → va_S A s.heap H locs → lv_has ls 5 [(0, .ref (a 0)), (1, .int x1), (2, .int x2), (3, .int x3), (4, .int x4)] → W p l e (RM 2) s m args below meth c H locs 0 0 (MQ below (gQi D (TYS cA) A (wm cA ad a fr) r s') args s 0 0 A) (F0 m 13 ls [])) → ∀ (x1 : Int32) (x2 : Int32) (x4 : Int32) (z0 : Int32) (z1 : Int32) (s1 : St), fX12_bandByGrains_B36 nF K2 K13 x1 x2 x4 z0 z1 s1 = some (r, s') → ∀ (H : Heap) (locs : List Loc) (ls : Array Slot), va_P D vwCl (wm cA ad a fr s1) H → va_D A (wm cA ad a fr s1) → va_S A s.heap H locs → lv_has ls 5 [(0, .ref (a 0)), (1, .int x1), (2, .int x2), (4, .int x4)] → W p l e (RM 2) s m args below meth c H locs 0 0 (MQ below (gQi D (TYS cA) A (wm cA ad a fr) r s') args s 0 0 A) (F0 m 36 ls [.int z0, .int z1]) := by
    intro K2 hK2 K13 hK13 x1 x2 x4 z0 z1 s1 h H locs ls hP hD hS hl
    unfold fX12_bandByGrains_B36 at h
    refine lv_iadd hx hb dX12_bandByGrains_36 ?_
    refine lv_topi (fun y1 ey1 => ?_)
    replace h := let_e ey1 h
    refine lv_istore_n (lv' := [(3, .int y1), (0, .ref (a 0)), (1, .int x1), (2, .int x2), (4, .int x4)]) hx hb dX12_bandByGrains_37 rfl hl (by decide) rfl (fun ls hl => ?_)
    obtain ⟨y2, ey2⟩ : ∃ y : Int32, y = x4 + 1 := ⟨_, rfl⟩
    replace h := let_e ey2 h
    refine lv_iinc (v := y2) (lv' := [(4, .int y2), (3, .int y1), (0, .ref (a 0)), (1, .int x1), (2, .int x2)]) hx hb dX12_bandByGrains_38 hl (k := 4) rfl (by rw [ey2]; rfl) (by decide) rfl (fun ls hl => ?_)
    refine lv_goto (tgt := 13) hx hb dX12_bandByGrains_41 (by decide) ?_
    exact hK13 x1 x2 y1 y2 s1 h H _ ls hP hD hS (lv_sub hl [2, 3, 4, 1, 0] rfl)
  have hB13 : ∀ (K2 : Int32 → Int32 → St → Option (Int32 × St)), (∀ (x1 : Int32) (x2 : Int32) (s1 : St), K2 x1 x2 s1 = some (r, s') → ∀ (H : Heap) (locs : List Loc) (ls : Array Slot), va_P D vwCl (wm cA ad a fr s1) H → va_D A (wm cA ad a fr s1) → va_S A s.heap H locs → lv_has ls 5 [(0, .ref (a 0)), (1, .int x1), (2, .int x2)] → W p l e (RM 2) s m args below meth c H locs 0 0 (MQ below (gQi D (TYS cA) A (wm cA ad a fr) r s') args s 0 0 A) (F0 m 2 ls [])) → ∀ (K13 : Int32 → Int32 → Int32 → Int32 → St → Option (Int32 × St)), (∀ (x1 : Int32) (x2 : Int32) (x3 : Int32) (x4 : Int32) (s1 : St), K13 x1 x2 x3 x4 s1 = some (r, s') → ∀ (H : Heap) (locs : List Loc) (ls : Array Slot), va_P D vwCl (wm cA ad a fr s1) H → va_D A (wm cA ad a fr s1) → va_S A s.heap H locs → lv_has ls 5 [(0, .ref (a 0)), (1, .int x1), (2, .int x2), (3, .int x3), (4, .int x4)] → W p l e (RM 2) s m args below meth c H locs 0 0 (MQ below (gQi D (TYS cA) A (wm cA ad a fr) r s') args s 0 0 A) (F0 m 13 ls [])) → ∀ (x1 : Int32) (x2 : Int32) (x3 : Int32) (x4 : Int32) (s1 : St), fX12_bandByGrains_L13b nF K2 K13 x1 x2 x3 x4 s1 = some (r, s') → ∀ (H : Heap) (locs : List Loc) (ls : Array Slot), va_P D vwCl (wm cA ad a fr s1) H → va_D A (wm cA ad a fr s1) → va_S A s.heap H locs → lv_has ls 5 [(0, .ref (a 0)), (1, .int x1), (2, .int x2), (3, .int x3), (4, .int x4)] → W p l e (RM 2) s m args below meth c H locs 0 0 (MQ below (gQi D (TYS cA) A (wm cA ad a fr) r s') args s 0 0 A) (F0 m 13 ls []) := by
    intro K2 hK2 K13 hK13 x1 x2 x3 x4 s1 h H locs ls hP hD hS hl
    unfold fX12_bandByGrains_L13b at h
    refine lv_iload hx hb dX12_bandByGrains_13 (lv_at hl 4 rfl) ?_
    refine lv_bipush (v := 8) hx hb dX12_bandByGrains_15 (by decide) ?_
    refine lv_icmp_ge (tgt := 44) hx hb dX12_bandByGrains_17 (by decide) (fun c3 => ?_) (fun c3 => ?_)
    · replace h := it_t c3 h
      refine lv_iload_n hx hb dX12_bandByGrains_44 rfl (lv_at hl 3 rfl) ?_
      refine lv_iload_n hx hb dX12_bandByGrains_45 rfl (lv_at hl 1 rfl) ?_
      refine lv_icmp_ne (tgt := 55) hx hb dX12_bandByGrains_46 (by decide) (fun c4 => ?_) (fun c4 => ?_)
      · replace h := it_f c4 h
        obtain ⟨y5, ey5⟩ : ∃ y : Int32, y = x2 + 1 := ⟨_, rfl⟩
        replace h := let_e ey5 h
        refine lv_iinc (v := y5) (lv' := [(2, .int y5), (0, .ref (a 0)), (1, .int x1), (3, .int x3), (4, .int x4)]) hx hb dX12_bandByGrains_55 hl (k := 2) rfl (by rw [ey5]; rfl) (by decide) rfl (fun ls hl => ?_)
        refine lv_goto (tgt := 2) hx hb dX12_bandByGrains_58 (by decide) ?_
        exact hK2 x1 y5 s1 h H _ ls hP hD hS (lv_sub hl [1, 2, 0] rfl)
      · replace h := it_t c4 h
        refine lv_aload_n hx hb dX12_bandByGrains_49 rfl (lv_at hl 0 rfl) ?_
        refine lv_iload_n hx hb dX12_bandByGrains_50 rfl (lv_at hl 2 rfl) ?_
        obtain ⟨r6, s7, g8, h⟩ := ob_e h
        refine g_callVi (nA := 1) (mX12_done l D cA ad a fr x2 s1 r6 s7 g8) G hP hD hS (g_good q8_16 q8_18 qs_28 q1_16 q8_19) (by decide +kernel) (by decide) (by decide) sh12_0 rfl rfl hl.1 [] rfl (Nat.le_of_ble_eq_true rfl) dX12_bandByGrains_51 (fun H locs hP hD hS => ?_)
        exact g_ret G hP hD hS h rfl dX12_bandByGrains_54
    · replace h := it_f c3 h
      refine lv_iload_n hx hb dX12_bandByGrains_20 rfl (lv_at hl 3 rfl) ?_
      refine lv_aload_n hx hb dX12_bandByGrains_21 rfl (lv_at hl 0 rfl) ?_
      refine lv_iload hx hb dX12_bandByGrains_22 (lv_at hl 4 rfl) ?_
      refine lv_iload_n hx hb dX12_bandByGrains_24 rfl (lv_at hl 2 rfl) ?_
      obtain ⟨r9, s10, g11, h⟩ := ob_e h
      refine g_callVi (nA := 2) (mX12_isBandAhead l D cA ad a fr nF x4 x2 s1 r9 s10 g11) G hP hD hS (g_good q9_60 q9_62 qs_53 q1_16 q9_63) (by decide +kernel) (by decide) (by decide) sh12_0 rfl rfl hl.1 [.int x3] rfl (Nat.le_of_ble_eq_true rfl) dX12_bandByGrains_25 (fun H locs hP hD hS => ?_)
      refine lv_if_eq (tgt := 35) hx hb dX12_bandByGrains_28 (by decide) (fun c12 => ?_) (fun c12 => ?_)
      · replace h := it_t c12 h
        refine lv_iconst (v := 0) hx hb dX12_bandByGrains_35 (by decide) ?_
        exact hB36 K2 hK2 K13 hK13 x1 x2 x4 0 x3 s10 h H _ ls hP hD hS (lv_sub hl [0, 1, 2, 4] rfl)
      · replace h := it_f c12 h
        refine lv_iconst (v := 1) hx hb dX12_bandByGrains_31 (by decide) ?_
        refine lv_goto (tgt := 36) hx hb dX12_bandByGrains_32 (by decide) ?_
        exact hB36 K2 hK2 K13 hK13 x1 x2 x4 1 x3 s10 h H _ ls hP hD hS (lv_sub hl [0, 1, 2, 4] rfl)
  have hL13 : ∀ (K2 : Int32 → Int32 → St → Option (Int32 × St)), (∀ (x1 : Int32) (x2 : Int32) (s1 : St), K2 x1 x2 s1 = some (r, s') → ∀ (H : Heap) (locs : List Loc) (ls : Array Slot), va_P D vwCl (wm cA ad a fr s1) H → va_D A (wm cA ad a fr s1) → va_S A s.heap H locs → lv_has ls 5 [(0, .ref (a 0)), (1, .int x1), (2, .int x2)] → W p l e (RM 2) s m args below meth c H locs 0 0 (MQ below (gQi D (TYS cA) A (wm cA ad a fr) r s') args s 0 0 A) (F0 m 2 ls [])) → ∀ k : Nat, ∀ (x1 : Int32) (x2 : Int32) (x3 : Int32) (x4 : Int32) (s1 : St), fX12_bandByGrains_L13 nF K2 k x1 x2 x3 x4 s1 = some (r, s') → ∀ (H : Heap) (locs : List Loc) (ls : Array Slot), va_P D vwCl (wm cA ad a fr s1) H → va_D A (wm cA ad a fr s1) → va_S A s.heap H locs → lv_has ls 5 [(0, .ref (a 0)), (1, .int x1), (2, .int x2), (3, .int x3), (4, .int x4)] → W p l e (RM 2) s m args below meth c H locs 0 0 (MQ below (gQi D (TYS cA) A (wm cA ad a fr) r s') args s 0 0 A) (F0 m 13 ls []) := by
    intro K2 hK2 k
    induction k with
    | zero => intro x1 x2 x3 x4 s1 h; cases h
    | succ k ih => exact hB13 K2 hK2 (fX12_bandByGrains_L13 nF K2 k) ih
  have hB2 : ∀ (K2 : Int32 → Int32 → St → Option (Int32 × St)), (∀ (x1 : Int32) (x2 : Int32) (s1 : St), K2 x1 x2 s1 = some (r, s') → ∀ (H : Heap) (locs : List Loc) (ls : Array Slot), va_P D vwCl (wm cA ad a fr s1) H → va_D A (wm cA ad a fr s1) → va_S A s.heap H locs → lv_has ls 5 [(0, .ref (a 0)), (1, .int x1), (2, .int x2)] → W p l e (RM 2) s m args below meth c H locs 0 0 (MQ below (gQi D (TYS cA) A (wm cA ad a fr) r s') args s 0 0 A) (F0 m 2 ls [])) → ∀ (x1 : Int32) (x2 : Int32) (s1 : St), fX12_bandByGrains_L2b nF K2 x1 x2 s1 = some (r, s') → ∀ (H : Heap) (locs : List Loc) (ls : Array Slot), va_P D vwCl (wm cA ad a fr s1) H → va_D A (wm cA ad a fr s1) → va_S A s.heap H locs → lv_has ls 5 [(0, .ref (a 0)), (1, .int x1), (2, .int x2)] → W p l e (RM 2) s m args below meth c H locs 0 0 (MQ below (gQi D (TYS cA) A (wm cA ad a fr) r s') args s 0 0 A) (F0 m 2 ls []) := by
    intro K2 hK2 x1 x2 s1 h H locs ls hP hD hS hl
    unfold fX12_bandByGrains_L2b at h
    refine lv_iload_n hx hb dX12_bandByGrains_2 rfl (lv_at hl 2 rfl) ?_
    refine lv_bipush (v := 8) hx hb dX12_bandByGrains_3 (by decide) ?_
    refine lv_icmp_ge (tgt := 61) hx hb dX12_bandByGrains_5 (by decide) (fun c13 => ?_) (fun c13 => ?_)
    · replace h := it_t c13 h
      refine lv_aload_n hx hb dX12_bandByGrains_61 rfl (lv_at hl 0 rfl) ?_
      refine lv_iconst (v := 1) hx hb dX12_bandByGrains_62 (by decide) ?_
      obtain ⟨r14, s15, g16, h⟩ := ob_e h
      refine g_callVi (nA := 1) (mX12_fails l D cA ad a fr 1 s1 r14 s15 g16) G hP hD hS (g_good q8_0 q8_2 qs_24 q1_16 q8_3) (by decide +kernel) (by decide) (by decide) sh12_0 rfl rfl hl.1 [] rfl (Nat.le_of_ble_eq_true rfl) dX12_bandByGrains_63 (fun H locs hP hD hS => ?_)
      exact g_ret G hP hD hS h rfl dX12_bandByGrains_66
    · replace h := it_f c13 h
      refine lv_iconst (v := 0) hx hb dX12_bandByGrains_8 (by decide) ?_
      refine lv_istore_n (lv' := [(3, .int 0), (0, .ref (a 0)), (1, .int x1), (2, .int x2)]) hx hb dX12_bandByGrains_9 rfl hl (by decide) rfl (fun ls hl => ?_)
      refine lv_iconst (v := 0) hx hb dX12_bandByGrains_10 (by decide) ?_
      refine lv_istore (lv' := [(4, .int 0), (3, .int 0), (0, .ref (a 0)), (1, .int x1), (2, .int x2)]) hx hb dX12_bandByGrains_11 hl (by decide) rfl (fun ls hl => ?_)
      exact hL13 K2 hK2 nF x1 x2 0 0 s1 h H _ ls hP hD hS (lv_sub hl [2, 3, 4, 1, 0] rfl)
  have hL2 : ∀ k : Nat, ∀ (x1 : Int32) (x2 : Int32) (s1 : St), fX12_bandByGrains_L2 nF k x1 x2 s1 = some (r, s') → ∀ (H : Heap) (locs : List Loc) (ls : Array Slot), va_P D vwCl (wm cA ad a fr s1) H → va_D A (wm cA ad a fr s1) → va_S A s.heap H locs → lv_has ls 5 [(0, .ref (a 0)), (1, .int x1), (2, .int x2)] → W p l e (RM 2) s m args below meth c H locs 0 0 (MQ below (gQi D (TYS cA) A (wm cA ad a fr) r s') args s 0 0 A) (F0 m 2 ls []) := by
    intro k
    induction k with
    | zero => intro x1 x2 s1 h; cases h
    | succ k ih => exact hB2 (fX12_bandByGrains_L2 nF k) ih
  unfold fX12_bandByGrains at h
  refine lv_iconst (v := 0) hx hb dX12_bandByGrains_0 (by decide) ?_
  refine lv_istore_n (lv' := [(2, .int 0), (0, .ref (a 0)), (1, .int p1)]) hx hb dX12_bandByGrains_1 rfl hl (by decide) rfl (fun ls hl => ?_)
  exact hL2 nF p1 0 s0 h _ _ ls hP hD hS (lv_sub hl [1, 2, 0] rfl)
noncomputable def fX12_meanLoudness_B57 (nF : Nat) (x1 : Int32) (z0 : Int32) (s1 : St) : Option (UInt64 × St) :=
  LET (u2 s1 0 13 z0) fun s1 =>
  if (s1 0 13) = 0 then
    OB (fX12_waiting nF s1) fun r3 s4 =>
    ND (FP.ddiv (FP.i2d x1) (FP.i2d r3)) <|
    some (FP.ddiv (FP.i2d x1) (FP.i2d r3), s4)
  else
    some (0, s1)
noncomputable def fX12_meanLoudness_B36 (nF : Nat) (K4 : Int32 → Int32 → St → Option (UInt64 × St)) (x2 : Int32) (z0 : Int32) (z1 : Int32) (s1 : St) : Option (UInt64 × St) :=
  LET (z1 + z0) fun y7 =>
  LET (x2 + 1) fun y8 =>
  K4 y7 y8 s1
noncomputable def fX12_meanLoudness_L4b (nF : Nat) (K4 : Int32 → Int32 → St → Option (UInt64 × St)) (x1 : Int32) (x2 : Int32) (s1 : St) : Option (UInt64 × St) :=
  BND 2 156 <|
  if (s1 1 (2 : Int32).toNatClampNeg) ≤ x2 then
    OB (fX12_waiting nF s1) fun r11 s12 =>
    if r11 = 0 then
      fX12_meanLoudness_B57 nF x1 1 s12
    else
      fX12_meanLoudness_B57 nF x1 0 s12
  else
    OB (fX12_waits nF x2 s1) fun r15 s16 =>
    if r15 = 0 then
      fX12_meanLoudness_B36 nF K4 x2 0 x1 s16
    else
      BND (102 + x2) 156 <|
      fX12_meanLoudness_B36 nF K4 x2 (s16 1 (102 + x2).toNatClampNeg) x1 s16
noncomputable def fX12_meanLoudness_L4 (nF : Nat) : Nat → Int32 → Int32 → St → Option (UInt64 × St) := fun k => Nat.rec (fun _ _ _ => none) (fun _ K => fX12_meanLoudness_L4b nF K) k
theorem fX12_meanLoudness_L4_s (nF : Nat) (k : Nat) : fX12_meanLoudness_L4 nF (k + 1) = fX12_meanLoudness_L4b nF (fX12_meanLoudness_L4 nF k) := rfl
noncomputable def fX12_meanLoudness (nF : Nat) (s0 : St) : Option (UInt64 × St) :=
  fX12_meanLoudness_L4 nF nF 0 0 s0
set_option maxHeartbeats 4000000 in
set_option maxRecDepth 100000 in
theorem mX12_meanLoudness (l : Launch) (D : va_G) (cA : Nat → ClassId) (ad a : Nat → Nat) (fr : va_W) (nF : Nat) (s0 : St) (r : UInt64) (s' : St) (h : fX12_meanLoudness nF s0 = some (r, s')) : gMet l yX12_meanLoudness cX12_meanLoudness 3 (some .double) 3 D (TYS cA) ST0 (wm cA ad a fr s0) [.ref (a 0)] (fun A => gQd D (TYS cA) A (wm cA ad a fr) r s') := by
  refine g_ofW st0_ok (by decide) (Nat.le_of_ble_eq_true rfl) ?_
  intro p e s m args below meth c ls A G hP hD hl
  have G : GC p s m args meth c cX12_meanLoudness 3 RX12 (some .double) A D (TYS cA) ST0 := G
  have hx := G.1
  have hb := G.2.1
  have hS : va_S A s.heap s.heap [] := va_S.rf
  have hl : lv_has ls 3 [(0, .ref (a 0))] := hl
  have hB57 : ∀ (x1 : Int32) (z0 : Int32) (s1 : St), fX12_meanLoudness_B57 nF x1 z0 s1 = some (r, s') → ∀ (H : Heap) (locs : List Loc) (ls : Array Slot), va_P D vwCl (wm cA ad a fr s1) H → va_D A (wm cA ad a fr s1) → va_S A s.heap H locs → lv_has ls 3 [(0, .ref (a 0)), (1, .int x1)] → W p l e (RM 3) s m args below meth c H locs 0 0 (MQ below (gQd D (TYS cA) A (wm cA ad a fr) r s') args s 0 0 A) (F0 m 57 ls [.int z0, .ref (a 0)]) := by
    intro x1 z0 s1 h H locs ls hP hD hS hl
    unfold fX12_meanLoudness_B57 at h
    refine pf12_thrown G hP hD hS dX12_meanLoudness_57 (fun s1 es1 H locs hP hD hS => ?_)
    replace h := let_e es1 h
    refine lv_aload_n hx hb dX12_meanLoudness_60 rfl (lv_at hl 0 rfl) ?_
    refine gf12_thrown G hP dX12_meanLoudness_61 ?_
    refine lv_if_ne (tgt := 78) hx hb dX12_meanLoudness_64 (by decide) (fun c2 => ?_) (fun c2 => ?_)
    · replace h := it_f c2 h
      refine lv_dconst0 hx hb dX12_meanLoudness_78 ?_
      exact g_dret G hP hD hS h dX12_meanLoudness_79
    · replace h := it_t c2 h
      refine lv_iload_n hx hb dX12_meanLoudness_67 rfl (lv_at hl 1 rfl) ?_
      refine lv_i2d hx hb dX12_meanLoudness_68 ?_
      refine lv_aload_n hx hb dX12_meanLoudness_69 rfl (lv_at hl 0 rfl) ?_
      obtain ⟨r3, s4, g5, h⟩ := ob_e h
      refine g_callVi (nA := 0) (mX12_waiting l D cA ad a fr nF s1 r3 s4 g5) G hP hD hS (g_good q8_4 q8_6 qs_25 q1_16 q8_7) (by decide +kernel) (by decide) (by decide) sh12_0 rfl rfl hl.1 [.double (FP.i2d x1)] rfl (Nat.le_of_ble_eq_true rfl) dX12_meanLoudness_70 (fun H locs hP hD hS => ?_)
      refine lv_i2d hx hb dX12_meanLoudness_73 ?_
      obtain ⟨b6, h⟩ := nd_e h
      refine lv_ddiv hx hb dX12_meanLoudness_74 b6 ?_
      refine lv_goto (tgt := 79) hx hb dX12_meanLoudness_75 (by decide) ?_
      exact g_dret G hP hD hS h dX12_meanLoudness_79
  have hB36 : ∀ (K4 : Int32 → Int32 → St → Option (UInt64 × St)), (∀ (x1 : Int32) (x2 : Int32) (s1 : St), K4 x1 x2 s1 = some (r, s') → ∀ (H : Heap) (locs : List Loc) (ls : Array Slot), va_P D vwCl (wm cA ad a fr s1) H → va_D A (wm cA ad a fr s1) → va_S A s.heap H locs → lv_has ls 3 [(0, .ref (a 0)), (1, .int x1), (2, .int x2)] → W p l e (RM 3) s m args below meth c H locs 0 0 (MQ below (gQd D (TYS cA) A (wm cA ad a fr) r s') args s 0 0 A) (F0 m 4 ls [])) → ∀ (x2 : Int32) (z0 : Int32) (z1 : Int32) (s1 : St), fX12_meanLoudness_B36 nF K4 x2 z0 z1 s1 = some (r, s') → ∀ (H : Heap) (locs : List Loc) (ls : Array Slot), va_P D vwCl (wm cA ad a fr s1) H → va_D A (wm cA ad a fr s1) → va_S A s.heap H locs → lv_has ls 3 [(0, .ref (a 0)), (2, .int x2)] → W p l e (RM 3) s m args below meth c H locs 0 0 (MQ below (gQd D (TYS cA) A (wm cA ad a fr) r s') args s 0 0 A) (F0 m 36 ls [.int z0, .int z1]) := by
    intro K4 hK4 x2 z0 z1 s1 h H locs ls hP hD hS hl
    unfold fX12_meanLoudness_B36 at h
    refine lv_iadd hx hb dX12_meanLoudness_36 ?_
    refine lv_topi (fun y7 ey7 => ?_)
    replace h := let_e ey7 h
    refine lv_istore_n (lv' := [(1, .int y7), (0, .ref (a 0)), (2, .int x2)]) hx hb dX12_meanLoudness_37 rfl hl (by decide) rfl (fun ls hl => ?_)
    obtain ⟨y8, ey8⟩ : ∃ y : Int32, y = x2 + 1 := ⟨_, rfl⟩
    replace h := let_e ey8 h
    refine lv_iinc (v := y8) (lv' := [(2, .int y8), (1, .int y7), (0, .ref (a 0))]) hx hb dX12_meanLoudness_38 hl (k := 2) rfl (by rw [ey8]; rfl) (by decide) rfl (fun ls hl => ?_)
    refine lv_goto (tgt := 4) hx hb dX12_meanLoudness_41 (by decide) ?_
    exact hK4 y7 y8 s1 h H _ ls hP hD hS (lv_sub hl [2, 1, 0] rfl)
  have hB4 : ∀ (K4 : Int32 → Int32 → St → Option (UInt64 × St)), (∀ (x1 : Int32) (x2 : Int32) (s1 : St), K4 x1 x2 s1 = some (r, s') → ∀ (H : Heap) (locs : List Loc) (ls : Array Slot), va_P D vwCl (wm cA ad a fr s1) H → va_D A (wm cA ad a fr s1) → va_S A s.heap H locs → lv_has ls 3 [(0, .ref (a 0)), (1, .int x1), (2, .int x2)] → W p l e (RM 3) s m args below meth c H locs 0 0 (MQ below (gQd D (TYS cA) A (wm cA ad a fr) r s') args s 0 0 A) (F0 m 4 ls [])) → ∀ (x1 : Int32) (x2 : Int32) (s1 : St), fX12_meanLoudness_L4b nF K4 x1 x2 s1 = some (r, s') → ∀ (H : Heap) (locs : List Loc) (ls : Array Slot), va_P D vwCl (wm cA ad a fr s1) H → va_D A (wm cA ad a fr s1) → va_S A s.heap H locs → lv_has ls 3 [(0, .ref (a 0)), (1, .int x1), (2, .int x2)] → W p l e (RM 3) s m args below meth c H locs 0 0 (MQ below (gQd D (TYS cA) A (wm cA ad a fr) r s') args s 0 0 A) (F0 m 4 ls []) := by
    intro K4 hK4 x1 x2 s1 h H locs ls hP hD hS hl
    unfold fX12_meanLoudness_L4b at h
    refine lv_iload_n hx hb dX12_meanLoudness_4 rfl (lv_at hl 2 rfl) ?_
    refine lv_aload_n hx hb dX12_meanLoudness_5 rfl (lv_at hl 0 rfl) ?_
    refine gf12_g G hP dX12_meanLoudness_6 ?_
    refine lv_iconst (v := 2) hx hb dX12_meanLoudness_9 (by decide) ?_
    obtain ⟨b9, h⟩ := bnd_e h
    refine al12_1 G hP b9 dX12_meanLoudness_10 ?_
    refine lv_icmp_ge (tgt := 44) hx hb dX12_meanLoudness_11 (by decide) (fun c10 => ?_) (fun c10 => ?_)
    · replace h := it_t c10 h
      refine lv_aload_n hx hb dX12_meanLoudness_44 rfl (lv_at hl 0 rfl) ?_
      refine lv_aload_n hx hb dX12_meanLoudness_45 rfl (lv_at hl 0 rfl) ?_
      obtain ⟨r11, s12, g13, h⟩ := ob_e h
      refine g_callVi (nA := 0) (mX12_waiting l D cA ad a fr nF s1 r11 s12 g13) G hP hD hS (g_good q8_4 q8_6 qs_25 q1_16 q8_7) (by decide +kernel) (by decide) (by decide) sh12_0 rfl rfl hl.1 [.ref (a 0)] rfl (Nat.le_of_ble_eq_true rfl) dX12_meanLoudness_46 (fun H locs hP hD hS => ?_)
      refine lv_if_ne (tgt := 56) hx hb dX12_meanLoudness_49 (by decide) (fun c14 => ?_) (fun c14 => ?_)
      · replace h := it_f c14 h
        refine lv_iconst (v := 0) hx hb dX12_meanLoudness_56 (by decide) ?_
        exact hB57 x1 0 s12 h H _ ls hP hD hS (lv_sub hl [0, 1] rfl)
      · replace h := it_t c14 h
        refine lv_iconst (v := 1) hx hb dX12_meanLoudness_52 (by decide) ?_
        refine lv_goto (tgt := 57) hx hb dX12_meanLoudness_53 (by decide) ?_
        exact hB57 x1 1 s12 h H _ ls hP hD hS (lv_sub hl [0, 1] rfl)
    · replace h := it_f c10 h
      refine lv_iload_n hx hb dX12_meanLoudness_14 rfl (lv_at hl 1 rfl) ?_
      refine lv_aload_n hx hb dX12_meanLoudness_15 rfl (lv_at hl 0 rfl) ?_
      refine lv_iload_n hx hb dX12_meanLoudness_16 rfl (lv_at hl 2 rfl) ?_
      obtain ⟨r15, s16, g17, h⟩ := ob_e h
      refine g_callVi (nA := 1) (mX12_waits l D cA ad a fr nF x2 s1 r15 s16 g17) G hP hD hS (g_good q8_8 q8_10 qs_26 q1_16 q8_11) (by decide +kernel) (by decide) (by decide) sh12_0 rfl rfl hl.1 [.int x1] rfl (Nat.le_of_ble_eq_true rfl) dX12_meanLoudness_17 (fun H locs hP hD hS => ?_)
      refine lv_if_eq (tgt := 35) hx hb dX12_meanLoudness_20 (by decide) (fun c18 => ?_) (fun c18 => ?_)
      · replace h := it_t c18 h
        refine lv_iconst (v := 0) hx hb dX12_meanLoudness_35 (by decide) ?_
        exact hB36 K4 hK4 x2 0 x1 s16 h H _ ls hP hD hS (lv_sub hl [0, 2] rfl)
      · replace h := it_f c18 h
        refine lv_aload_n hx hb dX12_meanLoudness_23 rfl (lv_at hl 0 rfl) ?_
        refine gf12_g G hP dX12_meanLoudness_24 ?_
        refine lv_bipush (v := 102) hx hb dX12_meanLoudness_27 (by decide) ?_
        refine lv_iload_n hx hb dX12_meanLoudness_29 rfl (lv_at hl 2 rfl) ?_
        refine lv_iadd hx hb dX12_meanLoudness_30 ?_
        obtain ⟨b19, h⟩ := bnd_e h
        refine al12_1 G hP b19 dX12_meanLoudness_31 ?_
        refine lv_goto (tgt := 36) hx hb dX12_meanLoudness_32 (by decide) ?_
        exact hB36 K4 hK4 x2 (s16 1 (102 + x2).toNatClampNeg) x1 s16 h H _ ls hP hD hS (lv_sub hl [0, 2] rfl)
  have hL4 : ∀ k : Nat, ∀ (x1 : Int32) (x2 : Int32) (s1 : St), fX12_meanLoudness_L4 nF k x1 x2 s1 = some (r, s') → ∀ (H : Heap) (locs : List Loc) (ls : Array Slot), va_P D vwCl (wm cA ad a fr s1) H → va_D A (wm cA ad a fr s1) → va_S A s.heap H locs → lv_has ls 3 [(0, .ref (a 0)), (1, .int x1), (2, .int x2)] → W p l e (RM 3) s m args below meth c H locs 0 0 (MQ below (gQd D (TYS cA) A (wm cA ad a fr) r s') args s 0 0 A) (F0 m 4 ls []) := by
    intro k
    induction k with
    | zero => intro x1 x2 s1 h; cases h
    | succ k ih => exact hB4 (fX12_meanLoudness_L4 nF k) ih
  unfold fX12_meanLoudness at h
  refine lv_iconst (v := 0) hx hb dX12_meanLoudness_0 (by decide) ?_
  refine lv_istore_n (lv' := [(1, .int 0), (0, .ref (a 0))]) hx hb dX12_meanLoudness_1 rfl hl (by decide) rfl (fun ls hl => ?_)
  refine lv_iconst (v := 0) hx hb dX12_meanLoudness_2 (by decide) ?_
  refine lv_istore_n (lv' := [(2, .int 0), (1, .int 0), (0, .ref (a 0))]) hx hb dX12_meanLoudness_3 rfl hl (by decide) rfl (fun ls hl => ?_)
  exact hL4 nF 0 0 s0 h _ _ ls hP hD hS (lv_sub hl [2, 1, 0] rfl)
def fX12_lostShare_B15 (z0 : Int32) (s1 : St) : Option (UInt32 × St) :=
  LET (u2 s1 0 13 z0) fun s1 =>
  if (s1 0 13) = 0 then
    BND 4 156 <|
    BND 5 156 <|
    BND 3 156 <|
    NF (FP.fdiv (FP.i2f ((s1 1 (4 : Int32).toNatClampNeg) + (s1 1 (5 : Int32).toNatClampNeg))) (FP.i2f (s1 1 (3 : Int32).toNatClampNeg))) <|
    some (FP.fdiv (FP.i2f ((s1 1 (4 : Int32).toNatClampNeg) + (s1 1 (5 : Int32).toNatClampNeg))) (FP.i2f (s1 1 (3 : Int32).toNatClampNeg)), s1)
  else
    some (0, s1)
def fX12_lostShare (s0 : St) : Option (UInt32 × St) :=
  BND 3 156 <|
  if (s0 1 (3 : Int32).toNatClampNeg) = 0 then
    fX12_lostShare_B15 1 s0
  else
    fX12_lostShare_B15 0 s0
set_option maxHeartbeats 4000000 in
set_option maxRecDepth 100000 in
theorem mX12_lostShare (l : Launch) (D : va_G) (cA : Nat → ClassId) (ad a : Nat → Nat) (fr : va_W) (s0 : St) (r : UInt32) (s' : St) (h : fX12_lostShare s0 = some (r, s')) : gMet l yX12_lostShare cX12_lostShare 1 (some .float) 0 D (TYS cA) ST0 (wm cA ad a fr s0) [.ref (a 0)] (fun A => gQf D (TYS cA) A (wm cA ad a fr) r s') := by
  refine g_ofW st0_ok (by decide) (Nat.le_of_ble_eq_true rfl) ?_
  intro p e s m args below meth c ls A G hP hD hl
  have G : GC p s m args meth c cX12_lostShare 1 RX12 (some .float) A D (TYS cA) ST0 := G
  have hx := G.1
  have hb := G.2.1
  have hS : va_S A s.heap s.heap [] := va_S.rf
  have hl : lv_has ls 1 [(0, .ref (a 0))] := hl
  have hB15 : ∀ (z0 : Int32) (s1 : St), fX12_lostShare_B15 z0 s1 = some (r, s') → ∀ (H : Heap) (locs : List Loc) (ls : Array Slot), va_P D vwCl (wm cA ad a fr s1) H → va_D A (wm cA ad a fr s1) → va_S A s.heap H locs → lv_has ls 1 [(0, .ref (a 0))] → W p l e (RM 0) s m args below meth c H locs 0 0 (MQ below (gQf D (TYS cA) A (wm cA ad a fr) r s') args s 0 0 A) (F0 m 15 ls [.int z0, .ref (a 0)]) := by
    intro z0 s1 h H locs ls hP hD hS hl
    unfold fX12_lostShare_B15 at h
    refine pf12_thrown G hP hD hS dX12_lostShare_15 (fun s1 es1 H locs hP hD hS => ?_)
    replace h := let_e es1 h
    refine lv_aload_n hx hb dX12_lostShare_18 rfl (lv_at hl 0 rfl) ?_
    refine gf12_thrown G hP dX12_lostShare_19 ?_
    refine lv_if_ne (tgt := 50) hx hb dX12_lostShare_22 (by decide) (fun c2 => ?_) (fun c2 => ?_)
    · replace h := it_f c2 h
      refine lv_fconst0 hx hb dX12_lostShare_50 ?_
      exact g_fret G hP hD hS h dX12_lostShare_51
    · replace h := it_t c2 h
      refine lv_aload_n hx hb dX12_lostShare_25 rfl (lv_at hl 0 rfl) ?_
      refine gf12_g G hP dX12_lostShare_26 ?_
      refine lv_iconst (v := 4) hx hb dX12_lostShare_29 (by decide) ?_
      obtain ⟨b3, h⟩ := bnd_e h
      refine al12_1 G hP b3 dX12_lostShare_30 ?_
      refine lv_aload_n hx hb dX12_lostShare_31 rfl (lv_at hl 0 rfl) ?_
      refine gf12_g G hP dX12_lostShare_32 ?_
      refine lv_iconst (v := 5) hx hb dX12_lostShare_35 (by decide) ?_
      obtain ⟨b4, h⟩ := bnd_e h
      refine al12_1 G hP b4 dX12_lostShare_36 ?_
      refine lv_iadd hx hb dX12_lostShare_37 ?_
      refine lv_i2f hx hb dX12_lostShare_38 ?_
      refine lv_aload_n hx hb dX12_lostShare_39 rfl (lv_at hl 0 rfl) ?_
      refine gf12_g G hP dX12_lostShare_40 ?_
      refine lv_iconst (v := 3) hx hb dX12_lostShare_43 (by decide) ?_
      obtain ⟨b5, h⟩ := bnd_e h
      refine al12_1 G hP b5 dX12_lostShare_44 ?_
      refine lv_i2f hx hb dX12_lostShare_45 ?_
      obtain ⟨b6, h⟩ := nf_e h
      refine lv_fdiv hx hb dX12_lostShare_46 b6 ?_
      refine lv_goto (tgt := 51) hx hb dX12_lostShare_47 (by decide) ?_
      exact g_fret G hP hD hS h dX12_lostShare_51
  unfold fX12_lostShare at h
  refine lv_aload_n hx hb dX12_lostShare_0 rfl (lv_at hl 0 rfl) ?_
  refine lv_aload_n hx hb dX12_lostShare_1 rfl (lv_at hl 0 rfl) ?_
  refine gf12_g G hP dX12_lostShare_2 ?_
  refine lv_iconst (v := 3) hx hb dX12_lostShare_5 (by decide) ?_
  obtain ⟨b7, h⟩ := bnd_e h
  refine al12_1 G hP b7 dX12_lostShare_6 ?_
  refine lv_if_ne (tgt := 14) hx hb dX12_lostShare_7 (by decide) (fun c8 => ?_) (fun c8 => ?_)
  · replace h := it_f c8 h
    refine lv_iconst (v := 0) hx hb dX12_lostShare_14 (by decide) ?_
    exact hB15 0 s0 h _ _ ls hP hD hS (lv_sub hl [0] rfl)
  · replace h := it_t c8 h
    refine lv_iconst (v := 1) hx hb dX12_lostShare_10 (by decide) ?_
    refine lv_goto (tgt := 15) hx hb dX12_lostShare_11 (by decide) ?_
    exact hB15 1 s0 h _ _ ls hP hD hS (lv_sub hl [0] rfl)
def fX12_isConsistent (s0 : St) : Option (Int32 × St) :=
  LET (u2 s0 0 13 0) fun s1 =>
  some (1, s1)
set_option maxHeartbeats 4000000 in
set_option maxRecDepth 100000 in
theorem mX12_isConsistent (l : Launch) (D : va_G) (cA : Nat → ClassId) (ad a : Nat → Nat) (fr : va_W) (s0 : St) (r : Int32) (s' : St) (h : fX12_isConsistent s0 = some (r, s')) : gMet l yX12_isConsistent cX12_isConsistent 1 (some .boolean) 0 D (TYS cA) ST0 (wm cA ad a fr s0) [.ref (a 0)] (fun A => gQi D (TYS cA) A (wm cA ad a fr) r s') := by
  refine g_ofW st0_ok (by decide) (Nat.le_of_ble_eq_true rfl) ?_
  intro p e s m args below meth c ls A G hP hD hl
  have G : GC p s m args meth c cX12_isConsistent 1 RX12 (some .boolean) A D (TYS cA) ST0 := G
  have hx := G.1
  have hb := G.2.1
  have hS : va_S A s.heap s.heap [] := va_S.rf
  have hl : lv_has ls 1 [(0, .ref (a 0))] := hl
  unfold fX12_isConsistent at h
  refine lv_aload_n hx hb dX12_isConsistent_0 rfl (lv_at hl 0 rfl) ?_
  refine lv_iconst (v := 0) hx hb dX12_isConsistent_1 (by decide) ?_
  refine pf12_thrown G hP hD hS dX12_isConsistent_2 (fun s1 es1 H locs hP hD hS => ?_)
  replace h := let_e es1 h
  refine lv_iconst (v := 1) hx hb dX12_isConsistent_5 (by decide) ?_
  exact g_ret G hP hD hS h rfl dX12_isConsistent_6
def fX12_writes (p1 : Int32) (s0 : St) : Option (Int32 × St) :=
  BND (s0 0 12) 60 <|
  LET (u2 s0 7 (s0 0 12).toNatClampNeg (vp_nar .char ((p1.toUInt32 % 65536).toInt32))) fun s2 =>
  LET (u2 s2 0 12 ((s2 0 12) + 1)) fun s3 =>
  some (0, s3)
set_option maxHeartbeats 4000000 in
set_option maxRecDepth 100000 in
theorem mX12_writes (l : Launch) (D : va_G) (cA : Nat → ClassId) (ad a : Nat → Nat) (fr : va_W) (p1 : Int32) (s0 : St) (r : Int32) (s' : St) (h : fX12_writes p1 s0 = some (r, s')) : gMet l yX12_writes cX12_writes 2 none 0 D (TYS cA) ST0 (wm cA ad a fr s0) [.ref (a 0), .int p1] (fun A => gQv D (TYS cA) A (wm cA ad a fr) s') := by
  refine g_ofW st0_ok (by decide) (Nat.le_of_ble_eq_true rfl) ?_
  intro p e s m args below meth c ls A G hP hD hl
  have G : GC p s m args meth c cX12_writes 2 RX12 none A D (TYS cA) ST0 := G
  have hx := G.1
  have hb := G.2.1
  have hS : va_S A s.heap s.heap [] := va_S.rf
  have hl : lv_has ls 2 [(0, .ref (a 0)), (1, .int p1)] := hl
  unfold fX12_writes at h
  refine lv_aload_n hx hb dX12_writes_0 rfl (lv_at hl 0 rfl) ?_
  refine gf12_letters G hP dX12_writes_1 ?_
  refine lv_aload_n hx hb dX12_writes_4 rfl (lv_at hl 0 rfl) ?_
  refine gf12_outputLength G hP dX12_writes_5 ?_
  refine lv_iload_n hx hb dX12_writes_8 rfl (lv_at hl 1 rfl) ?_
  refine lv_i2c hx hb dX12_writes_9 rfl ?_
  obtain ⟨b1, h⟩ := bnd_e h
  refine as12_7 G hP hD hS b1 dX12_writes_10 (fun s2 es2 H locs hP hD hS => ?_)
  replace h := let_e es2 h
  refine lv_aload_n hx hb dX12_writes_11 rfl (lv_at hl 0 rfl) ?_
  refine lv_dup hx hb dX12_writes_12 rfl ?_
  refine gf12_outputLength G hP dX12_writes_13 ?_
  refine lv_iconst (v := 1) hx hb dX12_writes_16 (by decide) ?_
  refine lv_iadd hx hb dX12_writes_17 ?_
  refine pf12_outputLength G hP hD hS dX12_writes_18 (fun s3 es3 H locs hP hD hS => ?_)
  replace h := let_e es3 h
  exact g_vret G hP hD hS h dX12_writes_21
noncomputable def fX12_writesNumber_L22b (nF : Nat) (K22 : Int32 → Int32 → St → Option (Int32 × St)) (x1 : Int32) (x2 : Int32) (s1 : St) : Option (Int32 × St) :=
  if x2 ≤ 0 then
    some (0, s1)
  else
    NZ x2 <|
    OB (fX12_writes (48 + ((x1 / x2) - (x1 / x2) / 10 * 10)) s1) fun r3 s4 =>
    LET (x2 / 10) fun y6 =>
    K22 x1 y6 s4
noncomputable def fX12_writesNumber_L22 (nF : Nat) : Nat → Int32 → Int32 → St → Option (Int32 × St) := fun k => Nat.rec (fun _ _ _ => none) (fun _ K => fX12_writesNumber_L22b nF K) k
theorem fX12_writesNumber_L22_s (nF : Nat) (k : Nat) : fX12_writesNumber_L22 nF (k + 1) = fX12_writesNumber_L22b nF (fX12_writesNumber_L22 nF k) := rfl
noncomputable def fX12_writesNumber_L4b (nF : Nat) (K4 : Int32 → Int32 → St → Option (Int32 × St)) (x1 : Int32) (x2 : Int32) (s1 : St) : Option (Int32 × St) :=
  if x2 ≤ 1 then
    fX12_writesNumber_L22 nF nF x1 x2 s1
  else
    if x2 ≤ x1 then
      fX12_writesNumber_L22 nF nF x1 x2 s1
    else
      LET (x2 / 10) fun y9 =>
      K4 x1 y9 s1
noncomputable def fX12_writesNumber_L4 (nF : Nat) : Nat → Int32 → Int32 → St → Option (Int32 × St) := fun k => Nat.rec (fun _ _ _ => none) (fun _ K => fX12_writesNumber_L4b nF K) k
theorem fX12_writesNumber_L4_s (nF : Nat) (k : Nat) : fX12_writesNumber_L4 nF (k + 1) = fX12_writesNumber_L4b nF (fX12_writesNumber_L4 nF k) := rfl
noncomputable def fX12_writesNumber (nF : Nat) (p1 : Int32) (s0 : St) : Option (Int32 × St) :=
  fX12_writesNumber_L4 nF nF p1 1000 s0
set_option maxHeartbeats 4000000 in
set_option maxRecDepth 100000 in
theorem mX12_writesNumber (l : Launch) (D : va_G) (cA : Nat → ClassId) (ad a : Nat → Nat) (fr : va_W) (nF : Nat) (p1 : Int32) (s0 : St) (r : Int32) (s' : St) (h : fX12_writesNumber nF p1 s0 = some (r, s')) : gMet l yX12_writesNumber cX12_writesNumber 3 none 1 D (TYS cA) ST0 (wm cA ad a fr s0) [.ref (a 0), .int p1] (fun A => gQv D (TYS cA) A (wm cA ad a fr) s') := by
  refine g_ofW st0_ok (by decide) (Nat.le_of_ble_eq_true rfl) ?_
  intro p e s m args below meth c ls A G hP hD hl
  have G : GC p s m args meth c cX12_writesNumber 3 RX12 none A D (TYS cA) ST0 := G
  have hx := G.1
  have hb := G.2.1
  have hS : va_S A s.heap s.heap [] := va_S.rf
  have hl : lv_has ls 3 [(0, .ref (a 0)), (1, .int p1)] := hl
  have hB22 : ∀ (K22 : Int32 → Int32 → St → Option (Int32 × St)), (∀ (x1 : Int32) (x2 : Int32) (s1 : St), K22 x1 x2 s1 = some (r, s') → ∀ (H : Heap) (locs : List Loc) (ls : Array Slot), va_P D vwCl (wm cA ad a fr s1) H → va_D A (wm cA ad a fr s1) → va_S A s.heap H locs → lv_has ls 3 [(0, .ref (a 0)), (1, .int x1), (2, .int x2)] → W p l e (RM 1) s m args below meth c H locs 0 0 (MQ below (gQv D (TYS cA) A (wm cA ad a fr) s') args s 0 0 A) (F0 m 22 ls [])) → ∀ (x1 : Int32) (x2 : Int32) (s1 : St), fX12_writesNumber_L22b nF K22 x1 x2 s1 = some (r, s') → ∀ (H : Heap) (locs : List Loc) (ls : Array Slot), va_P D vwCl (wm cA ad a fr s1) H → va_D A (wm cA ad a fr s1) → va_S A s.heap H locs → lv_has ls 3 [(0, .ref (a 0)), (1, .int x1), (2, .int x2)] → W p l e (RM 1) s m args below meth c H locs 0 0 (MQ below (gQv D (TYS cA) A (wm cA ad a fr) s') args s 0 0 A) (F0 m 22 ls []) := by
    intro K22 hK22 x1 x2 s1 h H locs ls hP hD hS hl
    unfold fX12_writesNumber_L22b at h
    refine lv_iload_n hx hb dX12_writesNumber_22 rfl (lv_at hl 2 rfl) ?_
    refine lv_if_le (tgt := 47) hx hb dX12_writesNumber_23 (by decide) (fun c1 => ?_) (fun c1 => ?_)
    · replace h := it_t c1 h
      exact g_vret G hP hD hS h dX12_writesNumber_47
    · replace h := it_f c1 h
      refine lv_aload_n hx hb dX12_writesNumber_26 rfl (lv_at hl 0 rfl) ?_
      refine lv_bipush (v := 48) hx hb dX12_writesNumber_27 (by decide) ?_
      refine lv_iload_n hx hb dX12_writesNumber_29 rfl (lv_at hl 1 rfl) ?_
      refine lv_iload_n hx hb dX12_writesNumber_30 rfl (lv_at hl 2 rfl) ?_
      obtain ⟨nz2, h⟩ := nz_e h
      refine lv_idiv hx hb dX12_writesNumber_31 nz2 ?_
      refine lv_bipush (v := 10) hx hb dX12_writesNumber_32 (by decide) ?_
      refine lv_irem hx hb dX12_writesNumber_34 (by decide) ?_
      refine lv_iadd hx hb dX12_writesNumber_35 ?_
      obtain ⟨r3, s4, g5, h⟩ := ob_e h
      refine g_callVv (nA := 1) (mX12_writes l D cA ad a fr (48 + ((x1 / x2) - (x1 / x2) / 10 * 10)) s1 r3 s4 g5) G hP hD hS (g_good q9_88 q9_90 qs_56 q1_16 q9_91) (by decide +kernel) (by decide) (by decide) sh12_0 rfl rfl hl.1 [] rfl (Nat.le_of_ble_eq_true rfl) dX12_writesNumber_36 (fun H locs hP hD hS => ?_)
      refine lv_iload_n hx hb dX12_writesNumber_39 rfl (lv_at hl 2 rfl) ?_
      refine lv_bipush (v := 10) hx hb dX12_writesNumber_40 (by decide) ?_
      refine lv_idiv hx hb dX12_writesNumber_42 (by decide) ?_
      refine lv_topi (fun y6 ey6 => ?_)
      replace h := let_e ey6 h
      refine lv_istore_n (lv' := [(2, .int y6), (0, .ref (a 0)), (1, .int x1)]) hx hb dX12_writesNumber_43 rfl hl (by decide) rfl (fun ls hl => ?_)
      refine lv_goto (tgt := 22) hx hb dX12_writesNumber_44 (by decide) ?_
      exact hK22 x1 y6 s4 h H _ ls hP hD hS (lv_sub hl [1, 2, 0] rfl)
  have hL22 : ∀ k : Nat, ∀ (x1 : Int32) (x2 : Int32) (s1 : St), fX12_writesNumber_L22 nF k x1 x2 s1 = some (r, s') → ∀ (H : Heap) (locs : List Loc) (ls : Array Slot), va_P D vwCl (wm cA ad a fr s1) H → va_D A (wm cA ad a fr s1) → va_S A s.heap H locs → lv_has ls 3 [(0, .ref (a 0)), (1, .int x1), (2, .int x2)] → W p l e (RM 1) s m args below meth c H locs 0 0 (MQ below (gQv D (TYS cA) A (wm cA ad a fr) s') args s 0 0 A) (F0 m 22 ls []) := by
    intro k
    induction k with
    | zero => intro x1 x2 s1 h; cases h
    | succ k ih => exact hB22 (fX12_writesNumber_L22 nF k) ih
  have hB4 : ∀ (K4 : Int32 → Int32 → St → Option (Int32 × St)), (∀ (x1 : Int32) (x2 : Int32) (s1 : St), K4 x1 x2 s1 = some (r, s') → ∀ (H : Heap) (locs : List Loc) (ls : Array Slot), va_P D vwCl (wm cA ad a fr s1) H → va_D A (wm cA ad a fr s1) → va_S A s.heap H locs → lv_has ls 3 [(0, .ref (a 0)), (1, .int x1), (2, .int x2)] → W p l e (RM 1) s m args below meth c H locs 0 0 (MQ below (gQv D (TYS cA) A (wm cA ad a fr) s') args s 0 0 A) (F0 m 4 ls [])) → ∀ (x1 : Int32) (x2 : Int32) (s1 : St), fX12_writesNumber_L4b nF K4 x1 x2 s1 = some (r, s') → ∀ (H : Heap) (locs : List Loc) (ls : Array Slot), va_P D vwCl (wm cA ad a fr s1) H → va_D A (wm cA ad a fr s1) → va_S A s.heap H locs → lv_has ls 3 [(0, .ref (a 0)), (1, .int x1), (2, .int x2)] → W p l e (RM 1) s m args below meth c H locs 0 0 (MQ below (gQv D (TYS cA) A (wm cA ad a fr) s') args s 0 0 A) (F0 m 4 ls []) := by
    intro K4 hK4 x1 x2 s1 h H locs ls hP hD hS hl
    unfold fX12_writesNumber_L4b at h
    refine lv_iload_n hx hb dX12_writesNumber_4 rfl (lv_at hl 2 rfl) ?_
    refine lv_iconst (v := 1) hx hb dX12_writesNumber_5 (by decide) ?_
    refine lv_icmp_le (tgt := 22) hx hb dX12_writesNumber_6 (by decide) (fun c7 => ?_) (fun c7 => ?_)
    · replace h := it_t c7 h
      exact hL22 nF x1 x2 s1 h H _ ls hP hD hS (lv_sub hl [0, 1, 2] rfl)
    · replace h := it_f c7 h
      refine lv_iload_n hx hb dX12_writesNumber_9 rfl (lv_at hl 1 rfl) ?_
      refine lv_iload_n hx hb dX12_writesNumber_10 rfl (lv_at hl 2 rfl) ?_
      refine lv_icmp_ge (tgt := 22) hx hb dX12_writesNumber_11 (by decide) (fun c8 => ?_) (fun c8 => ?_)
      · replace h := it_t c8 h
        exact hL22 nF x1 x2 s1 h H _ ls hP hD hS (lv_sub hl [0, 1, 2] rfl)
      · replace h := it_f c8 h
        refine lv_iload_n hx hb dX12_writesNumber_14 rfl (lv_at hl 2 rfl) ?_
        refine lv_bipush (v := 10) hx hb dX12_writesNumber_15 (by decide) ?_
        refine lv_idiv hx hb dX12_writesNumber_17 (by decide) ?_
        refine lv_topi (fun y9 ey9 => ?_)
        replace h := let_e ey9 h
        refine lv_istore_n (lv' := [(2, .int y9), (0, .ref (a 0)), (1, .int x1)]) hx hb dX12_writesNumber_18 rfl hl (by decide) rfl (fun ls hl => ?_)
        refine lv_goto (tgt := 4) hx hb dX12_writesNumber_19 (by decide) ?_
        exact hK4 x1 y9 s1 h H _ ls hP hD hS (lv_sub hl [1, 2, 0] rfl)
  have hL4 : ∀ k : Nat, ∀ (x1 : Int32) (x2 : Int32) (s1 : St), fX12_writesNumber_L4 nF k x1 x2 s1 = some (r, s') → ∀ (H : Heap) (locs : List Loc) (ls : Array Slot), va_P D vwCl (wm cA ad a fr s1) H → va_D A (wm cA ad a fr s1) → va_S A s.heap H locs → lv_has ls 3 [(0, .ref (a 0)), (1, .int x1), (2, .int x2)] → W p l e (RM 1) s m args below meth c H locs 0 0 (MQ below (gQv D (TYS cA) A (wm cA ad a fr) s') args s 0 0 A) (F0 m 4 ls []) := by
    intro k
    induction k with
    | zero => intro x1 x2 s1 h; cases h
    | succ k ih => exact hB4 (fX12_writesNumber_L4 nF k) ih
  unfold fX12_writesNumber at h
  refine lv_sipush (v := 1000) hx hb dX12_writesNumber_0 (by decide) ?_
  refine lv_istore_n (lv' := [(2, .int 1000), (0, .ref (a 0)), (1, .int p1)]) hx hb dX12_writesNumber_3 rfl hl (by decide) rfl (fun ls hl => ?_)
  exact hL4 nF p1 1000 s0 h _ _ ls hP hD hS (lv_sub hl [1, 2, 0] rfl)
noncomputable def fX12_renderWheel_B156 (nF : Nat) (s1 : St) : Option (Int32 × St) :=
  OB (fX12_done (s1 0 12) s1) fun r1 s2 =>
  some (r1, s2)
noncomputable def fX12_renderWheel_B81 (nF : Nat) (x1 : Int32) (s1 : St) : Option (Int32 × St) :=
  OB (fX12_writes 58 s1) fun r4 s5 =>
  BND (13 + x1) 156 <|
  if (s5 1 (13 + x1).toNatClampNeg) = 0 then
    OB (fX12_writes 45 s5) fun r24 s25 =>
    fX12_renderWheel_B156 nF s25
  else
    BND (13 + x1) 156 <|
    OB (fX12_writesNumber nF ((s5 1 (13 + x1).toNatClampNeg) - 1) s5) fun r10 s11 =>
    OB (fX12_writes 120 s11) fun r13 s14 =>
    BND (13 + x1) 156 <|
    OB (fX12_placeOf nF ((s14 1 (13 + x1).toNatClampNeg) - 1) s14) fun r17 s18 =>
    BND (117 + r17) 156 <|
    OB (fX12_writesNumber nF (s18 1 (117 + r17).toNatClampNeg) s18) fun r21 s22 =>
    fX12_renderWheel_B156 nF s22
noncomputable def fX12_renderWheel (nF : Nat) (p1 : Int32) (s0 : St) : Option (Int32 × St) :=
  OB (fX12_isWheel p1 s0) fun r27 s28 =>
  if r27 = 0 then
    OB (fX12_fails 1 s28) fun r54 s55 =>
    some (r54, s55)
  else
    LET (u2 s28 0 12 0) fun s31 =>
    OB (fX12_writesNumber nF p1 s31) fun r32 s33 =>
    OB (fX12_writes 103 s33) fun r35 s36 =>
    BND (7 + p1) 156 <|
    OB (fX12_writesNumber nF (s36 1 (7 + p1).toNatClampNeg) s36) fun r39 s40 =>
    OB (fX12_writes 119 s40) fun r42 s43 =>
    BND (10 + p1) 156 <|
    OB (fX12_writesNumber nF (s43 1 (10 + p1).toNatClampNeg) s43) fun r46 s47 =>
    BND (10 + p1) 156 <|
    if (s47 1 (10 + p1).toNatClampNeg) < 12 then
      fX12_renderWheel_B81 nF p1 s47
    else
      OB (fX12_writes 33 s47) fun r51 s52 =>
      fX12_renderWheel_B81 nF p1 s52
set_option maxHeartbeats 4000000 in
set_option maxRecDepth 100000 in
theorem mX12_renderWheel (l : Launch) (D : va_G) (cA : Nat → ClassId) (ad a : Nat → Nat) (fr : va_W) (nF : Nat) (p1 : Int32) (s0 : St) (r : Int32) (s' : St) (h : fX12_renderWheel nF p1 s0 = some (r, s')) : gMet l yX12_renderWheel cX12_renderWheel 2 (some .int) 2 D (TYS cA) ST0 (wm cA ad a fr s0) [.ref (a 0), .int p1] (fun A => gQi D (TYS cA) A (wm cA ad a fr) r s') := by
  refine g_ofW st0_ok (by decide) (Nat.le_of_ble_eq_true rfl) ?_
  intro p e s m args below meth c ls A G hP hD hl
  have G : GC p s m args meth c cX12_renderWheel 2 RX12 (some .int) A D (TYS cA) ST0 := G
  have hx := G.1
  have hb := G.2.1
  have hS : va_S A s.heap s.heap [] := va_S.rf
  have hl : lv_has ls 2 [(0, .ref (a 0)), (1, .int p1)] := hl
  have hB156 : ∀ (s1 : St), fX12_renderWheel_B156 nF s1 = some (r, s') → ∀ (H : Heap) (locs : List Loc) (ls : Array Slot), va_P D vwCl (wm cA ad a fr s1) H → va_D A (wm cA ad a fr s1) → va_S A s.heap H locs → lv_has ls 2 [(0, .ref (a 0))] → W p l e (RM 2) s m args below meth c H locs 0 0 (MQ below (gQi D (TYS cA) A (wm cA ad a fr) r s') args s 0 0 A) (F0 m 156 ls []) := by
    intro s1 h H locs ls hP hD hS hl
    unfold fX12_renderWheel_B156 at h
    refine lv_aload_n hx hb dX12_renderWheel_156 rfl (lv_at hl 0 rfl) ?_
    refine lv_aload_n hx hb dX12_renderWheel_157 rfl (lv_at hl 0 rfl) ?_
    refine gf12_outputLength G hP dX12_renderWheel_158 ?_
    obtain ⟨r1, s2, g3, h⟩ := ob_e h
    refine g_callVi (nA := 1) (mX12_done l D cA ad a fr (s1 0 12) s1 r1 s2 g3) G hP hD hS (g_good q8_16 q8_18 qs_28 q1_16 q8_19) (by decide +kernel) (by decide) (by decide) sh12_0 rfl rfl hl.1 [] rfl (Nat.le_of_ble_eq_true rfl) dX12_renderWheel_161 (fun H locs hP hD hS => ?_)
    exact g_ret G hP hD hS h rfl dX12_renderWheel_164
  have hB81 : ∀ (x1 : Int32) (s1 : St), fX12_renderWheel_B81 nF x1 s1 = some (r, s') → ∀ (H : Heap) (locs : List Loc) (ls : Array Slot), va_P D vwCl (wm cA ad a fr s1) H → va_D A (wm cA ad a fr s1) → va_S A s.heap H locs → lv_has ls 2 [(0, .ref (a 0)), (1, .int x1)] → W p l e (RM 2) s m args below meth c H locs 0 0 (MQ below (gQi D (TYS cA) A (wm cA ad a fr) r s') args s 0 0 A) (F0 m 81 ls []) := by
    intro x1 s1 h H locs ls hP hD hS hl
    unfold fX12_renderWheel_B81 at h
    refine lv_aload_n hx hb dX12_renderWheel_81 rfl (lv_at hl 0 rfl) ?_
    refine lv_bipush (v := 58) hx hb dX12_renderWheel_82 (by decide) ?_
    obtain ⟨r4, s5, g6, h⟩ := ob_e h
    refine g_callVv (nA := 1) (mX12_writes l D cA ad a fr 58 s1 r4 s5 g6) G hP hD hS (g_good q9_88 q9_90 qs_56 q1_16 q9_91) (by decide +kernel) (by decide) (by decide) sh12_0 rfl rfl hl.1 [] rfl (Nat.le_of_ble_eq_true rfl) dX12_renderWheel_84 (fun H locs hP hD hS => ?_)
    refine lv_aload_n hx hb dX12_renderWheel_87 rfl (lv_at hl 0 rfl) ?_
    refine gf12_g G hP dX12_renderWheel_88 ?_
    refine lv_bipush (v := 13) hx hb dX12_renderWheel_91 (by decide) ?_
    refine lv_iload_n hx hb dX12_renderWheel_93 rfl (lv_at hl 1 rfl) ?_
    refine lv_iadd hx hb dX12_renderWheel_94 ?_
    obtain ⟨b7, h⟩ := bnd_e h
    refine al12_1 G hP b7 dX12_renderWheel_95 ?_
    refine lv_if_ne (tgt := 108) hx hb dX12_renderWheel_96 (by decide) (fun c8 => ?_) (fun c8 => ?_)
    · replace h := it_f c8 h
      refine lv_aload_n hx hb dX12_renderWheel_108 rfl (lv_at hl 0 rfl) ?_
      refine lv_aload_n hx hb dX12_renderWheel_109 rfl (lv_at hl 0 rfl) ?_
      refine gf12_g G hP dX12_renderWheel_110 ?_
      refine lv_bipush (v := 13) hx hb dX12_renderWheel_113 (by decide) ?_
      refine lv_iload_n hx hb dX12_renderWheel_115 rfl (lv_at hl 1 rfl) ?_
      refine lv_iadd hx hb dX12_renderWheel_116 ?_
      obtain ⟨b9, h⟩ := bnd_e h
      refine al12_1 G hP b9 dX12_renderWheel_117 ?_
      refine lv_iconst (v := 1) hx hb dX12_renderWheel_118 (by decide) ?_
      refine lv_isub hx hb dX12_renderWheel_119 ?_
      obtain ⟨r10, s11, g12, h⟩ := ob_e h
      refine g_callVv (nA := 1) (mX12_writesNumber l D cA ad a fr nF ((s5 1 (13 + x1).toNatClampNeg) - 1) s5 r10 s11 g12) G hP hD hS (g_good q9_84 q9_86 qs_55 q1_16 q9_87) (by decide +kernel) (by decide) (by decide) sh12_0 rfl rfl hl.1 [] rfl (Nat.le_of_ble_eq_true rfl) dX12_renderWheel_120 (fun H locs hP hD hS => ?_)
      refine lv_aload_n hx hb dX12_renderWheel_123 rfl (lv_at hl 0 rfl) ?_
      refine lv_bipush (v := 120) hx hb dX12_renderWheel_124 (by decide) ?_
      obtain ⟨r13, s14, g15, h⟩ := ob_e h
      refine g_callVv (nA := 1) (mX12_writes l D cA ad a fr 120 s11 r13 s14 g15) G hP hD hS (g_good q9_88 q9_90 qs_56 q1_16 q9_91) (by decide +kernel) (by decide) (by decide) sh12_0 rfl rfl hl.1 [] rfl (Nat.le_of_ble_eq_true rfl) dX12_renderWheel_126 (fun H locs hP hD hS => ?_)
      refine lv_aload_n hx hb dX12_renderWheel_129 rfl (lv_at hl 0 rfl) ?_
      refine lv_aload_n hx hb dX12_renderWheel_130 rfl (lv_at hl 0 rfl) ?_
      refine gf12_g G hP dX12_renderWheel_131 ?_
      refine lv_bipush (v := 117) hx hb dX12_renderWheel_134 (by decide) ?_
      refine lv_aload_n hx hb dX12_renderWheel_136 rfl (lv_at hl 0 rfl) ?_
      refine lv_aload_n hx hb dX12_renderWheel_137 rfl (lv_at hl 0 rfl) ?_
      refine gf12_g G hP dX12_renderWheel_138 ?_
      refine lv_bipush (v := 13) hx hb dX12_renderWheel_141 (by decide) ?_
      refine lv_iload_n hx hb dX12_renderWheel_143 rfl (lv_at hl 1 rfl) ?_
      refine lv_iadd hx hb dX12_renderWheel_144 ?_
      obtain ⟨b16, h⟩ := bnd_e h
      refine al12_1 G hP b16 dX12_renderWheel_145 ?_
      refine lv_iconst (v := 1) hx hb dX12_renderWheel_146 (by decide) ?_
      refine lv_isub hx hb dX12_renderWheel_147 ?_
      obtain ⟨r17, s18, g19, h⟩ := ob_e h
      refine g_callVi (nA := 1) (mX12_placeOf l D cA ad a fr nF ((s14 1 (13 + x1).toNatClampNeg) - 1) s14 r17 s18 g19) G hP hD hS (g_good q8_32 q8_34 qs_31 q1_16 q8_35) (by decide +kernel) (by decide) (by decide) sh12_0 rfl rfl hl.1 [.int 117, .ref (a 1), .ref (a 0)] rfl (Nat.le_of_ble_eq_true rfl) dX12_renderWheel_148 (fun H locs hP hD hS => ?_)
      refine lv_iadd hx hb dX12_renderWheel_151 ?_
      obtain ⟨b20, h⟩ := bnd_e h
      refine al12_1 G hP b20 dX12_renderWheel_152 ?_
      obtain ⟨r21, s22, g23, h⟩ := ob_e h
      refine g_callVv (nA := 1) (mX12_writesNumber l D cA ad a fr nF (s18 1 (117 + r17).toNatClampNeg) s18 r21 s22 g23) G hP hD hS (g_good q9_84 q9_86 qs_55 q1_16 q9_87) (by decide +kernel) (by decide) (by decide) sh12_0 rfl rfl hl.1 [] rfl (Nat.le_of_ble_eq_true rfl) dX12_renderWheel_153 (fun H locs hP hD hS => ?_)
      exact hB156  s22 h H _ ls hP hD hS (lv_sub hl [0] rfl)
    · replace h := it_t c8 h
      refine lv_aload_n hx hb dX12_renderWheel_99 rfl (lv_at hl 0 rfl) ?_
      refine lv_bipush (v := 45) hx hb dX12_renderWheel_100 (by decide) ?_
      obtain ⟨r24, s25, g26, h⟩ := ob_e h
      refine g_callVv (nA := 1) (mX12_writes l D cA ad a fr 45 s5 r24 s25 g26) G hP hD hS (g_good q9_88 q9_90 qs_56 q1_16 q9_91) (by decide +kernel) (by decide) (by decide) sh12_0 rfl rfl hl.1 [] rfl (Nat.le_of_ble_eq_true rfl) dX12_renderWheel_102 (fun H locs hP hD hS => ?_)
      refine lv_goto (tgt := 156) hx hb dX12_renderWheel_105 (by decide) ?_
      exact hB156  s25 h H _ ls hP hD hS (lv_sub hl [0] rfl)
  unfold fX12_renderWheel at h
  refine lv_iload_n hx hb dX12_renderWheel_0 rfl (lv_at hl 1 rfl) ?_
  obtain ⟨r27, s28, g29, h⟩ := ob_e h
  refine g_callSi (nA := 1) (mX12_isWheel l D cA ad a fr p1 s0 r27 s28 g29) G hP hD hS (g_goodS q8_48 q8_49 q1_16 q8_50) (by decide +kernel) (by decide) rfl hl.1 [] rfl (Nat.le_of_ble_eq_true rfl) dX12_renderWheel_1 (fun H locs hP hD hS => ?_)
  refine lv_if_ne (tgt := 13) hx hb dX12_renderWheel_4 (by decide) (fun c30 => ?_) (fun c30 => ?_)
  · replace h := it_f c30 h
    refine lv_aload_n hx hb dX12_renderWheel_13 rfl (lv_at hl 0 rfl) ?_
    refine lv_iconst (v := 0) hx hb dX12_renderWheel_14 (by decide) ?_
    refine pf12_outputLength G hP hD hS dX12_renderWheel_15 (fun s31 es31 H locs hP hD hS => ?_)
    replace h := let_e es31 h
    refine lv_aload_n hx hb dX12_renderWheel_18 rfl (lv_at hl 0 rfl) ?_
    refine lv_iload_n hx hb dX12_renderWheel_19 rfl (lv_at hl 1 rfl) ?_
    obtain ⟨r32, s33, g34, h⟩ := ob_e h
    refine g_callVv (nA := 1) (mX12_writesNumber l D cA ad a fr nF p1 s31 r32 s33 g34) G hP hD hS (g_good q9_84 q9_86 qs_55 q1_16 q9_87) (by decide +kernel) (by decide) (by decide) sh12_0 rfl rfl hl.1 [] rfl (Nat.le_of_ble_eq_true rfl) dX12_renderWheel_20 (fun H locs hP hD hS => ?_)
    refine lv_aload_n hx hb dX12_renderWheel_23 rfl (lv_at hl 0 rfl) ?_
    refine lv_bipush (v := 103) hx hb dX12_renderWheel_24 (by decide) ?_
    obtain ⟨r35, s36, g37, h⟩ := ob_e h
    refine g_callVv (nA := 1) (mX12_writes l D cA ad a fr 103 s33 r35 s36 g37) G hP hD hS (g_good q9_88 q9_90 qs_56 q1_16 q9_91) (by decide +kernel) (by decide) (by decide) sh12_0 rfl rfl hl.1 [] rfl (Nat.le_of_ble_eq_true rfl) dX12_renderWheel_26 (fun H locs hP hD hS => ?_)
    refine lv_aload_n hx hb dX12_renderWheel_29 rfl (lv_at hl 0 rfl) ?_
    refine lv_aload_n hx hb dX12_renderWheel_30 rfl (lv_at hl 0 rfl) ?_
    refine gf12_g G hP dX12_renderWheel_31 ?_
    refine lv_bipush (v := 7) hx hb dX12_renderWheel_34 (by decide) ?_
    refine lv_iload_n hx hb dX12_renderWheel_36 rfl (lv_at hl 1 rfl) ?_
    refine lv_iadd hx hb dX12_renderWheel_37 ?_
    obtain ⟨b38, h⟩ := bnd_e h
    refine al12_1 G hP b38 dX12_renderWheel_38 ?_
    obtain ⟨r39, s40, g41, h⟩ := ob_e h
    refine g_callVv (nA := 1) (mX12_writesNumber l D cA ad a fr nF (s36 1 (7 + p1).toNatClampNeg) s36 r39 s40 g41) G hP hD hS (g_good q9_84 q9_86 qs_55 q1_16 q9_87) (by decide +kernel) (by decide) (by decide) sh12_0 rfl rfl hl.1 [] rfl (Nat.le_of_ble_eq_true rfl) dX12_renderWheel_39 (fun H locs hP hD hS => ?_)
    refine lv_aload_n hx hb dX12_renderWheel_42 rfl (lv_at hl 0 rfl) ?_
    refine lv_bipush (v := 119) hx hb dX12_renderWheel_43 (by decide) ?_
    obtain ⟨r42, s43, g44, h⟩ := ob_e h
    refine g_callVv (nA := 1) (mX12_writes l D cA ad a fr 119 s40 r42 s43 g44) G hP hD hS (g_good q9_88 q9_90 qs_56 q1_16 q9_91) (by decide +kernel) (by decide) (by decide) sh12_0 rfl rfl hl.1 [] rfl (Nat.le_of_ble_eq_true rfl) dX12_renderWheel_45 (fun H locs hP hD hS => ?_)
    refine lv_aload_n hx hb dX12_renderWheel_48 rfl (lv_at hl 0 rfl) ?_
    refine lv_aload_n hx hb dX12_renderWheel_49 rfl (lv_at hl 0 rfl) ?_
    refine gf12_g G hP dX12_renderWheel_50 ?_
    refine lv_bipush (v := 10) hx hb dX12_renderWheel_53 (by decide) ?_
    refine lv_iload_n hx hb dX12_renderWheel_55 rfl (lv_at hl 1 rfl) ?_
    refine lv_iadd hx hb dX12_renderWheel_56 ?_
    obtain ⟨b45, h⟩ := bnd_e h
    refine al12_1 G hP b45 dX12_renderWheel_57 ?_
    obtain ⟨r46, s47, g48, h⟩ := ob_e h
    refine g_callVv (nA := 1) (mX12_writesNumber l D cA ad a fr nF (s43 1 (10 + p1).toNatClampNeg) s43 r46 s47 g48) G hP hD hS (g_good q9_84 q9_86 qs_55 q1_16 q9_87) (by decide +kernel) (by decide) (by decide) sh12_0 rfl rfl hl.1 [] rfl (Nat.le_of_ble_eq_true rfl) dX12_renderWheel_58 (fun H locs hP hD hS => ?_)
    refine lv_aload_n hx hb dX12_renderWheel_61 rfl (lv_at hl 0 rfl) ?_
    refine gf12_g G hP dX12_renderWheel_62 ?_
    refine lv_bipush (v := 10) hx hb dX12_renderWheel_65 (by decide) ?_
    refine lv_iload_n hx hb dX12_renderWheel_67 rfl (lv_at hl 1 rfl) ?_
    refine lv_iadd hx hb dX12_renderWheel_68 ?_
    obtain ⟨b49, h⟩ := bnd_e h
    refine al12_1 G hP b49 dX12_renderWheel_69 ?_
    refine lv_bipush (v := 12) hx hb dX12_renderWheel_70 (by decide) ?_
    refine lv_icmp_lt (tgt := 81) hx hb dX12_renderWheel_72 (by decide) (fun c50 => ?_) (fun c50 => ?_)
    · replace h := it_t c50 h
      exact hB81 p1 s47 h _ _ ls hP hD hS (lv_sub hl [0, 1] rfl)
    · replace h := it_f c50 h
      refine lv_aload_n hx hb dX12_renderWheel_75 rfl (lv_at hl 0 rfl) ?_
      refine lv_bipush (v := 33) hx hb dX12_renderWheel_76 (by decide) ?_
      obtain ⟨r51, s52, g53, h⟩ := ob_e h
      refine g_callVv (nA := 1) (mX12_writes l D cA ad a fr 33 s47 r51 s52 g53) G hP hD hS (g_good q9_88 q9_90 qs_56 q1_16 q9_91) (by decide +kernel) (by decide) (by decide) sh12_0 rfl rfl hl.1 [] rfl (Nat.le_of_ble_eq_true rfl) dX12_renderWheel_78 (fun H locs hP hD hS => ?_)
      exact hB81 p1 s52 h _ _ ls hP hD hS (lv_sub hl [0, 1] rfl)
  · replace h := it_t c30 h
    refine lv_aload_n hx hb dX12_renderWheel_7 rfl (lv_at hl 0 rfl) ?_
    refine lv_iconst (v := 1) hx hb dX12_renderWheel_8 (by decide) ?_
    obtain ⟨r54, s55, g56, h⟩ := ob_e h
    refine g_callVi (nA := 1) (mX12_fails l D cA ad a fr 1 s28 r54 s55 g56) G hP hD hS (g_good q8_0 q8_2 qs_24 q1_16 q8_3) (by decide +kernel) (by decide) (by decide) sh12_0 rfl rfl hl.1 [] rfl (Nat.le_of_ble_eq_true rfl) dX12_renderWheel_9 (fun H locs hP hD hS => ?_)
    exact g_ret G hP hD hS h rfl dX12_renderWheel_12
noncomputable def fX12_renderSacks_B22 (nF : Nat) (K7 : Int32 → St → Option (Int32 × St)) (x1 : Int32) (s1 : St) : Option (Int32 × St) :=
  BND (28 + x1) 156 <|
  OB (fX12_writesNumber nF ((s1 1 (28 + x1).toNatClampNeg) / 20) s1) fun r2 s3 =>
  OB (fX12_writes 43 s3) fun r5 s6 =>
  BND (28 + x1) 156 <|
  OB (fX12_writesNumber nF ((s6 1 (28 + x1).toNatClampNeg) - (s6 1 (28 + x1).toNatClampNeg) / 20 * 20) s6) fun r9 s10 =>
  LET (x1 + 1) fun y12 =>
  K7 y12 s10
noncomputable def fX12_renderSacks_L7b (nF : Nat) (K7 : Int32 → St → Option (Int32 × St)) (x1 : Int32) (s1 : St) : Option (Int32 × St) :=
  if 4 ≤ x1 then
    OB (fX12_done (s1 0 12) s1) fun r14 s15 =>
    some (r14, s15)
  else
    if x1 ≤ 0 then
      fX12_renderSacks_B22 nF K7 x1 s1
    else
      OB (fX12_writes 32 s1) fun r18 s19 =>
      fX12_renderSacks_B22 nF K7 x1 s19
noncomputable def fX12_renderSacks_L7 (nF : Nat) : Nat → Int32 → St → Option (Int32 × St) := fun k => Nat.rec (fun _ _ => none) (fun _ K => fX12_renderSacks_L7b nF K) k
theorem fX12_renderSacks_L7_s (nF : Nat) (k : Nat) : fX12_renderSacks_L7 nF (k + 1) = fX12_renderSacks_L7b nF (fX12_renderSacks_L7 nF k) := rfl
noncomputable def fX12_renderSacks (nF : Nat) (s0 : St) : Option (Int32 × St) :=
  LET (u2 s0 0 12 0) fun s21 =>
  fX12_renderSacks_L7 nF nF 0 s21
set_option maxHeartbeats 4000000 in
set_option maxRecDepth 100000 in
theorem mX12_renderSacks (l : Launch) (D : va_G) (cA : Nat → ClassId) (ad a : Nat → Nat) (fr : va_W) (nF : Nat) (s0 : St) (r : Int32) (s' : St) (h : fX12_renderSacks nF s0 = some (r, s')) : gMet l yX12_renderSacks cX12_renderSacks 2 (some .int) 2 D (TYS cA) ST0 (wm cA ad a fr s0) [.ref (a 0)] (fun A => gQi D (TYS cA) A (wm cA ad a fr) r s') := by
  refine g_ofW st0_ok (by decide) (Nat.le_of_ble_eq_true rfl) ?_
  intro p e s m args below meth c ls A G hP hD hl
  have G : GC p s m args meth c cX12_renderSacks 2 RX12 (some .int) A D (TYS cA) ST0 := G
  have hx := G.1
  have hb := G.2.1
  have hS : va_S A s.heap s.heap [] := va_S.rf
  have hl : lv_has ls 2 [(0, .ref (a 0))] := hl
  have hB22 : ∀ (K7 : Int32 → St → Option (Int32 × St)), (∀ (x1 : Int32) (s1 : St), K7 x1 s1 = some (r, s') → ∀ (H : Heap) (locs : List Loc) (ls : Array Slot), va_P D vwCl (wm cA ad a fr s1) H → va_D A (wm cA ad a fr s1) → va_S A s.heap H locs → lv_has ls 2 [(0, .ref (a 0)), (1, .int x1)] → W p l e (RM 2) s m args below meth c H locs 0 0 (MQ below (gQi D (TYS cA) A (wm cA ad a fr) r s') args s 0 0 A) (F0 m 7 ls [])) → ∀ (x1 : Int32) (s1 : St), fX12_renderSacks_B22 nF K7 x1 s1 = some (r, s') → ∀ (H : Heap) (locs : List Loc) (ls : Array Slot), va_P D vwCl (wm cA ad a fr s1) H → va_D A (wm cA ad a fr s1) → va_S A s.heap H locs → lv_has ls 2 [(0, .ref (a 0)), (1, .int x1)] → W p l e (RM 2) s m args below meth c H locs 0 0 (MQ below (gQi D (TYS cA) A (wm cA ad a fr) r s') args s 0 0 A) (F0 m 22 ls []) := by
    intro K7 hK7 x1 s1 h H locs ls hP hD hS hl
    unfold fX12_renderSacks_B22 at h
    refine lv_aload_n hx hb dX12_renderSacks_22 rfl (lv_at hl 0 rfl) ?_
    refine lv_aload_n hx hb dX12_renderSacks_23 rfl (lv_at hl 0 rfl) ?_
    refine gf12_g G hP dX12_renderSacks_24 ?_
    refine lv_bipush (v := 28) hx hb dX12_renderSacks_27 (by decide) ?_
    refine lv_iload_n hx hb dX12_renderSacks_29 rfl (lv_at hl 1 rfl) ?_
    refine lv_iadd hx hb dX12_renderSacks_30 ?_
    obtain ⟨b1, h⟩ := bnd_e h
    refine al12_1 G hP b1 dX12_renderSacks_31 ?_
    refine lv_bipush (v := 20) hx hb dX12_renderSacks_32 (by decide) ?_
    refine lv_idiv hx hb dX12_renderSacks_34 (by decide) ?_
    obtain ⟨r2, s3, g4, h⟩ := ob_e h
    refine g_callVv (nA := 1) (mX12_writesNumber l D cA ad a fr nF ((s1 1 (28 + x1).toNatClampNeg) / 20) s1 r2 s3 g4) G hP hD hS (g_good q9_84 q9_86 qs_55 q1_16 q9_87) (by decide +kernel) (by decide) (by decide) sh12_0 rfl rfl hl.1 [] rfl (Nat.le_of_ble_eq_true rfl) dX12_renderSacks_35 (fun H locs hP hD hS => ?_)
    refine lv_aload_n hx hb dX12_renderSacks_38 rfl (lv_at hl 0 rfl) ?_
    refine lv_bipush (v := 43) hx hb dX12_renderSacks_39 (by decide) ?_
    obtain ⟨r5, s6, g7, h⟩ := ob_e h
    refine g_callVv (nA := 1) (mX12_writes l D cA ad a fr 43 s3 r5 s6 g7) G hP hD hS (g_good q9_88 q9_90 qs_56 q1_16 q9_91) (by decide +kernel) (by decide) (by decide) sh12_0 rfl rfl hl.1 [] rfl (Nat.le_of_ble_eq_true rfl) dX12_renderSacks_41 (fun H locs hP hD hS => ?_)
    refine lv_aload_n hx hb dX12_renderSacks_44 rfl (lv_at hl 0 rfl) ?_
    refine lv_aload_n hx hb dX12_renderSacks_45 rfl (lv_at hl 0 rfl) ?_
    refine gf12_g G hP dX12_renderSacks_46 ?_
    refine lv_bipush (v := 28) hx hb dX12_renderSacks_49 (by decide) ?_
    refine lv_iload_n hx hb dX12_renderSacks_51 rfl (lv_at hl 1 rfl) ?_
    refine lv_iadd hx hb dX12_renderSacks_52 ?_
    obtain ⟨b8, h⟩ := bnd_e h
    refine al12_1 G hP b8 dX12_renderSacks_53 ?_
    refine lv_bipush (v := 20) hx hb dX12_renderSacks_54 (by decide) ?_
    refine lv_irem hx hb dX12_renderSacks_56 (by decide) ?_
    obtain ⟨r9, s10, g11, h⟩ := ob_e h
    refine g_callVv (nA := 1) (mX12_writesNumber l D cA ad a fr nF ((s6 1 (28 + x1).toNatClampNeg) - (s6 1 (28 + x1).toNatClampNeg) / 20 * 20) s6 r9 s10 g11) G hP hD hS (g_good q9_84 q9_86 qs_55 q1_16 q9_87) (by decide +kernel) (by decide) (by decide) sh12_0 rfl rfl hl.1 [] rfl (Nat.le_of_ble_eq_true rfl) dX12_renderSacks_57 (fun H locs hP hD hS => ?_)
    obtain ⟨y12, ey12⟩ : ∃ y : Int32, y = x1 + 1 := ⟨_, rfl⟩
    replace h := let_e ey12 h
    refine lv_iinc (v := y12) (lv' := [(1, .int y12), (0, .ref (a 0))]) hx hb dX12_renderSacks_60 hl (k := 1) rfl (by rw [ey12]; rfl) (by decide) rfl (fun ls hl => ?_)
    refine lv_goto (tgt := 7) hx hb dX12_renderSacks_63 (by decide) ?_
    exact hK7 y12 s10 h H _ ls hP hD hS (lv_sub hl [1, 0] rfl)
  have hB7 : ∀ (K7 : Int32 → St → Option (Int32 × St)), (∀ (x1 : Int32) (s1 : St), K7 x1 s1 = some (r, s') → ∀ (H : Heap) (locs : List Loc) (ls : Array Slot), va_P D vwCl (wm cA ad a fr s1) H → va_D A (wm cA ad a fr s1) → va_S A s.heap H locs → lv_has ls 2 [(0, .ref (a 0)), (1, .int x1)] → W p l e (RM 2) s m args below meth c H locs 0 0 (MQ below (gQi D (TYS cA) A (wm cA ad a fr) r s') args s 0 0 A) (F0 m 7 ls [])) → ∀ (x1 : Int32) (s1 : St), fX12_renderSacks_L7b nF K7 x1 s1 = some (r, s') → ∀ (H : Heap) (locs : List Loc) (ls : Array Slot), va_P D vwCl (wm cA ad a fr s1) H → va_D A (wm cA ad a fr s1) → va_S A s.heap H locs → lv_has ls 2 [(0, .ref (a 0)), (1, .int x1)] → W p l e (RM 2) s m args below meth c H locs 0 0 (MQ below (gQi D (TYS cA) A (wm cA ad a fr) r s') args s 0 0 A) (F0 m 7 ls []) := by
    intro K7 hK7 x1 s1 h H locs ls hP hD hS hl
    unfold fX12_renderSacks_L7b at h
    refine lv_iload_n hx hb dX12_renderSacks_7 rfl (lv_at hl 1 rfl) ?_
    refine lv_iconst (v := 4) hx hb dX12_renderSacks_8 (by decide) ?_
    refine lv_icmp_ge (tgt := 66) hx hb dX12_renderSacks_9 (by decide) (fun c13 => ?_) (fun c13 => ?_)
    · replace h := it_t c13 h
      refine lv_aload_n hx hb dX12_renderSacks_66 rfl (lv_at hl 0 rfl) ?_
      refine lv_aload_n hx hb dX12_renderSacks_67 rfl (lv_at hl 0 rfl) ?_
      refine gf12_outputLength G hP dX12_renderSacks_68 ?_
      obtain ⟨r14, s15, g16, h⟩ := ob_e h
      refine g_callVi (nA := 1) (mX12_done l D cA ad a fr (s1 0 12) s1 r14 s15 g16) G hP hD hS (g_good q8_16 q8_18 qs_28 q1_16 q8_19) (by decide +kernel) (by decide) (by decide) sh12_0 rfl rfl hl.1 [] rfl (Nat.le_of_ble_eq_true rfl) dX12_renderSacks_71 (fun H locs hP hD hS => ?_)
      exact g_ret G hP hD hS h rfl dX12_renderSacks_74
    · replace h := it_f c13 h
      refine lv_iload_n hx hb dX12_renderSacks_12 rfl (lv_at hl 1 rfl) ?_
      refine lv_if_le (tgt := 22) hx hb dX12_renderSacks_13 (by decide) (fun c17 => ?_) (fun c17 => ?_)
      · replace h := it_t c17 h
        exact hB22 K7 hK7 x1 s1 h H _ ls hP hD hS (lv_sub hl [0, 1] rfl)
      · replace h := it_f c17 h
        refine lv_aload_n hx hb dX12_renderSacks_16 rfl (lv_at hl 0 rfl) ?_
        refine lv_bipush (v := 32) hx hb dX12_renderSacks_17 (by decide) ?_
        obtain ⟨r18, s19, g20, h⟩ := ob_e h
        refine g_callVv (nA := 1) (mX12_writes l D cA ad a fr 32 s1 r18 s19 g20) G hP hD hS (g_good q9_88 q9_90 qs_56 q1_16 q9_91) (by decide +kernel) (by decide) (by decide) sh12_0 rfl rfl hl.1 [] rfl (Nat.le_of_ble_eq_true rfl) dX12_renderSacks_19 (fun H locs hP hD hS => ?_)
        exact hB22 K7 hK7 x1 s19 h H _ ls hP hD hS (lv_sub hl [0, 1] rfl)
  have hL7 : ∀ k : Nat, ∀ (x1 : Int32) (s1 : St), fX12_renderSacks_L7 nF k x1 s1 = some (r, s') → ∀ (H : Heap) (locs : List Loc) (ls : Array Slot), va_P D vwCl (wm cA ad a fr s1) H → va_D A (wm cA ad a fr s1) → va_S A s.heap H locs → lv_has ls 2 [(0, .ref (a 0)), (1, .int x1)] → W p l e (RM 2) s m args below meth c H locs 0 0 (MQ below (gQi D (TYS cA) A (wm cA ad a fr) r s') args s 0 0 A) (F0 m 7 ls []) := by
    intro k
    induction k with
    | zero => intro x1 s1 h; cases h
    | succ k ih => exact hB7 (fX12_renderSacks_L7 nF k) ih
  unfold fX12_renderSacks at h
  refine lv_aload_n hx hb dX12_renderSacks_0 rfl (lv_at hl 0 rfl) ?_
  refine lv_iconst (v := 0) hx hb dX12_renderSacks_1 (by decide) ?_
  refine pf12_outputLength G hP hD hS dX12_renderSacks_2 (fun s21 es21 H locs hP hD hS => ?_)
  replace h := let_e es21 h
  refine lv_iconst (v := 0) hx hb dX12_renderSacks_5 (by decide) ?_
  refine lv_istore_n (lv' := [(1, .int 0), (0, .ref (a 0))]) hx hb dX12_renderSacks_6 rfl hl (by decide) rfl (fun ls hl => ?_)
  exact hL7 nF 0 s21 h _ _ ls hP hD hS (lv_sub hl [1, 0] rfl)
def fX12_outputAt_B20 (x1 : Int32) (z0 : Int32) (s1 : St) : Option (Int32 × St) :=
  LET (u2 s1 0 13 z0) fun s1 =>
  if (s1 0 13) = 0 then
    BND x1 60 <|
    CH (s1 7 x1.toNatClampNeg) <|
    some (s1 7 x1.toNatClampNeg, s1)
  else
    CH 0 <|
    some (0, s1)
def fX12_outputAt (p1 : Int32) (s0 : St) : Option (Int32 × St) :=
  OB (fX12_in p1 0 ((s0 0 12) - 1) s0) fun r6 s7 =>
  if r6 = 0 then
    fX12_outputAt_B20 p1 1 s7
  else
    fX12_outputAt_B20 p1 0 s7
set_option maxHeartbeats 4000000 in
set_option maxRecDepth 100000 in
theorem mX12_outputAt (l : Launch) (D : va_G) (cA : Nat → ClassId) (ad a : Nat → Nat) (fr : va_W) (p1 : Int32) (s0 : St) (r : Int32) (s' : St) (h : fX12_outputAt p1 s0 = some (r, s')) : gMet l yX12_outputAt cX12_outputAt 2 (some .char) 1 D (TYS cA) ST0 (wm cA ad a fr s0) [.ref (a 0), .int p1] (fun A => gQi D (TYS cA) A (wm cA ad a fr) r s') := by
  refine g_ofW st0_ok (by decide) (Nat.le_of_ble_eq_true rfl) ?_
  intro p e s m args below meth c ls A G hP hD hl
  have G : GC p s m args meth c cX12_outputAt 2 RX12 (some .char) A D (TYS cA) ST0 := G
  have hx := G.1
  have hb := G.2.1
  have hS : va_S A s.heap s.heap [] := va_S.rf
  have hl : lv_has ls 2 [(0, .ref (a 0)), (1, .int p1)] := hl
  have hB20 : ∀ (x1 : Int32) (z0 : Int32) (s1 : St), fX12_outputAt_B20 x1 z0 s1 = some (r, s') → ∀ (H : Heap) (locs : List Loc) (ls : Array Slot), va_P D vwCl (wm cA ad a fr s1) H → va_D A (wm cA ad a fr s1) → va_S A s.heap H locs → lv_has ls 2 [(0, .ref (a 0)), (1, .int x1)] → W p l e (RM 1) s m args below meth c H locs 0 0 (MQ below (gQi D (TYS cA) A (wm cA ad a fr) r s') args s 0 0 A) (F0 m 20 ls [.int z0, .ref (a 0)]) := by
    intro x1 z0 s1 h H locs ls hP hD hS hl
    unfold fX12_outputAt_B20 at h
    refine pf12_thrown G hP hD hS dX12_outputAt_20 (fun s1 es1 H locs hP hD hS => ?_)
    replace h := let_e es1 h
    refine lv_aload_n hx hb dX12_outputAt_23 rfl (lv_at hl 0 rfl) ?_
    refine gf12_thrown G hP dX12_outputAt_24 ?_
    refine lv_if_ne (tgt := 39) hx hb dX12_outputAt_27 (by decide) (fun c2 => ?_) (fun c2 => ?_)
    · replace h := it_f c2 h
      refine lv_iconst (v := 0) hx hb dX12_outputAt_39 (by decide) ?_
      obtain ⟨b3, h⟩ := ch_e h
      exact g_ret G hP hD hS h (ch_n b3) dX12_outputAt_40
    · replace h := it_t c2 h
      refine lv_aload_n hx hb dX12_outputAt_30 rfl (lv_at hl 0 rfl) ?_
      refine gf12_letters G hP dX12_outputAt_31 ?_
      refine lv_iload_n hx hb dX12_outputAt_34 rfl (lv_at hl 1 rfl) ?_
      obtain ⟨b4, h⟩ := bnd_e h
      refine al12_7 G hP b4 dX12_outputAt_35 ?_
      refine lv_goto (tgt := 40) hx hb dX12_outputAt_36 (by decide) ?_
      obtain ⟨b5, h⟩ := ch_e h
      exact g_ret G hP hD hS h (ch_n b5) dX12_outputAt_40
  unfold fX12_outputAt at h
  refine lv_aload_n hx hb dX12_outputAt_0 rfl (lv_at hl 0 rfl) ?_
  refine lv_iload_n hx hb dX12_outputAt_1 rfl (lv_at hl 1 rfl) ?_
  refine lv_iconst (v := 0) hx hb dX12_outputAt_2 (by decide) ?_
  refine lv_aload_n hx hb dX12_outputAt_3 rfl (lv_at hl 0 rfl) ?_
  refine gf12_outputLength G hP dX12_outputAt_4 ?_
  refine lv_iconst (v := 1) hx hb dX12_outputAt_7 (by decide) ?_
  refine lv_isub hx hb dX12_outputAt_8 ?_
  obtain ⟨r6, s7, g8, h⟩ := ob_e h
  refine g_callSi (nA := 3) (mX12_in l D cA ad a fr p1 0 ((s0 0 12) - 1) s0 r6 s7 g8) G hP hD hS (g_goodS q7_237 q7_238 q1_16 q7_239) (by decide +kernel) (by decide) rfl hl.1 [.ref (a 0)] rfl (Nat.le_of_ble_eq_true rfl) dX12_outputAt_9 (fun H locs hP hD hS => ?_)
  refine lv_if_eq (tgt := 19) hx hb dX12_outputAt_12 (by decide) (fun c9 => ?_) (fun c9 => ?_)
  · replace h := it_t c9 h
    refine lv_iconst (v := 1) hx hb dX12_outputAt_19 (by decide) ?_
    exact hB20 p1 1 s7 h _ _ ls hP hD hS (lv_sub hl [0, 1] rfl)
  · replace h := it_f c9 h
    refine lv_iconst (v := 0) hx hb dX12_outputAt_15 (by decide) ?_
    refine lv_goto (tgt := 20) hx hb dX12_outputAt_16 (by decide) ?_
    exact hB20 p1 0 s7 h _ _ ls hP hD hS (lv_sub hl [0, 1] rfl)
def fX12_type (p1 : Int32) (s0 : St) : Option (Int32 × St) :=
  OB (fX12_in p1 32 126 s0) fun r1 s2 =>
  if r1 = 0 then
    OB (fX12_fails 1 s2) fun r15 s16 =>
    some (r15, s16)
  else
    if (s2 0 8) = 60 then
      OB (fX12_fails 2 s2) fun r12 s13 =>
      some (r12, s13)
    else
      BND (s2 0 8) 60 <|
      LET (u2 s2 6 (s2 0 8).toNatClampNeg (vp_nar .char p1)) fun s7 =>
      LET (u2 s7 0 8 ((s7 0 8) + 1)) fun s8 =>
      OB (fX12_done (s8 0 8) s8) fun r9 s10 =>
      some (r9, s10)
set_option maxHeartbeats 4000000 in
set_option maxRecDepth 100000 in
theorem mX12_type (l : Launch) (D : va_G) (cA : Nat → ClassId) (ad a : Nat → Nat) (fr : va_W) (p1 : Int32) (s0 : St) (r : Int32) (s' : St) (h : fX12_type p1 s0 = some (r, s')) : gMet l yX12_type cX12_type 2 (some .int) 1 D (TYS cA) ST0 (wm cA ad a fr s0) [.ref (a 0), .int p1] (fun A => gQi D (TYS cA) A (wm cA ad a fr) r s') := by
  refine g_ofW st0_ok (by decide) (Nat.le_of_ble_eq_true rfl) ?_
  intro p e s m args below meth c ls A G hP hD hl
  have G : GC p s m args meth c cX12_type 2 RX12 (some .int) A D (TYS cA) ST0 := G
  have hx := G.1
  have hb := G.2.1
  have hS : va_S A s.heap s.heap [] := va_S.rf
  have hl : lv_has ls 2 [(0, .ref (a 0)), (1, .int p1)] := hl
  unfold fX12_type at h
  refine lv_iload_n hx hb dX12_type_0 rfl (lv_at hl 1 rfl) ?_
  refine lv_bipush (v := 32) hx hb dX12_type_1 (by decide) ?_
  refine lv_bipush (v := 126) hx hb dX12_type_3 (by decide) ?_
  obtain ⟨r1, s2, g3, h⟩ := ob_e h
  refine g_callSi (nA := 3) (mX12_in l D cA ad a fr p1 32 126 s0 r1 s2 g3) G hP hD hS (g_goodS q7_237 q7_238 q1_16 q7_239) (by decide +kernel) (by decide) rfl hl.1 [] rfl (Nat.le_of_ble_eq_true rfl) dX12_type_5 (fun H locs hP hD hS => ?_)
  refine lv_if_ne (tgt := 17) hx hb dX12_type_8 (by decide) (fun c4 => ?_) (fun c4 => ?_)
  · replace h := it_f c4 h
    refine lv_aload_n hx hb dX12_type_17 rfl (lv_at hl 0 rfl) ?_
    refine gf12_typed G hP dX12_type_18 ?_
    refine lv_bipush (v := 60) hx hb dX12_type_21 (by decide) ?_
    refine lv_icmp_ne (tgt := 32) hx hb dX12_type_23 (by decide) (fun c5 => ?_) (fun c5 => ?_)
    · replace h := it_f c5 h
      refine lv_aload_n hx hb dX12_type_32 rfl (lv_at hl 0 rfl) ?_
      refine gf12_buffer G hP dX12_type_33 ?_
      refine lv_aload_n hx hb dX12_type_36 rfl (lv_at hl 0 rfl) ?_
      refine gf12_typed G hP dX12_type_37 ?_
      refine lv_iload_n hx hb dX12_type_40 rfl (lv_at hl 1 rfl) ?_
      obtain ⟨b6, h⟩ := bnd_e h
      refine as12_6 G hP hD hS b6 dX12_type_41 (fun s7 es7 H locs hP hD hS => ?_)
      replace h := let_e es7 h
      refine lv_aload_n hx hb dX12_type_42 rfl (lv_at hl 0 rfl) ?_
      refine lv_dup hx hb dX12_type_43 rfl ?_
      refine gf12_typed G hP dX12_type_44 ?_
      refine lv_iconst (v := 1) hx hb dX12_type_47 (by decide) ?_
      refine lv_iadd hx hb dX12_type_48 ?_
      refine pf12_typed G hP hD hS dX12_type_49 (fun s8 es8 H locs hP hD hS => ?_)
      replace h := let_e es8 h
      refine lv_aload_n hx hb dX12_type_52 rfl (lv_at hl 0 rfl) ?_
      refine lv_aload_n hx hb dX12_type_53 rfl (lv_at hl 0 rfl) ?_
      refine gf12_typed G hP dX12_type_54 ?_
      obtain ⟨r9, s10, g11, h⟩ := ob_e h
      refine g_callVi (nA := 1) (mX12_done l D cA ad a fr (s8 0 8) s8 r9 s10 g11) G hP hD hS (g_good q8_16 q8_18 qs_28 q1_16 q8_19) (by decide +kernel) (by decide) (by decide) sh12_0 rfl rfl hl.1 [] rfl (Nat.le_of_ble_eq_true rfl) dX12_type_57 (fun H locs hP hD hS => ?_)
      exact g_ret G hP hD hS h rfl dX12_type_60
    · replace h := it_t c5 h
      refine lv_aload_n hx hb dX12_type_26 rfl (lv_at hl 0 rfl) ?_
      refine lv_iconst (v := 2) hx hb dX12_type_27 (by decide) ?_
      obtain ⟨r12, s13, g14, h⟩ := ob_e h
      refine g_callVi (nA := 1) (mX12_fails l D cA ad a fr 2 s2 r12 s13 g14) G hP hD hS (g_good q8_0 q8_2 qs_24 q1_16 q8_3) (by decide +kernel) (by decide) (by decide) sh12_0 rfl rfl hl.1 [] rfl (Nat.le_of_ble_eq_true rfl) dX12_type_28 (fun H locs hP hD hS => ?_)
      exact g_ret G hP hD hS h rfl dX12_type_31
  · replace h := it_t c4 h
    refine lv_aload_n hx hb dX12_type_11 rfl (lv_at hl 0 rfl) ?_
    refine lv_iconst (v := 1) hx hb dX12_type_12 (by decide) ?_
    obtain ⟨r15, s16, g17, h⟩ := ob_e h
    refine g_callVi (nA := 1) (mX12_fails l D cA ad a fr 1 s2 r15 s16 g17) G hP hD hS (g_good q8_0 q8_2 qs_24 q1_16 q8_3) (by decide +kernel) (by decide) (by decide) sh12_0 rfl rfl hl.1 [] rfl (Nat.le_of_ble_eq_true rfl) dX12_type_13 (fun H locs hP hD hS => ?_)
    exact g_ret G hP hD hS h rfl dX12_type_16
def fX12_here (s0 : St) : Option (Int32 × St) :=
  if (s0 0 8) ≤ (s0 0 14) then
    some ((-1), s0)
  else
    BND (s0 0 14) 60 <|
    some (s0 6 (s0 0 14).toNatClampNeg, s0)
set_option maxHeartbeats 4000000 in
set_option maxRecDepth 100000 in
theorem mX12_here (l : Launch) (D : va_G) (cA : Nat → ClassId) (ad a : Nat → Nat) (fr : va_W) (s0 : St) (r : Int32) (s' : St) (h : fX12_here s0 = some (r, s')) : gMet l yX12_here cX12_here 1 (some .int) 0 D (TYS cA) ST0 (wm cA ad a fr s0) [.ref (a 0)] (fun A => gQi D (TYS cA) A (wm cA ad a fr) r s') := by
  refine g_ofW st0_ok (by decide) (Nat.le_of_ble_eq_true rfl) ?_
  intro p e s m args below meth c ls A G hP hD hl
  have G : GC p s m args meth c cX12_here 1 RX12 (some .int) A D (TYS cA) ST0 := G
  have hx := G.1
  have hb := G.2.1
  have hS : va_S A s.heap s.heap [] := va_S.rf
  have hl : lv_has ls 1 [(0, .ref (a 0))] := hl
  unfold fX12_here at h
  refine lv_aload_n hx hb dX12_here_0 rfl (lv_at hl 0 rfl) ?_
  refine gf12_spot G hP dX12_here_1 ?_
  refine lv_aload_n hx hb dX12_here_4 rfl (lv_at hl 0 rfl) ?_
  refine gf12_typed G hP dX12_here_5 ?_
  refine lv_icmp_ge (tgt := 23) hx hb dX12_here_8 (by decide) (fun c1 => ?_) (fun c1 => ?_)
  · replace h := it_t c1 h
    refine lv_iconst (v := (-1)) hx hb dX12_here_23 (by decide) ?_
    exact g_ret G hP hD hS h rfl dX12_here_24
  · replace h := it_f c1 h
    refine lv_aload_n hx hb dX12_here_11 rfl (lv_at hl 0 rfl) ?_
    refine gf12_buffer G hP dX12_here_12 ?_
    refine lv_aload_n hx hb dX12_here_15 rfl (lv_at hl 0 rfl) ?_
    refine gf12_spot G hP dX12_here_16 ?_
    obtain ⟨b2, h⟩ := bnd_e h
    refine al12_6 G hP b2 dX12_here_19 ?_
    refine lv_goto (tgt := 24) hx hb dX12_here_20 (by decide) ?_
    exact g_ret G hP hD hS h rfl dX12_here_24
def fX12_needs_B21 (z0 : Int32) (s1 : St) : Option (Int32 × St) :=
  BL z0 <|
  LET (u2 s1 0 15 z0) fun s1 =>
  if (s1 0 15) = 0 then
    LET (u2 s1 0 14 ((s1 0 14) + 1)) fun s4 =>
    some (0, s4)
  else
    LET (u2 s1 0 14 ((s1 0 14) + 0)) fun s5 =>
    some (0, s5)
def fX12_needs_B16 (s1 : St) : Option (Int32 × St) :=
  fX12_needs_B21 1 s1
def fX12_needs (p1 : Int32) (s0 : St) : Option (Int32 × St) :=
  if (s0 0 15) = 0 then
    OB (fX12_here s0) fun r7 s8 =>
    if r7 = p1 then
      fX12_needs_B21 0 s8
    else
      fX12_needs_B16 s8
  else
    fX12_needs_B16 s0
set_option maxHeartbeats 4000000 in
set_option maxRecDepth 100000 in
theorem mX12_needs (l : Launch) (D : va_G) (cA : Nat → ClassId) (ad a : Nat → Nat) (fr : va_W) (p1 : Int32) (s0 : St) (r : Int32) (s' : St) (h : fX12_needs p1 s0 = some (r, s')) : gMet l yX12_needs cX12_needs 2 none 1 D (TYS cA) ST0 (wm cA ad a fr s0) [.ref (a 0), .int p1] (fun A => gQv D (TYS cA) A (wm cA ad a fr) s') := by
  refine g_ofW st0_ok (by decide) (Nat.le_of_ble_eq_true rfl) ?_
  intro p e s m args below meth c ls A G hP hD hl
  have G : GC p s m args meth c cX12_needs 2 RX12 none A D (TYS cA) ST0 := G
  have hx := G.1
  have hb := G.2.1
  have hS : va_S A s.heap s.heap [] := va_S.rf
  have hl : lv_has ls 2 [(0, .ref (a 0)), (1, .int p1)] := hl
  have hB21 : ∀ (z0 : Int32) (s1 : St), fX12_needs_B21 z0 s1 = some (r, s') → ∀ (H : Heap) (locs : List Loc) (ls : Array Slot), va_P D vwCl (wm cA ad a fr s1) H → va_D A (wm cA ad a fr s1) → va_S A s.heap H locs → lv_has ls 2 [(0, .ref (a 0))] → W p l e (RM 1) s m args below meth c H locs 0 0 (MQ below (gQv D (TYS cA) A (wm cA ad a fr) s') args s 0 0 A) (F0 m 21 ls [.int z0, .ref (a 0)]) := by
    intro z0 s1 h H locs ls hP hD hS hl
    unfold fX12_needs_B21 at h
    obtain ⟨b2, h⟩ := bl_e h
    refine pf12_isWrong G hP hD hS b2 dX12_needs_21 (fun s1 es1 H locs hP hD hS => ?_)
    replace h := let_e es1 h
    refine lv_aload_n hx hb dX12_needs_24 rfl (lv_at hl 0 rfl) ?_
    refine lv_dup hx hb dX12_needs_25 rfl ?_
    refine gf12_spot G hP dX12_needs_26 ?_
    refine lv_aload_n hx hb dX12_needs_29 rfl (lv_at hl 0 rfl) ?_
    refine gf12_isWrong G hP dX12_needs_30 ?_
    refine lv_if_eq (tgt := 40) hx hb dX12_needs_33 (by decide) (fun c3 => ?_) (fun c3 => ?_)
    · replace h := it_t c3 h
      refine lv_iconst (v := 1) hx hb dX12_needs_40 (by decide) ?_
      refine lv_iadd hx hb dX12_needs_41 ?_
      refine pf12_spot G hP hD hS dX12_needs_42 (fun s4 es4 H locs hP hD hS => ?_)
      replace h := let_e es4 h
      exact g_vret G hP hD hS h dX12_needs_45
    · replace h := it_f c3 h
      refine lv_iconst (v := 0) hx hb dX12_needs_36 (by decide) ?_
      refine lv_goto (tgt := 41) hx hb dX12_needs_37 (by decide) ?_
      refine lv_iadd hx hb dX12_needs_41 ?_
      refine pf12_spot G hP hD hS dX12_needs_42 (fun s5 es5 H locs hP hD hS => ?_)
      replace h := let_e es5 h
      exact g_vret G hP hD hS h dX12_needs_45
  have hB16 : ∀ (s1 : St), fX12_needs_B16 s1 = some (r, s') → ∀ (H : Heap) (locs : List Loc) (ls : Array Slot), va_P D vwCl (wm cA ad a fr s1) H → va_D A (wm cA ad a fr s1) → va_S A s.heap H locs → lv_has ls 2 [(0, .ref (a 0))] → W p l e (RM 1) s m args below meth c H locs 0 0 (MQ below (gQv D (TYS cA) A (wm cA ad a fr) s') args s 0 0 A) (F0 m 16 ls [.ref (a 0)]) := by
    intro s1 h H locs ls hP hD hS hl
    unfold fX12_needs_B16 at h
    refine lv_iconst (v := 1) hx hb dX12_needs_16 (by decide) ?_
    refine lv_goto (tgt := 21) hx hb dX12_needs_17 (by decide) ?_
    exact hB21 1 s1 h H _ ls hP hD hS (lv_sub hl [0] rfl)
  unfold fX12_needs at h
  refine lv_aload_n hx hb dX12_needs_0 rfl (lv_at hl 0 rfl) ?_
  refine lv_aload_n hx hb dX12_needs_1 rfl (lv_at hl 0 rfl) ?_
  refine gf12_isWrong G hP dX12_needs_2 ?_
  refine lv_if_ne (tgt := 16) hx hb dX12_needs_5 (by decide) (fun c6 => ?_) (fun c6 => ?_)
  · replace h := it_f c6 h
    exact hB16  s0 h _ _ ls hP hD hS (lv_sub hl [0] rfl)
  · replace h := it_t c6 h
    refine lv_aload_n hx hb dX12_needs_8 rfl (lv_at hl 0 rfl) ?_
    obtain ⟨r7, s8, g9, h⟩ := ob_e h
    refine g_callVi (nA := 0) (mX12_here l D cA ad a fr s0 r7 s8 g9) G hP hD hS (g_good q9_112 q9_114 qs_58 q1_16 q9_115) (by decide +kernel) (by decide) (by decide) sh12_0 rfl rfl hl.1 [.ref (a 0)] rfl (Nat.le_of_ble_eq_true rfl) dX12_needs_9 (fun H locs hP hD hS => ?_)
    refine lv_iload_n hx hb dX12_needs_12 rfl (lv_at hl 1 rfl) ?_
    refine lv_icmp_eq (tgt := 20) hx hb dX12_needs_13 (by decide) (fun c10 => ?_) (fun c10 => ?_)
    · replace h := it_t c10 h
      refine lv_iconst (v := 0) hx hb dX12_needs_20 (by decide) ?_
      exact hB21 0 s8 h _ _ ls hP hD hS (lv_sub hl [0] rfl)
    · replace h := it_f c10 h
      exact hB16  s8 h _ _ ls hP hD hS (lv_sub hl [0] rfl)
def fX12_needsThree (p1 : Int32) (p2 : Int32) (p3 : Int32) (s0 : St) : Option (Int32 × St) :=
  OB (fX12_needs p1 s0) fun r1 s2 =>
  OB (fX12_needs p2 s2) fun r4 s5 =>
  OB (fX12_needs p3 s5) fun r7 s8 =>
  some (0, s8)
set_option maxHeartbeats 4000000 in
set_option maxRecDepth 100000 in
theorem mX12_needsThree (l : Launch) (D : va_G) (cA : Nat → ClassId) (ad a : Nat → Nat) (fr : va_W) (p1 : Int32) (p2 : Int32) (p3 : Int32) (s0 : St) (r : Int32) (s' : St) (h : fX12_needsThree p1 p2 p3 s0 = some (r, s')) : gMet l yX12_needsThree cX12_needsThree 4 none 2 D (TYS cA) ST0 (wm cA ad a fr s0) [.ref (a 0), .int p1, .int p2, .int p3] (fun A => gQv D (TYS cA) A (wm cA ad a fr) s') := by
  refine g_ofW st0_ok (by decide) (Nat.le_of_ble_eq_true rfl) ?_
  intro p e s m args below meth c ls A G hP hD hl
  have G : GC p s m args meth c cX12_needsThree 4 RX12 none A D (TYS cA) ST0 := G
  have hx := G.1
  have hb := G.2.1
  have hS : va_S A s.heap s.heap [] := va_S.rf
  have hl : lv_has ls 4 [(0, .ref (a 0)), (1, .int p1), (2, .int p2), (3, .int p3)] := hl
  unfold fX12_needsThree at h
  refine lv_aload_n hx hb dX12_needsThree_0 rfl (lv_at hl 0 rfl) ?_
  refine lv_iload_n hx hb dX12_needsThree_1 rfl (lv_at hl 1 rfl) ?_
  obtain ⟨r1, s2, g3, h⟩ := ob_e h
  refine g_callVv (nA := 1) (mX12_needs l D cA ad a fr p1 s0 r1 s2 g3) G hP hD hS (g_good q9_120 q9_122 qs_60 q1_16 q9_123) (by decide +kernel) (by decide) (by decide) sh12_0 rfl rfl hl.1 [] rfl (Nat.le_of_ble_eq_true rfl) dX12_needsThree_2 (fun H locs hP hD hS => ?_)
  refine lv_aload_n hx hb dX12_needsThree_5 rfl (lv_at hl 0 rfl) ?_
  refine lv_iload_n hx hb dX12_needsThree_6 rfl (lv_at hl 2 rfl) ?_
  obtain ⟨r4, s5, g6, h⟩ := ob_e h
  refine g_callVv (nA := 1) (mX12_needs l D cA ad a fr p2 s2 r4 s5 g6) G hP hD hS (g_good q9_120 q9_122 qs_60 q1_16 q9_123) (by decide +kernel) (by decide) (by decide) sh12_0 rfl rfl hl.1 [] rfl (Nat.le_of_ble_eq_true rfl) dX12_needsThree_7 (fun H locs hP hD hS => ?_)
  refine lv_aload_n hx hb dX12_needsThree_10 rfl (lv_at hl 0 rfl) ?_
  refine lv_iload_n hx hb dX12_needsThree_11 rfl (lv_at hl 3 rfl) ?_
  obtain ⟨r7, s8, g9, h⟩ := ob_e h
  refine g_callVv (nA := 1) (mX12_needs l D cA ad a fr p3 s5 r7 s8 g9) G hP hD hS (g_good q9_120 q9_122 qs_60 q1_16 q9_123) (by decide +kernel) (by decide) (by decide) sh12_0 rfl rfl hl.1 [] rfl (Nat.le_of_ble_eq_true rfl) dX12_needsThree_12 (fun H locs hP hD hS => ?_)
  exact g_vret G hP hD hS h dX12_needsThree_15
noncomputable def fX12_digits_L40b (nF : Nat) (K40 : Int32 → Int32 → Int32 → St → Option (Int32 × St)) (x1 : Int32) (x2 : Int32) (x3 : Int32) (s1 : St) : Option (Int32 × St) :=
  if (s1 0 15) = 0 then
    if x1 ≤ x3 then
      some (x2, s1)
    else
      OB (fX12_here s1) fun r3 s4 =>
      OB (fX12_in r3 48 57 s4) fun r6 s7 =>
      if r6 = 0 then
        some (x2, s7)
      else
        OB (fX12_here s7) fun r10 s11 =>
        LET (((10 * x2) + r10) - 48) fun y13 =>
        LET (u2 s11 0 14 ((s11 0 14) + 1)) fun s14 =>
        LET (x3 + 1) fun y15 =>
        K40 x1 y13 y15 s14
  else
    some (x2, s1)
noncomputable def fX12_digits_L40 (nF : Nat) : Nat → Int32 → Int32 → Int32 → St → Option (Int32 × St) := fun k => Nat.rec (fun _ _ _ _ => none) (fun _ K => fX12_digits_L40b nF K) k
theorem fX12_digits_L40_s (nF : Nat) (k : Nat) : fX12_digits_L40 nF (k + 1) = fX12_digits_L40b nF (fX12_digits_L40 nF k) := rfl
noncomputable def fX12_digits_B33 (nF : Nat) (x1 : Int32) (z0 : Int32) (s1 : St) : Option (Int32 × St) :=
  BL z0 <|
  LET (u2 s1 0 15 z0) fun s16 =>
  fX12_digits_L40 nF nF x1 0 0 s16
noncomputable def fX12_digits_B28 (nF : Nat) (x1 : Int32) (s1 : St) : Option (Int32 × St) :=
  fX12_digits_B33 nF x1 1 s1
noncomputable def fX12_digits (nF : Nat) (p1 : Int32) (s0 : St) : Option (Int32 × St) :=
  OB (fX12_needs 32 s0) fun r18 s19 =>
  if (s19 0 15) = 0 then
    OB (fX12_here s19) fun r22 s23 =>
    OB (fX12_in r22 48 57 s23) fun r25 s26 =>
    if r25 = 0 then
      fX12_digits_B28 nF p1 s26
    else
      fX12_digits_B33 nF p1 0 s26
  else
    fX12_digits_B28 nF p1 s19
set_option maxHeartbeats 4000000 in
set_option maxRecDepth 100000 in
theorem mX12_digits (l : Launch) (D : va_G) (cA : Nat → ClassId) (ad a : Nat → Nat) (fr : va_W) (nF : Nat) (p1 : Int32) (s0 : St) (r : Int32) (s' : St) (h : fX12_digits nF p1 s0 = some (r, s')) : gMet l yX12_digits cX12_digits 4 (some .int) 2 D (TYS cA) ST0 (wm cA ad a fr s0) [.ref (a 0), .int p1] (fun A => gQi D (TYS cA) A (wm cA ad a fr) r s') := by
  refine g_ofW st0_ok (by decide) (Nat.le_of_ble_eq_true rfl) ?_
  intro p e s m args below meth c ls A G hP hD hl
  have G : GC p s m args meth c cX12_digits 4 RX12 (some .int) A D (TYS cA) ST0 := G
  have hx := G.1
  have hb := G.2.1
  have hS : va_S A s.heap s.heap [] := va_S.rf
  have hl : lv_has ls 4 [(0, .ref (a 0)), (1, .int p1)] := hl
  have hB40 : ∀ (K40 : Int32 → Int32 → Int32 → St → Option (Int32 × St)), (∀ (x1 : Int32) (x2 : Int32) (x3 : Int32) (s1 : St), K40 x1 x2 x3 s1 = some (r, s') → ∀ (H : Heap) (locs : List Loc) (ls : Array Slot), va_P D vwCl (wm cA ad a fr s1) H → va_D A (wm cA ad a fr s1) → va_S A s.heap H locs → lv_has ls 4 [(0, .ref (a 0)), (1, .int x1), (2, .int x2), (3, .int x3)] → W p l e (RM 2) s m args below meth c H locs 0 0 (MQ below (gQi D (TYS cA) A (wm cA ad a fr) r s') args s 0 0 A) (F0 m 40 ls [])) → ∀ (x1 : Int32) (x2 : Int32) (x3 : Int32) (s1 : St), fX12_digits_L40b nF K40 x1 x2 x3 s1 = some (r, s') → ∀ (H : Heap) (locs : List Loc) (ls : Array Slot), va_P D vwCl (wm cA ad a fr s1) H → va_D A (wm cA ad a fr s1) → va_S A s.heap H locs → lv_has ls 4 [(0, .ref (a 0)), (1, .int x1), (2, .int x2), (3, .int x3)] → W p l e (RM 2) s m args below meth c H locs 0 0 (MQ below (gQi D (TYS cA) A (wm cA ad a fr) r s') args s 0 0 A) (F0 m 40 ls []) := by
    intro K40 hK40 x1 x2 x3 s1 h H locs ls hP hD hS hl
    unfold fX12_digits_L40b at h
    refine lv_aload_n hx hb dX12_digits_40 rfl (lv_at hl 0 rfl) ?_
    refine gf12_isWrong G hP dX12_digits_41 ?_
    refine lv_if_ne (tgt := 95) hx hb dX12_digits_44 (by decide) (fun c1 => ?_) (fun c1 => ?_)
    · replace h := it_f c1 h
      refine lv_iload_n hx hb dX12_digits_95 rfl (lv_at hl 2 rfl) ?_
      exact g_ret G hP hD hS h rfl dX12_digits_96
    · replace h := it_t c1 h
      refine lv_iload_n hx hb dX12_digits_47 rfl (lv_at hl 3 rfl) ?_
      refine lv_iload_n hx hb dX12_digits_48 rfl (lv_at hl 1 rfl) ?_
      refine lv_icmp_ge (tgt := 95) hx hb dX12_digits_49 (by decide) (fun c2 => ?_) (fun c2 => ?_)
      · replace h := it_t c2 h
        refine lv_iload_n hx hb dX12_digits_95 rfl (lv_at hl 2 rfl) ?_
        exact g_ret G hP hD hS h rfl dX12_digits_96
      · replace h := it_f c2 h
        refine lv_aload_n hx hb dX12_digits_52 rfl (lv_at hl 0 rfl) ?_
        obtain ⟨r3, s4, g5, h⟩ := ob_e h
        refine g_callVi (nA := 0) (mX12_here l D cA ad a fr s1 r3 s4 g5) G hP hD hS (g_good q9_112 q9_114 qs_58 q1_16 q9_115) (by decide +kernel) (by decide) (by decide) sh12_0 rfl rfl hl.1 [] rfl (Nat.le_of_ble_eq_true rfl) dX12_digits_53 (fun H locs hP hD hS => ?_)
        refine lv_bipush (v := 48) hx hb dX12_digits_56 (by decide) ?_
        refine lv_bipush (v := 57) hx hb dX12_digits_58 (by decide) ?_
        obtain ⟨r6, s7, g8, h⟩ := ob_e h
        refine g_callSi (nA := 3) (mX12_in l D cA ad a fr r3 48 57 s4 r6 s7 g8) G hP hD hS (g_goodS q7_237 q7_238 q1_16 q7_239) (by decide +kernel) (by decide) rfl hl.1 [] rfl (Nat.le_of_ble_eq_true rfl) dX12_digits_60 (fun H locs hP hD hS => ?_)
        refine lv_if_eq (tgt := 95) hx hb dX12_digits_63 (by decide) (fun c9 => ?_) (fun c9 => ?_)
        · replace h := it_t c9 h
          refine lv_iload_n hx hb dX12_digits_95 rfl (lv_at hl 2 rfl) ?_
          exact g_ret G hP hD hS h rfl dX12_digits_96
        · replace h := it_f c9 h
          refine lv_bipush (v := 10) hx hb dX12_digits_66 (by decide) ?_
          refine lv_iload_n hx hb dX12_digits_68 rfl (lv_at hl 2 rfl) ?_
          refine lv_imul hx hb dX12_digits_69 ?_
          refine lv_aload_n hx hb dX12_digits_70 rfl (lv_at hl 0 rfl) ?_
          obtain ⟨r10, s11, g12, h⟩ := ob_e h
          refine g_callVi (nA := 0) (mX12_here l D cA ad a fr s7 r10 s11 g12) G hP hD hS (g_good q9_112 q9_114 qs_58 q1_16 q9_115) (by decide +kernel) (by decide) (by decide) sh12_0 rfl rfl hl.1 [.int (10 * x2)] rfl (Nat.le_of_ble_eq_true rfl) dX12_digits_71 (fun H locs hP hD hS => ?_)
          refine lv_iadd hx hb dX12_digits_74 ?_
          refine lv_bipush (v := 48) hx hb dX12_digits_75 (by decide) ?_
          refine lv_isub hx hb dX12_digits_77 ?_
          refine lv_topi (fun y13 ey13 => ?_)
          replace h := let_e ey13 h
          refine lv_istore_n (lv' := [(2, .int y13), (0, .ref (a 0)), (1, .int x1), (3, .int x3)]) hx hb dX12_digits_78 rfl hl (by decide) rfl (fun ls hl => ?_)
          refine lv_aload_n hx hb dX12_digits_79 rfl (lv_at hl 1 rfl) ?_
          refine lv_dup hx hb dX12_digits_80 rfl ?_
          refine gf12_spot G hP dX12_digits_81 ?_
          refine lv_iconst (v := 1) hx hb dX12_digits_84 (by decide) ?_
          refine lv_iadd hx hb dX12_digits_85 ?_
          refine pf12_spot G hP hD hS dX12_digits_86 (fun s14 es14 H locs hP hD hS => ?_)
          replace h := let_e es14 h
          obtain ⟨y15, ey15⟩ : ∃ y : Int32, y = x3 + 1 := ⟨_, rfl⟩
          replace h := let_e ey15 h
          refine lv_iinc (v := y15) (lv' := [(3, .int y15), (2, .int y13), (0, .ref (a 0)), (1, .int x1)]) hx hb dX12_digits_89 hl (k := 3) rfl (by rw [ey15]; rfl) (by decide) rfl (fun ls hl => ?_)
          refine lv_goto (tgt := 40) hx hb dX12_digits_92 (by decide) ?_
          exact hK40 x1 y13 y15 s14 h H _ ls hP hD hS (lv_sub hl [2, 3, 1, 0] rfl)
  have hL40 : ∀ k : Nat, ∀ (x1 : Int32) (x2 : Int32) (x3 : Int32) (s1 : St), fX12_digits_L40 nF k x1 x2 x3 s1 = some (r, s') → ∀ (H : Heap) (locs : List Loc) (ls : Array Slot), va_P D vwCl (wm cA ad a fr s1) H → va_D A (wm cA ad a fr s1) → va_S A s.heap H locs → lv_has ls 4 [(0, .ref (a 0)), (1, .int x1), (2, .int x2), (3, .int x3)] → W p l e (RM 2) s m args below meth c H locs 0 0 (MQ below (gQi D (TYS cA) A (wm cA ad a fr) r s') args s 0 0 A) (F0 m 40 ls []) := by
    intro k
    induction k with
    | zero => intro x1 x2 x3 s1 h; cases h
    | succ k ih => exact hB40 (fX12_digits_L40 nF k) ih
  have hB33 : ∀ (x1 : Int32) (z0 : Int32) (s1 : St), fX12_digits_B33 nF x1 z0 s1 = some (r, s') → ∀ (H : Heap) (locs : List Loc) (ls : Array Slot), va_P D vwCl (wm cA ad a fr s1) H → va_D A (wm cA ad a fr s1) → va_S A s.heap H locs → lv_has ls 4 [(0, .ref (a 0)), (1, .int x1)] → W p l e (RM 2) s m args below meth c H locs 0 0 (MQ below (gQi D (TYS cA) A (wm cA ad a fr) r s') args s 0 0 A) (F0 m 33 ls [.int z0, .ref (a 0)]) := by
    intro x1 z0 s1 h H locs ls hP hD hS hl
    unfold fX12_digits_B33 at h
    obtain ⟨b17, h⟩ := bl_e h
    refine pf12_isWrong G hP hD hS b17 dX12_digits_33 (fun s16 es16 H locs hP hD hS => ?_)
    replace h := let_e es16 h
    refine lv_iconst (v := 0) hx hb dX12_digits_36 (by decide) ?_
    refine lv_istore_n (lv' := [(2, .int 0), (0, .ref (a 0)), (1, .int x1)]) hx hb dX12_digits_37 rfl hl (by decide) rfl (fun ls hl => ?_)
    refine lv_iconst (v := 0) hx hb dX12_digits_38 (by decide) ?_
    refine lv_istore_n (lv' := [(3, .int 0), (2, .int 0), (0, .ref (a 0)), (1, .int x1)]) hx hb dX12_digits_39 rfl hl (by decide) rfl (fun ls hl => ?_)
    exact hL40 nF x1 0 0 s16 h H _ ls hP hD hS (lv_sub hl [2, 3, 1, 0] rfl)
  have hB28 : ∀ (x1 : Int32) (s1 : St), fX12_digits_B28 nF x1 s1 = some (r, s') → ∀ (H : Heap) (locs : List Loc) (ls : Array Slot), va_P D vwCl (wm cA ad a fr s1) H → va_D A (wm cA ad a fr s1) → va_S A s.heap H locs → lv_has ls 4 [(0, .ref (a 0)), (1, .int x1)] → W p l e (RM 2) s m args below meth c H locs 0 0 (MQ below (gQi D (TYS cA) A (wm cA ad a fr) r s') args s 0 0 A) (F0 m 28 ls [.ref (a 0)]) := by
    intro x1 s1 h H locs ls hP hD hS hl
    unfold fX12_digits_B28 at h
    refine lv_iconst (v := 1) hx hb dX12_digits_28 (by decide) ?_
    refine lv_goto (tgt := 33) hx hb dX12_digits_29 (by decide) ?_
    exact hB33 x1 1 s1 h H _ ls hP hD hS (lv_sub hl [0, 1] rfl)
  unfold fX12_digits at h
  refine lv_aload_n hx hb dX12_digits_0 rfl (lv_at hl 0 rfl) ?_
  refine lv_bipush (v := 32) hx hb dX12_digits_1 (by decide) ?_
  obtain ⟨r18, s19, g20, h⟩ := ob_e h
  refine g_callVv (nA := 1) (mX12_needs l D cA ad a fr 32 s0 r18 s19 g20) G hP hD hS (g_good q9_120 q9_122 qs_60 q1_16 q9_123) (by decide +kernel) (by decide) (by decide) sh12_0 rfl rfl hl.1 [] rfl (Nat.le_of_ble_eq_true rfl) dX12_digits_3 (fun H locs hP hD hS => ?_)
  refine lv_aload_n hx hb dX12_digits_6 rfl (lv_at hl 0 rfl) ?_
  refine lv_aload_n hx hb dX12_digits_7 rfl (lv_at hl 0 rfl) ?_
  refine gf12_isWrong G hP dX12_digits_8 ?_
  refine lv_if_ne (tgt := 28) hx hb dX12_digits_11 (by decide) (fun c21 => ?_) (fun c21 => ?_)
  · replace h := it_f c21 h
    exact hB28 p1 s19 h _ _ ls hP hD hS (lv_sub hl [0, 1] rfl)
  · replace h := it_t c21 h
    refine lv_aload_n hx hb dX12_digits_14 rfl (lv_at hl 0 rfl) ?_
    obtain ⟨r22, s23, g24, h⟩ := ob_e h
    refine g_callVi (nA := 0) (mX12_here l D cA ad a fr s19 r22 s23 g24) G hP hD hS (g_good q9_112 q9_114 qs_58 q1_16 q9_115) (by decide +kernel) (by decide) (by decide) sh12_0 rfl rfl hl.1 [.ref (a 0)] rfl (Nat.le_of_ble_eq_true rfl) dX12_digits_15 (fun H locs hP hD hS => ?_)
    refine lv_bipush (v := 48) hx hb dX12_digits_18 (by decide) ?_
    refine lv_bipush (v := 57) hx hb dX12_digits_20 (by decide) ?_
    obtain ⟨r25, s26, g27, h⟩ := ob_e h
    refine g_callSi (nA := 3) (mX12_in l D cA ad a fr r22 48 57 s23 r25 s26 g27) G hP hD hS (g_goodS q7_237 q7_238 q1_16 q7_239) (by decide +kernel) (by decide) rfl hl.1 [.ref (a 0)] rfl (Nat.le_of_ble_eq_true rfl) dX12_digits_22 (fun H locs hP hD hS => ?_)
    refine lv_if_ne (tgt := 32) hx hb dX12_digits_25 (by decide) (fun c28 => ?_) (fun c28 => ?_)
    · replace h := it_f c28 h
      refine lv_iconst (v := 0) hx hb dX12_digits_32 (by decide) ?_
      exact hB33 p1 0 s26 h _ _ ls hP hD hS (lv_sub hl [0, 1] rfl)
    · replace h := it_t c28 h
      exact hB28 p1 s26 h _ _ ls hP hD hS (lv_sub hl [0, 1] rfl)
noncomputable def fX12_parsesS (nF : Nat) (p1 : Int32) (s0 : St) : Option (Int32 × St) :=
  OB (fX12_here s0) fun r1 s2 =>
  if r1 = 104 then
    BND p1 240 <|
    LET (u2 s2 8 p1.toNatClampNeg 104) fun s23 =>
    OB (fX12_needsThree 104 105 112 s23) fun r24 s25 =>
    OB (fX12_digits nF 1 s25) fun r27 s28 =>
    BND (p1 + 1) 240 <|
    LET (u2 s28 8 (p1 + 1).toNatClampNeg r27) fun s31 =>
    OB (fX12_digits nF 1 s31) fun r32 s33 =>
    BND (p1 + 2) 240 <|
    LET (u2 s33 8 (p1 + 2).toNatClampNeg r32) fun s36 =>
    some (0, s36)
  else
    OB (fX12_needsThree 116 101 112 s2) fun r5 s6 =>
    if (s6 0 15) = 0 then
      OB (fX12_here s6) fun r11 s12 =>
      if r11 = 32 then
        OB (fX12_digits nF 2 s12) fun r17 s18 =>
        BND (p1 + 1) 240 <|
        LET (u2 s18 8 (p1 + 1).toNatClampNeg r17) fun s21 =>
        some (0, s21)
      else
        BND (p1 + 1) 240 <|
        LET (u2 s12 8 (p1 + 1).toNatClampNeg 1) fun s16 =>
        some (0, s16)
    else
      BND (p1 + 1) 240 <|
      LET (u2 s6 8 (p1 + 1).toNatClampNeg 1) fun s10 =>
      some (0, s10)
set_option maxHeartbeats 4000000 in
set_option maxRecDepth 100000 in
theorem mX12_parsesS (l : Launch) (D : va_G) (cA : Nat → ClassId) (ad a : Nat → Nat) (fr : va_W) (nF : Nat) (p1 : Int32) (s0 : St) (r : Int32) (s' : St) (h : fX12_parsesS nF p1 s0 = some (r, s')) : gMet l yX12_parsesS cX12_parsesS 2 none 3 D (TYS cA) ST0 (wm cA ad a fr s0) [.ref (a 0), .int p1] (fun A => gQv D (TYS cA) A (wm cA ad a fr) s') := by
  refine g_ofW st0_ok (by decide) (Nat.le_of_ble_eq_true rfl) ?_
  intro p e s m args below meth c ls A G hP hD hl
  have G : GC p s m args meth c cX12_parsesS 2 RX12 none A D (TYS cA) ST0 := G
  have hx := G.1
  have hb := G.2.1
  have hS : va_S A s.heap s.heap [] := va_S.rf
  have hl : lv_has ls 2 [(0, .ref (a 0)), (1, .int p1)] := hl
  unfold fX12_parsesS at h
  refine lv_aload_n hx hb dX12_parsesS_0 rfl (lv_at hl 0 rfl) ?_
  obtain ⟨r1, s2, g3, h⟩ := ob_e h
  refine g_callVi (nA := 0) (mX12_here l D cA ad a fr s0 r1 s2 g3) G hP hD hS (g_good q9_112 q9_114 qs_58 q1_16 q9_115) (by decide +kernel) (by decide) (by decide) sh12_0 rfl rfl hl.1 [] rfl (Nat.le_of_ble_eq_true rfl) dX12_parsesS_1 (fun H locs hP hD hS => ?_)
  refine lv_bipush (v := 104) hx hb dX12_parsesS_4 (by decide) ?_
  refine lv_icmp_ne (tgt := 56) hx hb dX12_parsesS_6 (by decide) (fun c4 => ?_) (fun c4 => ?_)
  · replace h := it_f c4 h
    refine lv_aload_n hx hb dX12_parsesS_56 rfl (lv_at hl 0 rfl) ?_
    refine lv_bipush (v := 116) hx hb dX12_parsesS_57 (by decide) ?_
    refine lv_bipush (v := 101) hx hb dX12_parsesS_59 (by decide) ?_
    refine lv_bipush (v := 112) hx hb dX12_parsesS_61 (by decide) ?_
    obtain ⟨r5, s6, g7, h⟩ := ob_e h
    refine g_callVv (nA := 3) (mX12_needsThree l D cA ad a fr 116 101 112 s2 r5 s6 g7) G hP hD hS (g_good q9_116 q9_118 qs_59 q1_16 q9_119) (by decide +kernel) (by decide) (by decide) sh12_0 rfl rfl hl.1 [] rfl (Nat.le_of_ble_eq_true rfl) dX12_parsesS_63 (fun H locs hP hD hS => ?_)
    refine lv_aload_n hx hb dX12_parsesS_66 rfl (lv_at hl 0 rfl) ?_
    refine gf12_parsed G hP dX12_parsesS_67 ?_
    refine lv_iload_n hx hb dX12_parsesS_70 rfl (lv_at hl 1 rfl) ?_
    refine lv_iconst (v := 1) hx hb dX12_parsesS_71 (by decide) ?_
    refine lv_iadd hx hb dX12_parsesS_72 ?_
    refine lv_aload_n hx hb dX12_parsesS_73 rfl (lv_at hl 0 rfl) ?_
    refine gf12_isWrong G hP dX12_parsesS_74 ?_
    refine lv_if_ne (tgt := 97) hx hb dX12_parsesS_77 (by decide) (fun c8 => ?_) (fun c8 => ?_)
    · replace h := it_f c8 h
      refine lv_iconst (v := 1) hx hb dX12_parsesS_97 (by decide) ?_
      obtain ⟨b9, h⟩ := bnd_e h
      refine as12_8 G hP hD hS b9 dX12_parsesS_98 (fun s10 es10 H locs hP hD hS => ?_)
      replace h := let_e es10 h
      exact g_vret G hP hD hS h dX12_parsesS_99
    · replace h := it_t c8 h
      refine lv_aload_n hx hb dX12_parsesS_80 rfl (lv_at hl 0 rfl) ?_
      obtain ⟨r11, s12, g13, h⟩ := ob_e h
      refine g_callVi (nA := 0) (mX12_here l D cA ad a fr s6 r11 s12 g13) G hP hD hS (g_good q9_112 q9_114 qs_58 q1_16 q9_115) (by decide +kernel) (by decide) (by decide) sh12_0 rfl rfl hl.1 [.int (p1 + 1), .ref (a 8)] rfl (Nat.le_of_ble_eq_true rfl) dX12_parsesS_81 (fun H locs hP hD hS => ?_)
      refine lv_bipush (v := 32) hx hb dX12_parsesS_84 (by decide) ?_
      refine lv_icmp_ne (tgt := 97) hx hb dX12_parsesS_86 (by decide) (fun c14 => ?_) (fun c14 => ?_)
      · replace h := it_f c14 h
        refine lv_iconst (v := 1) hx hb dX12_parsesS_97 (by decide) ?_
        obtain ⟨b15, h⟩ := bnd_e h
        refine as12_8 G hP hD hS b15 dX12_parsesS_98 (fun s16 es16 H locs hP hD hS => ?_)
        replace h := let_e es16 h
        exact g_vret G hP hD hS h dX12_parsesS_99
      · replace h := it_t c14 h
        refine lv_aload_n hx hb dX12_parsesS_89 rfl (lv_at hl 0 rfl) ?_
        refine lv_iconst (v := 2) hx hb dX12_parsesS_90 (by decide) ?_
        obtain ⟨r17, s18, g19, h⟩ := ob_e h
        refine g_callVi (nA := 1) (mX12_digits l D cA ad a fr nF 2 s12 r17 s18 g19) G hP hD hS (g_good q9_124 q9_126 qs_61 q1_16 q9_127) (by decide +kernel) (by decide) (by decide) sh12_0 rfl rfl hl.1 [.int (p1 + 1), .ref (a 8)] rfl (Nat.le_of_ble_eq_true rfl) dX12_parsesS_91 (fun H locs hP hD hS => ?_)
        refine lv_goto (tgt := 98) hx hb dX12_parsesS_94 (by decide) ?_
        obtain ⟨b20, h⟩ := bnd_e h
        refine as12_8 G hP hD hS b20 dX12_parsesS_98 (fun s21 es21 H locs hP hD hS => ?_)
        replace h := let_e es21 h
        exact g_vret G hP hD hS h dX12_parsesS_99
  · replace h := it_t c4 h
    refine lv_aload_n hx hb dX12_parsesS_9 rfl (lv_at hl 0 rfl) ?_
    refine gf12_parsed G hP dX12_parsesS_10 ?_
    refine lv_iload_n hx hb dX12_parsesS_13 rfl (lv_at hl 1 rfl) ?_
    refine lv_bipush (v := 104) hx hb dX12_parsesS_14 (by decide) ?_
    obtain ⟨b22, h⟩ := bnd_e h
    refine as12_8 G hP hD hS b22 dX12_parsesS_16 (fun s23 es23 H locs hP hD hS => ?_)
    replace h := let_e es23 h
    refine lv_aload_n hx hb dX12_parsesS_17 rfl (lv_at hl 0 rfl) ?_
    refine lv_bipush (v := 104) hx hb dX12_parsesS_18 (by decide) ?_
    refine lv_bipush (v := 105) hx hb dX12_parsesS_20 (by decide) ?_
    refine lv_bipush (v := 112) hx hb dX12_parsesS_22 (by decide) ?_
    obtain ⟨r24, s25, g26, h⟩ := ob_e h
    refine g_callVv (nA := 3) (mX12_needsThree l D cA ad a fr 104 105 112 s23 r24 s25 g26) G hP hD hS (g_good q9_116 q9_118 qs_59 q1_16 q9_119) (by decide +kernel) (by decide) (by decide) sh12_0 rfl rfl hl.1 [] rfl (Nat.le_of_ble_eq_true rfl) dX12_parsesS_24 (fun H locs hP hD hS => ?_)
    refine lv_aload_n hx hb dX12_parsesS_27 rfl (lv_at hl 0 rfl) ?_
    refine gf12_parsed G hP dX12_parsesS_28 ?_
    refine lv_iload_n hx hb dX12_parsesS_31 rfl (lv_at hl 1 rfl) ?_
    refine lv_iconst (v := 1) hx hb dX12_parsesS_32 (by decide) ?_
    refine lv_iadd hx hb dX12_parsesS_33 ?_
    refine lv_aload_n hx hb dX12_parsesS_34 rfl (lv_at hl 0 rfl) ?_
    refine lv_iconst (v := 1) hx hb dX12_parsesS_35 (by decide) ?_
    obtain ⟨r27, s28, g29, h⟩ := ob_e h
    refine g_callVi (nA := 1) (mX12_digits l D cA ad a fr nF 1 s25 r27 s28 g29) G hP hD hS (g_good q9_124 q9_126 qs_61 q1_16 q9_127) (by decide +kernel) (by decide) (by decide) sh12_0 rfl rfl hl.1 [.int (p1 + 1), .ref (a 8)] rfl (Nat.le_of_ble_eq_true rfl) dX12_parsesS_36 (fun H locs hP hD hS => ?_)
    obtain ⟨b30, h⟩ := bnd_e h
    refine as12_8 G hP hD hS b30 dX12_parsesS_39 (fun s31 es31 H locs hP hD hS => ?_)
    replace h := let_e es31 h
    refine lv_aload_n hx hb dX12_parsesS_40 rfl (lv_at hl 0 rfl) ?_
    refine gf12_parsed G hP dX12_parsesS_41 ?_
    refine lv_iload_n hx hb dX12_parsesS_44 rfl (lv_at hl 1 rfl) ?_
    refine lv_iconst (v := 2) hx hb dX12_parsesS_45 (by decide) ?_
    refine lv_iadd hx hb dX12_parsesS_46 ?_
    refine lv_aload_n hx hb dX12_parsesS_47 rfl (lv_at hl 0 rfl) ?_
    refine lv_iconst (v := 1) hx hb dX12_parsesS_48 (by decide) ?_
    obtain ⟨r32, s33, g34, h⟩ := ob_e h
    refine g_callVi (nA := 1) (mX12_digits l D cA ad a fr nF 1 s31 r32 s33 g34) G hP hD hS (g_good q9_124 q9_126 qs_61 q1_16 q9_127) (by decide +kernel) (by decide) (by decide) sh12_0 rfl rfl hl.1 [.int (p1 + 2), .ref (a 8)] rfl (Nat.le_of_ble_eq_true rfl) dX12_parsesS_49 (fun H locs hP hD hS => ?_)
    obtain ⟨b35, h⟩ := bnd_e h
    refine as12_8 G hP hD hS b35 dX12_parsesS_52 (fun s36 es36 H locs hP hD hS => ?_)
    replace h := let_e es36 h
    refine lv_goto (tgt := 99) hx hb dX12_parsesS_53 (by decide) ?_
    exact g_vret G hP hD hS h dX12_parsesS_99
noncomputable def fX12_parsesCommand_B342 (nF : Nat) (s1 : St) : Option (Int32 × St) :=
  LET (u2 s1 0 15 1) fun s1 =>
  LET (u2 s1 0 14 ((s1 0 14) - 1)) fun s2 =>
  some (0, s2)
noncomputable def fX12_parsesCommand (nF : Nat) (p1 : Int32) (s0 : St) : Option (Int32 × St) :=
  OB (fX12_here s0) fun r3 s4 =>
  LET (u2 s4 0 14 ((s4 0 14) + 1)) fun s6 =>
  BND p1 240 <|
  LET (u2 s6 8 p1.toNatClampNeg r3) fun s8 =>
  if r3 = 99 then
    OB (fX12_needsThree 108 101 97 s8) fun r10 s11 =>
    OB (fX12_needs 114 s11) fun r13 s14 =>
    OB (fX12_digits nF 1 s14) fun r16 s17 =>
    BND (p1 + 1) 240 <|
    LET (u2 s17 8 (p1 + 1).toNatClampNeg r16) fun s20 =>
    some (0, s20)
  else
  if r3 = 100 then
    OB (fX12_needsThree 114 111 112 s8) fun r22 s23 =>
    OB (fX12_digits nF 2 s23) fun r25 s26 =>
    BND (p1 + 1) 240 <|
    LET (u2 s26 8 (p1 + 1).toNatClampNeg r25) fun s29 =>
    some (0, s29)
  else
  if r3 = 103 then
    OB (fX12_needsThree 101 97 114 s8) fun r31 s32 =>
    OB (fX12_digits nF 1 s32) fun r34 s35 =>
    BND (p1 + 1) 240 <|
    LET (u2 s35 8 (p1 + 1).toNatClampNeg r34) fun s38 =>
    OB (fX12_digits nF 1 s38) fun r39 s40 =>
    BND (p1 + 2) 240 <|
    LET (u2 s40 8 (p1 + 2).toNatClampNeg r39) fun s43 =>
    some (0, s43)
  else
  if r3 = 109 then
    OB (fX12_needsThree 101 115 104 s8) fun r45 s46 =>
    OB (fX12_digits nF 1 s46) fun r48 s49 =>
    BND (p1 + 1) 240 <|
    LET (u2 s49 8 (p1 + 1).toNatClampNeg r48) fun s52 =>
    OB (fX12_digits nF 1 s52) fun r53 s54 =>
    BND (p1 + 2) 240 <|
    LET (u2 s54 8 (p1 + 2).toNatClampNeg r53) fun s57 =>
    some (0, s57)
  else
  if r3 = 110 then
    OB (fX12_needsThree 111 105 115 s8) fun r59 s60 =>
    OB (fX12_needs 101 s60) fun r62 s63 =>
    OB (fX12_digits nF 1 s63) fun r65 s66 =>
    BND (p1 + 1) 240 <|
    LET (u2 s66 8 (p1 + 1).toNatClampNeg r65) fun s69 =>
    OB (fX12_digits nF 1 s69) fun r70 s71 =>
    BND (p1 + 2) 240 <|
    LET (u2 s71 8 (p1 + 2).toNatClampNeg r70) fun s74 =>
    OB (fX12_digits nF 2 s74) fun r75 s76 =>
    BND (p1 + 3) 240 <|
    LET (u2 s76 8 (p1 + 3).toNatClampNeg r75) fun s79 =>
    some (0, s79)
  else
  if r3 = 114 then
    OB (fX12_needsThree 101 108 101 s8) fun r81 s82 =>
    OB (fX12_needsThree 97 115 101 s82) fun r84 s85 =>
    OB (fX12_digits nF 1 s85) fun r87 s88 =>
    BND (p1 + 1) 240 <|
    LET (u2 s88 8 (p1 + 1).toNatClampNeg r87) fun s91 =>
    some (0, s91)
  else
  if r3 = 115 then
    OB (fX12_parsesS nF p1 s8) fun r93 s94 =>
    some (0, s94)
  else
  fX12_parsesCommand_B342 nF s8
set_option maxHeartbeats 4000000 in
set_option maxRecDepth 100000 in
theorem mX12_parsesCommand (l : Launch) (D : va_G) (cA : Nat → ClassId) (ad a : Nat → Nat) (fr : va_W) (nF : Nat) (p1 : Int32) (s0 : St) (r : Int32) (s' : St) (h : fX12_parsesCommand nF p1 s0 = some (r, s')) : gMet l yX12_parsesCommand cX12_parsesCommand 3 none 4 D (TYS cA) ST0 (wm cA ad a fr s0) [.ref (a 0), .int p1] (fun A => gQv D (TYS cA) A (wm cA ad a fr) s') := by
  refine g_ofW st0_ok (by decide) (Nat.le_of_ble_eq_true rfl) ?_
  intro p e s m args below meth c ls A G hP hD hl
  have G : GC p s m args meth c cX12_parsesCommand 3 RX12 none A D (TYS cA) ST0 := G
  have hx := G.1
  have hb := G.2.1
  have hS : va_S A s.heap s.heap [] := va_S.rf
  have hl : lv_has ls 3 [(0, .ref (a 0)), (1, .int p1)] := hl
  have hB342 : ∀ (s1 : St), fX12_parsesCommand_B342 nF s1 = some (r, s') → ∀ (H : Heap) (locs : List Loc) (ls : Array Slot), va_P D vwCl (wm cA ad a fr s1) H → va_D A (wm cA ad a fr s1) → va_S A s.heap H locs → lv_has ls 3 [(0, .ref (a 0))] → W p l e (RM 4) s m args below meth c H locs 0 0 (MQ below (gQv D (TYS cA) A (wm cA ad a fr) s') args s 0 0 A) (F0 m 342 ls []) := by
    intro s1 h H locs ls hP hD hS hl
    unfold fX12_parsesCommand_B342 at h
    refine lv_aload_n hx hb dX12_parsesCommand_342 rfl (lv_at hl 0 rfl) ?_
    refine lv_iconst (v := 1) hx hb dX12_parsesCommand_343 (by decide) ?_
    refine pf12_isWrong G hP hD hS (Or.inr rfl) dX12_parsesCommand_344 (fun s1 es1 H locs hP hD hS => ?_)
    replace h := let_e es1 h
    refine lv_aload_n hx hb dX12_parsesCommand_347 rfl (lv_at hl 0 rfl) ?_
    refine lv_dup hx hb dX12_parsesCommand_348 rfl ?_
    refine gf12_spot G hP dX12_parsesCommand_349 ?_
    refine lv_iconst (v := 1) hx hb dX12_parsesCommand_352 (by decide) ?_
    refine lv_isub hx hb dX12_parsesCommand_353 ?_
    refine pf12_spot G hP hD hS dX12_parsesCommand_354 (fun s2 es2 H locs hP hD hS => ?_)
    replace h := let_e es2 h
    exact g_vret G hP hD hS h dX12_parsesCommand_357
  unfold fX12_parsesCommand at h
  refine lv_aload_n hx hb dX12_parsesCommand_0 rfl (lv_at hl 0 rfl) ?_
  obtain ⟨r3, s4, g5, h⟩ := ob_e h
  refine g_callVi (nA := 0) (mX12_here l D cA ad a fr s0 r3 s4 g5) G hP hD hS (g_good q9_112 q9_114 qs_58 q1_16 q9_115) (by decide +kernel) (by decide) (by decide) sh12_0 rfl rfl hl.1 [] rfl (Nat.le_of_ble_eq_true rfl) dX12_parsesCommand_1 (fun H locs hP hD hS => ?_)
  refine lv_istore_n (lv' := [(2, .int r3), (0, .ref (a 0)), (1, .int p1)]) hx hb dX12_parsesCommand_4 rfl hl (by decide) rfl (fun ls hl => ?_)
  refine lv_aload_n hx hb dX12_parsesCommand_5 rfl (lv_at hl 1 rfl) ?_
  refine lv_dup hx hb dX12_parsesCommand_6 rfl ?_
  refine gf12_spot G hP dX12_parsesCommand_7 ?_
  refine lv_iconst (v := 1) hx hb dX12_parsesCommand_10 (by decide) ?_
  refine lv_iadd hx hb dX12_parsesCommand_11 ?_
  refine pf12_spot G hP hD hS dX12_parsesCommand_12 (fun s6 es6 H locs hP hD hS => ?_)
  replace h := let_e es6 h
  refine lv_aload_n hx hb dX12_parsesCommand_15 rfl (lv_at hl 1 rfl) ?_
  refine gf12_parsed G hP dX12_parsesCommand_16 ?_
  refine lv_iload_n hx hb dX12_parsesCommand_19 rfl (lv_at hl 2 rfl) ?_
  refine lv_iload_n hx hb dX12_parsesCommand_20 rfl (lv_at hl 0 rfl) ?_
  obtain ⟨b7, h⟩ := bnd_e h
  refine as12_8 G hP hD hS b7 dX12_parsesCommand_21 (fun s8 es8 H locs hP hD hS => ?_)
  replace h := let_e es8 h
  refine lv_iload_n hx hb dX12_parsesCommand_22 rfl (lv_at hl 0 rfl) ?_
  have htab := dX12_parsesCommand_23
  by_cases c9 : r3 = 99
  · replace h := it_t c9 h
    refine g_tabk (off := 243) (tgt := 266) hx hb 99 c9 htab (by decide +kernel) (by decide +kernel) (by decide) ?_
    refine lv_aload_n hx hb dX12_parsesCommand_266 rfl (lv_at hl 1 rfl) ?_
    refine lv_bipush (v := 108) hx hb dX12_parsesCommand_267 (by decide) ?_
    refine lv_bipush (v := 101) hx hb dX12_parsesCommand_269 (by decide) ?_
    refine lv_bipush (v := 97) hx hb dX12_parsesCommand_271 (by decide) ?_
    obtain ⟨r10, s11, g12, h⟩ := ob_e h
    refine g_callVv (nA := 3) (mX12_needsThree l D cA ad a fr 108 101 97 s8 r10 s11 g12) G hP hD hS (g_good q9_116 q9_118 qs_59 q1_16 q9_119) (by decide +kernel) (by decide) (by decide) sh12_0 rfl rfl hl.1 [] rfl (Nat.le_of_ble_eq_true rfl) dX12_parsesCommand_273 (fun H locs hP hD hS => ?_)
    refine lv_aload_n hx hb dX12_parsesCommand_276 rfl (lv_at hl 1 rfl) ?_
    refine lv_bipush (v := 114) hx hb dX12_parsesCommand_277 (by decide) ?_
    obtain ⟨r13, s14, g15, h⟩ := ob_e h
    refine g_callVv (nA := 1) (mX12_needs l D cA ad a fr 114 s11 r13 s14 g15) G hP hD hS (g_good q9_120 q9_122 qs_60 q1_16 q9_123) (by decide +kernel) (by decide) (by decide) sh12_0 rfl rfl hl.1 [] rfl (Nat.le_of_ble_eq_true rfl) dX12_parsesCommand_279 (fun H locs hP hD hS => ?_)
    refine lv_aload_n hx hb dX12_parsesCommand_282 rfl (lv_at hl 1 rfl) ?_
    refine gf12_parsed G hP dX12_parsesCommand_283 ?_
    refine lv_iload_n hx hb dX12_parsesCommand_286 rfl (lv_at hl 2 rfl) ?_
    refine lv_iconst (v := 1) hx hb dX12_parsesCommand_287 (by decide) ?_
    refine lv_iadd hx hb dX12_parsesCommand_288 ?_
    refine lv_aload_n hx hb dX12_parsesCommand_289 rfl (lv_at hl 1 rfl) ?_
    refine lv_iconst (v := 1) hx hb dX12_parsesCommand_290 (by decide) ?_
    obtain ⟨r16, s17, g18, h⟩ := ob_e h
    refine g_callVi (nA := 1) (mX12_digits l D cA ad a fr nF 1 s14 r16 s17 g18) G hP hD hS (g_good q9_124 q9_126 qs_61 q1_16 q9_127) (by decide +kernel) (by decide) (by decide) sh12_0 rfl rfl hl.1 [.int (p1 + 1), .ref (a 8)] rfl (Nat.le_of_ble_eq_true rfl) dX12_parsesCommand_291 (fun H locs hP hD hS => ?_)
    obtain ⟨b19, h⟩ := bnd_e h
    refine as12_8 G hP hD hS b19 dX12_parsesCommand_294 (fun s20 es20 H locs hP hD hS => ?_)
    replace h := let_e es20 h
    refine lv_goto (tgt := 357) hx hb dX12_parsesCommand_295 (by decide) ?_
    exact g_vret G hP hD hS h dX12_parsesCommand_357
  replace h := it_f c9 h
  by_cases c21 : r3 = 100
  · replace h := it_t c21 h
    refine g_tabk (off := 139) (tgt := 162) hx hb 100 c21 htab (by decide +kernel) (by decide +kernel) (by decide) ?_
    refine lv_aload_n hx hb dX12_parsesCommand_162 rfl (lv_at hl 1 rfl) ?_
    refine lv_bipush (v := 114) hx hb dX12_parsesCommand_163 (by decide) ?_
    refine lv_bipush (v := 111) hx hb dX12_parsesCommand_165 (by decide) ?_
    refine lv_bipush (v := 112) hx hb dX12_parsesCommand_167 (by decide) ?_
    obtain ⟨r22, s23, g24, h⟩ := ob_e h
    refine g_callVv (nA := 3) (mX12_needsThree l D cA ad a fr 114 111 112 s8 r22 s23 g24) G hP hD hS (g_good q9_116 q9_118 qs_59 q1_16 q9_119) (by decide +kernel) (by decide) (by decide) sh12_0 rfl rfl hl.1 [] rfl (Nat.le_of_ble_eq_true rfl) dX12_parsesCommand_169 (fun H locs hP hD hS => ?_)
    refine lv_aload_n hx hb dX12_parsesCommand_172 rfl (lv_at hl 1 rfl) ?_
    refine gf12_parsed G hP dX12_parsesCommand_173 ?_
    refine lv_iload_n hx hb dX12_parsesCommand_176 rfl (lv_at hl 2 rfl) ?_
    refine lv_iconst (v := 1) hx hb dX12_parsesCommand_177 (by decide) ?_
    refine lv_iadd hx hb dX12_parsesCommand_178 ?_
    refine lv_aload_n hx hb dX12_parsesCommand_179 rfl (lv_at hl 1 rfl) ?_
    refine lv_iconst (v := 2) hx hb dX12_parsesCommand_180 (by decide) ?_
    obtain ⟨r25, s26, g27, h⟩ := ob_e h
    refine g_callVi (nA := 1) (mX12_digits l D cA ad a fr nF 2 s23 r25 s26 g27) G hP hD hS (g_good q9_124 q9_126 qs_61 q1_16 q9_127) (by decide +kernel) (by decide) (by decide) sh12_0 rfl rfl hl.1 [.int (p1 + 1), .ref (a 8)] rfl (Nat.le_of_ble_eq_true rfl) dX12_parsesCommand_181 (fun H locs hP hD hS => ?_)
    obtain ⟨b28, h⟩ := bnd_e h
    refine as12_8 G hP hD hS b28 dX12_parsesCommand_184 (fun s29 es29 H locs hP hD hS => ?_)
    replace h := let_e es29 h
    refine lv_goto (tgt := 357) hx hb dX12_parsesCommand_185 (by decide) ?_
    exact g_vret G hP hD hS h dX12_parsesCommand_357
  replace h := it_f c21 h
  by_cases c30 : r3 = 103
  · replace h := it_t c30 h
    refine g_tabk (off := 165) (tgt := 188) hx hb 103 c30 htab (by decide +kernel) (by decide +kernel) (by decide) ?_
    refine lv_aload_n hx hb dX12_parsesCommand_188 rfl (lv_at hl 1 rfl) ?_
    refine lv_bipush (v := 101) hx hb dX12_parsesCommand_189 (by decide) ?_
    refine lv_bipush (v := 97) hx hb dX12_parsesCommand_191 (by decide) ?_
    refine lv_bipush (v := 114) hx hb dX12_parsesCommand_193 (by decide) ?_
    obtain ⟨r31, s32, g33, h⟩ := ob_e h
    refine g_callVv (nA := 3) (mX12_needsThree l D cA ad a fr 101 97 114 s8 r31 s32 g33) G hP hD hS (g_good q9_116 q9_118 qs_59 q1_16 q9_119) (by decide +kernel) (by decide) (by decide) sh12_0 rfl rfl hl.1 [] rfl (Nat.le_of_ble_eq_true rfl) dX12_parsesCommand_195 (fun H locs hP hD hS => ?_)
    refine lv_aload_n hx hb dX12_parsesCommand_198 rfl (lv_at hl 1 rfl) ?_
    refine gf12_parsed G hP dX12_parsesCommand_199 ?_
    refine lv_iload_n hx hb dX12_parsesCommand_202 rfl (lv_at hl 2 rfl) ?_
    refine lv_iconst (v := 1) hx hb dX12_parsesCommand_203 (by decide) ?_
    refine lv_iadd hx hb dX12_parsesCommand_204 ?_
    refine lv_aload_n hx hb dX12_parsesCommand_205 rfl (lv_at hl 1 rfl) ?_
    refine lv_iconst (v := 1) hx hb dX12_parsesCommand_206 (by decide) ?_
    obtain ⟨r34, s35, g36, h⟩ := ob_e h
    refine g_callVi (nA := 1) (mX12_digits l D cA ad a fr nF 1 s32 r34 s35 g36) G hP hD hS (g_good q9_124 q9_126 qs_61 q1_16 q9_127) (by decide +kernel) (by decide) (by decide) sh12_0 rfl rfl hl.1 [.int (p1 + 1), .ref (a 8)] rfl (Nat.le_of_ble_eq_true rfl) dX12_parsesCommand_207 (fun H locs hP hD hS => ?_)
    obtain ⟨b37, h⟩ := bnd_e h
    refine as12_8 G hP hD hS b37 dX12_parsesCommand_210 (fun s38 es38 H locs hP hD hS => ?_)
    replace h := let_e es38 h
    refine lv_aload_n hx hb dX12_parsesCommand_211 rfl (lv_at hl 1 rfl) ?_
    refine gf12_parsed G hP dX12_parsesCommand_212 ?_
    refine lv_iload_n hx hb dX12_parsesCommand_215 rfl (lv_at hl 2 rfl) ?_
    refine lv_iconst (v := 2) hx hb dX12_parsesCommand_216 (by decide) ?_
    refine lv_iadd hx hb dX12_parsesCommand_217 ?_
    refine lv_aload_n hx hb dX12_parsesCommand_218 rfl (lv_at hl 1 rfl) ?_
    refine lv_iconst (v := 1) hx hb dX12_parsesCommand_219 (by decide) ?_
    obtain ⟨r39, s40, g41, h⟩ := ob_e h
    refine g_callVi (nA := 1) (mX12_digits l D cA ad a fr nF 1 s38 r39 s40 g41) G hP hD hS (g_good q9_124 q9_126 qs_61 q1_16 q9_127) (by decide +kernel) (by decide) (by decide) sh12_0 rfl rfl hl.1 [.int (p1 + 2), .ref (a 8)] rfl (Nat.le_of_ble_eq_true rfl) dX12_parsesCommand_220 (fun H locs hP hD hS => ?_)
    obtain ⟨b42, h⟩ := bnd_e h
    refine as12_8 G hP hD hS b42 dX12_parsesCommand_223 (fun s43 es43 H locs hP hD hS => ?_)
    replace h := let_e es43 h
    refine lv_goto (tgt := 357) hx hb dX12_parsesCommand_224 (by decide) ?_
    exact g_vret G hP hD hS h dX12_parsesCommand_357
  replace h := it_f c30 h
  by_cases c44 : r3 = 109
  · replace h := it_t c44 h
    refine g_tabk (off := 204) (tgt := 227) hx hb 109 c44 htab (by decide +kernel) (by decide +kernel) (by decide) ?_
    refine lv_aload_n hx hb dX12_parsesCommand_227 rfl (lv_at hl 1 rfl) ?_
    refine lv_bipush (v := 101) hx hb dX12_parsesCommand_228 (by decide) ?_
    refine lv_bipush (v := 115) hx hb dX12_parsesCommand_230 (by decide) ?_
    refine lv_bipush (v := 104) hx hb dX12_parsesCommand_232 (by decide) ?_
    obtain ⟨r45, s46, g47, h⟩ := ob_e h
    refine g_callVv (nA := 3) (mX12_needsThree l D cA ad a fr 101 115 104 s8 r45 s46 g47) G hP hD hS (g_good q9_116 q9_118 qs_59 q1_16 q9_119) (by decide +kernel) (by decide) (by decide) sh12_0 rfl rfl hl.1 [] rfl (Nat.le_of_ble_eq_true rfl) dX12_parsesCommand_234 (fun H locs hP hD hS => ?_)
    refine lv_aload_n hx hb dX12_parsesCommand_237 rfl (lv_at hl 1 rfl) ?_
    refine gf12_parsed G hP dX12_parsesCommand_238 ?_
    refine lv_iload_n hx hb dX12_parsesCommand_241 rfl (lv_at hl 2 rfl) ?_
    refine lv_iconst (v := 1) hx hb dX12_parsesCommand_242 (by decide) ?_
    refine lv_iadd hx hb dX12_parsesCommand_243 ?_
    refine lv_aload_n hx hb dX12_parsesCommand_244 rfl (lv_at hl 1 rfl) ?_
    refine lv_iconst (v := 1) hx hb dX12_parsesCommand_245 (by decide) ?_
    obtain ⟨r48, s49, g50, h⟩ := ob_e h
    refine g_callVi (nA := 1) (mX12_digits l D cA ad a fr nF 1 s46 r48 s49 g50) G hP hD hS (g_good q9_124 q9_126 qs_61 q1_16 q9_127) (by decide +kernel) (by decide) (by decide) sh12_0 rfl rfl hl.1 [.int (p1 + 1), .ref (a 8)] rfl (Nat.le_of_ble_eq_true rfl) dX12_parsesCommand_246 (fun H locs hP hD hS => ?_)
    obtain ⟨b51, h⟩ := bnd_e h
    refine as12_8 G hP hD hS b51 dX12_parsesCommand_249 (fun s52 es52 H locs hP hD hS => ?_)
    replace h := let_e es52 h
    refine lv_aload_n hx hb dX12_parsesCommand_250 rfl (lv_at hl 1 rfl) ?_
    refine gf12_parsed G hP dX12_parsesCommand_251 ?_
    refine lv_iload_n hx hb dX12_parsesCommand_254 rfl (lv_at hl 2 rfl) ?_
    refine lv_iconst (v := 2) hx hb dX12_parsesCommand_255 (by decide) ?_
    refine lv_iadd hx hb dX12_parsesCommand_256 ?_
    refine lv_aload_n hx hb dX12_parsesCommand_257 rfl (lv_at hl 1 rfl) ?_
    refine lv_iconst (v := 1) hx hb dX12_parsesCommand_258 (by decide) ?_
    obtain ⟨r53, s54, g55, h⟩ := ob_e h
    refine g_callVi (nA := 1) (mX12_digits l D cA ad a fr nF 1 s52 r53 s54 g55) G hP hD hS (g_good q9_124 q9_126 qs_61 q1_16 q9_127) (by decide +kernel) (by decide) (by decide) sh12_0 rfl rfl hl.1 [.int (p1 + 2), .ref (a 8)] rfl (Nat.le_of_ble_eq_true rfl) dX12_parsesCommand_259 (fun H locs hP hD hS => ?_)
    obtain ⟨b56, h⟩ := bnd_e h
    refine as12_8 G hP hD hS b56 dX12_parsesCommand_262 (fun s57 es57 H locs hP hD hS => ?_)
    replace h := let_e es57 h
    refine lv_goto (tgt := 357) hx hb dX12_parsesCommand_263 (by decide) ?_
    exact g_vret G hP hD hS h dX12_parsesCommand_357
  replace h := it_f c44 h
  by_cases c58 : r3 = 110
  · replace h := it_t c58 h
    refine g_tabk (off := 81) (tgt := 104) hx hb 110 c58 htab (by decide +kernel) (by decide +kernel) (by decide) ?_
    refine lv_aload_n hx hb dX12_parsesCommand_104 rfl (lv_at hl 1 rfl) ?_
    refine lv_bipush (v := 111) hx hb dX12_parsesCommand_105 (by decide) ?_
    refine lv_bipush (v := 105) hx hb dX12_parsesCommand_107 (by decide) ?_
    refine lv_bipush (v := 115) hx hb dX12_parsesCommand_109 (by decide) ?_
    obtain ⟨r59, s60, g61, h⟩ := ob_e h
    refine g_callVv (nA := 3) (mX12_needsThree l D cA ad a fr 111 105 115 s8 r59 s60 g61) G hP hD hS (g_good q9_116 q9_118 qs_59 q1_16 q9_119) (by decide +kernel) (by decide) (by decide) sh12_0 rfl rfl hl.1 [] rfl (Nat.le_of_ble_eq_true rfl) dX12_parsesCommand_111 (fun H locs hP hD hS => ?_)
    refine lv_aload_n hx hb dX12_parsesCommand_114 rfl (lv_at hl 1 rfl) ?_
    refine lv_bipush (v := 101) hx hb dX12_parsesCommand_115 (by decide) ?_
    obtain ⟨r62, s63, g64, h⟩ := ob_e h
    refine g_callVv (nA := 1) (mX12_needs l D cA ad a fr 101 s60 r62 s63 g64) G hP hD hS (g_good q9_120 q9_122 qs_60 q1_16 q9_123) (by decide +kernel) (by decide) (by decide) sh12_0 rfl rfl hl.1 [] rfl (Nat.le_of_ble_eq_true rfl) dX12_parsesCommand_117 (fun H locs hP hD hS => ?_)
    refine lv_aload_n hx hb dX12_parsesCommand_120 rfl (lv_at hl 1 rfl) ?_
    refine gf12_parsed G hP dX12_parsesCommand_121 ?_
    refine lv_iload_n hx hb dX12_parsesCommand_124 rfl (lv_at hl 2 rfl) ?_
    refine lv_iconst (v := 1) hx hb dX12_parsesCommand_125 (by decide) ?_
    refine lv_iadd hx hb dX12_parsesCommand_126 ?_
    refine lv_aload_n hx hb dX12_parsesCommand_127 rfl (lv_at hl 1 rfl) ?_
    refine lv_iconst (v := 1) hx hb dX12_parsesCommand_128 (by decide) ?_
    obtain ⟨r65, s66, g67, h⟩ := ob_e h
    refine g_callVi (nA := 1) (mX12_digits l D cA ad a fr nF 1 s63 r65 s66 g67) G hP hD hS (g_good q9_124 q9_126 qs_61 q1_16 q9_127) (by decide +kernel) (by decide) (by decide) sh12_0 rfl rfl hl.1 [.int (p1 + 1), .ref (a 8)] rfl (Nat.le_of_ble_eq_true rfl) dX12_parsesCommand_129 (fun H locs hP hD hS => ?_)
    obtain ⟨b68, h⟩ := bnd_e h
    refine as12_8 G hP hD hS b68 dX12_parsesCommand_132 (fun s69 es69 H locs hP hD hS => ?_)
    replace h := let_e es69 h
    refine lv_aload_n hx hb dX12_parsesCommand_133 rfl (lv_at hl 1 rfl) ?_
    refine gf12_parsed G hP dX12_parsesCommand_134 ?_
    refine lv_iload_n hx hb dX12_parsesCommand_137 rfl (lv_at hl 2 rfl) ?_
    refine lv_iconst (v := 2) hx hb dX12_parsesCommand_138 (by decide) ?_
    refine lv_iadd hx hb dX12_parsesCommand_139 ?_
    refine lv_aload_n hx hb dX12_parsesCommand_140 rfl (lv_at hl 1 rfl) ?_
    refine lv_iconst (v := 1) hx hb dX12_parsesCommand_141 (by decide) ?_
    obtain ⟨r70, s71, g72, h⟩ := ob_e h
    refine g_callVi (nA := 1) (mX12_digits l D cA ad a fr nF 1 s69 r70 s71 g72) G hP hD hS (g_good q9_124 q9_126 qs_61 q1_16 q9_127) (by decide +kernel) (by decide) (by decide) sh12_0 rfl rfl hl.1 [.int (p1 + 2), .ref (a 8)] rfl (Nat.le_of_ble_eq_true rfl) dX12_parsesCommand_142 (fun H locs hP hD hS => ?_)
    obtain ⟨b73, h⟩ := bnd_e h
    refine as12_8 G hP hD hS b73 dX12_parsesCommand_145 (fun s74 es74 H locs hP hD hS => ?_)
    replace h := let_e es74 h
    refine lv_aload_n hx hb dX12_parsesCommand_146 rfl (lv_at hl 1 rfl) ?_
    refine gf12_parsed G hP dX12_parsesCommand_147 ?_
    refine lv_iload_n hx hb dX12_parsesCommand_150 rfl (lv_at hl 2 rfl) ?_
    refine lv_iconst (v := 3) hx hb dX12_parsesCommand_151 (by decide) ?_
    refine lv_iadd hx hb dX12_parsesCommand_152 ?_
    refine lv_aload_n hx hb dX12_parsesCommand_153 rfl (lv_at hl 1 rfl) ?_
    refine lv_iconst (v := 2) hx hb dX12_parsesCommand_154 (by decide) ?_
    obtain ⟨r75, s76, g77, h⟩ := ob_e h
    refine g_callVi (nA := 1) (mX12_digits l D cA ad a fr nF 2 s74 r75 s76 g77) G hP hD hS (g_good q9_124 q9_126 qs_61 q1_16 q9_127) (by decide +kernel) (by decide) (by decide) sh12_0 rfl rfl hl.1 [.int (p1 + 3), .ref (a 8)] rfl (Nat.le_of_ble_eq_true rfl) dX12_parsesCommand_155 (fun H locs hP hD hS => ?_)
    obtain ⟨b78, h⟩ := bnd_e h
    refine as12_8 G hP hD hS b78 dX12_parsesCommand_158 (fun s79 es79 H locs hP hD hS => ?_)
    replace h := let_e es79 h
    refine lv_goto (tgt := 357) hx hb dX12_parsesCommand_159 (by decide) ?_
    exact g_vret G hP hD hS h dX12_parsesCommand_357
  replace h := it_f c58 h
  by_cases c80 : r3 = 114
  · replace h := it_t c80 h
    refine g_tabk (off := 275) (tgt := 298) hx hb 114 c80 htab (by decide +kernel) (by decide +kernel) (by decide) ?_
    refine lv_aload_n hx hb dX12_parsesCommand_298 rfl (lv_at hl 1 rfl) ?_
    refine lv_bipush (v := 101) hx hb dX12_parsesCommand_299 (by decide) ?_
    refine lv_bipush (v := 108) hx hb dX12_parsesCommand_301 (by decide) ?_
    refine lv_bipush (v := 101) hx hb dX12_parsesCommand_303 (by decide) ?_
    obtain ⟨r81, s82, g83, h⟩ := ob_e h
    refine g_callVv (nA := 3) (mX12_needsThree l D cA ad a fr 101 108 101 s8 r81 s82 g83) G hP hD hS (g_good q9_116 q9_118 qs_59 q1_16 q9_119) (by decide +kernel) (by decide) (by decide) sh12_0 rfl rfl hl.1 [] rfl (Nat.le_of_ble_eq_true rfl) dX12_parsesCommand_305 (fun H locs hP hD hS => ?_)
    refine lv_aload_n hx hb dX12_parsesCommand_308 rfl (lv_at hl 1 rfl) ?_
    refine lv_bipush (v := 97) hx hb dX12_parsesCommand_309 (by decide) ?_
    refine lv_bipush (v := 115) hx hb dX12_parsesCommand_311 (by decide) ?_
    refine lv_bipush (v := 101) hx hb dX12_parsesCommand_313 (by decide) ?_
    obtain ⟨r84, s85, g86, h⟩ := ob_e h
    refine g_callVv (nA := 3) (mX12_needsThree l D cA ad a fr 97 115 101 s82 r84 s85 g86) G hP hD hS (g_good q9_116 q9_118 qs_59 q1_16 q9_119) (by decide +kernel) (by decide) (by decide) sh12_0 rfl rfl hl.1 [] rfl (Nat.le_of_ble_eq_true rfl) dX12_parsesCommand_315 (fun H locs hP hD hS => ?_)
    refine lv_aload_n hx hb dX12_parsesCommand_318 rfl (lv_at hl 1 rfl) ?_
    refine gf12_parsed G hP dX12_parsesCommand_319 ?_
    refine lv_iload_n hx hb dX12_parsesCommand_322 rfl (lv_at hl 2 rfl) ?_
    refine lv_iconst (v := 1) hx hb dX12_parsesCommand_323 (by decide) ?_
    refine lv_iadd hx hb dX12_parsesCommand_324 ?_
    refine lv_aload_n hx hb dX12_parsesCommand_325 rfl (lv_at hl 1 rfl) ?_
    refine lv_iconst (v := 1) hx hb dX12_parsesCommand_326 (by decide) ?_
    obtain ⟨r87, s88, g89, h⟩ := ob_e h
    refine g_callVi (nA := 1) (mX12_digits l D cA ad a fr nF 1 s85 r87 s88 g89) G hP hD hS (g_good q9_124 q9_126 qs_61 q1_16 q9_127) (by decide +kernel) (by decide) (by decide) sh12_0 rfl rfl hl.1 [.int (p1 + 1), .ref (a 8)] rfl (Nat.le_of_ble_eq_true rfl) dX12_parsesCommand_327 (fun H locs hP hD hS => ?_)
    obtain ⟨b90, h⟩ := bnd_e h
    refine as12_8 G hP hD hS b90 dX12_parsesCommand_330 (fun s91 es91 H locs hP hD hS => ?_)
    replace h := let_e es91 h
    refine lv_goto (tgt := 357) hx hb dX12_parsesCommand_331 (by decide) ?_
    exact g_vret G hP hD hS h dX12_parsesCommand_357
  replace h := it_f c80 h
  by_cases c92 : r3 = 115
  · replace h := it_t c92 h
    refine g_tabk (off := 311) (tgt := 334) hx hb 115 c92 htab (by decide +kernel) (by decide +kernel) (by decide) ?_
    refine lv_aload_n hx hb dX12_parsesCommand_334 rfl (lv_at hl 1 rfl) ?_
    refine lv_iload_n hx hb dX12_parsesCommand_335 rfl (lv_at hl 2 rfl) ?_
    obtain ⟨r93, s94, g95, h⟩ := ob_e h
    refine g_callVv (nA := 1) (mX12_parsesS l D cA ad a fr nF p1 s8 r93 s94 g95) G hP hD hS (g_good q9_128 q9_130 qs_62 q1_16 q9_131) (by decide +kernel) (by decide) (by decide) sh12_0 rfl rfl hl.1 [] rfl (Nat.le_of_ble_eq_true rfl) dX12_parsesCommand_336 (fun H locs hP hD hS => ?_)
    refine lv_goto (tgt := 357) hx hb dX12_parsesCommand_339 (by decide) ?_
    exact g_vret G hP hD hS h dX12_parsesCommand_357
  replace h := it_f c92 h
  refine g_tabd (tgt := 342) hx hb [99, 100, 103, 109, 110, 114, 115] (List.forall_mem_cons.mpr ⟨fun q => c9 (i32_eqi q), List.forall_mem_cons.mpr ⟨fun q => c21 (i32_eqi q), List.forall_mem_cons.mpr ⟨fun q => c30 (i32_eqi q), List.forall_mem_cons.mpr ⟨fun q => c44 (i32_eqi q), List.forall_mem_cons.mpr ⟨fun q => c58 (i32_eqi q), List.forall_mem_cons.mpr ⟨fun q => c80 (i32_eqi q), List.forall_mem_cons.mpr ⟨fun q => c92 (i32_eqi q), List.forall_mem_nil _⟩⟩⟩⟩⟩⟩⟩) htab (by decide +kernel) (by decide +kernel) (by decide) ?_
  exact hB342  s8 h _ _ ls hP hD hS (lv_sub hl [1] rfl)
noncomputable def fX12_carriesOut_B158 (nF : Nat) (x2 : Int32) (s1 : St) : Option (Int32 × St) :=
  OB (fX12_advances nF x2 s1) fun r1 s2 =>
  some (r1, s2)
noncomputable def fX12_carriesOut (nF : Nat) (p1 : Int32) (s0 : St) : Option (Int32 × St) :=
  BND (p1 + 1) 240 <|
  LET (s0 8 (p1 + 1).toNatClampNeg) fun y5 =>
  BND (p1 + 2) 240 <|
  LET (s0 8 (p1 + 2).toNatClampNeg) fun y7 =>
  BND p1 240 <|
  if (s0 8 p1.toNatClampNeg) = 99 then
    OB (fX12_clears y5 s0) fun r10 s11 =>
    some (r10, s11)
  else
  if (s0 8 p1.toNatClampNeg) = 100 then
    OB (fX12_removes nF y5 s0) fun r14 s15 =>
    some (r14, s15)
  else
  if (s0 8 p1.toNatClampNeg) = 103 then
    OB (fX12_gears y5 y7 s0) fun r18 s19 =>
    some (r18, s19)
  else
  if (s0 8 p1.toNatClampNeg) = 104 then
    OB (fX12_ships y5 y7 s0) fun r22 s23 =>
    some (r22, s23)
  else
  if (s0 8 p1.toNatClampNeg) = 109 then
    OB (fX12_meshes y5 y7 s0) fun r26 s27 =>
    some (r26, s27)
  else
  if (s0 8 p1.toNatClampNeg) = 110 then
    BND (p1 + 3) 240 <|
    OB (fX12_adds nF y5 y7 (s0 8 (p1 + 3).toNatClampNeg) s0) fun r31 s32 =>
    some (r31, s32)
  else
  if (s0 8 p1.toNatClampNeg) = 114 then
    OB (fX12_releases nF y5 s0) fun r35 s36 =>
    some (r35, s36)
  else
  fX12_carriesOut_B158 nF y5 s0
set_option maxHeartbeats 4000000 in
set_option maxRecDepth 100000 in
theorem mX12_carriesOut (l : Launch) (D : va_G) (cA : Nat → ClassId) (ad a : Nat → Nat) (fr : va_W) (nF : Nat) (p1 : Int32) (s0 : St) (r : Int32) (s' : St) (h : fX12_carriesOut nF p1 s0 = some (r, s')) : gMet l yX12_carriesOut cX12_carriesOut 4 (some .int) 7 D (TYS cA) ST0 (wm cA ad a fr s0) [.ref (a 0), .int p1] (fun A => gQi D (TYS cA) A (wm cA ad a fr) r s') := by
  refine g_ofW st0_ok (by decide) (Nat.le_of_ble_eq_true rfl) ?_
  intro p e s m args below meth c ls A G hP hD hl
  have G : GC p s m args meth c cX12_carriesOut 4 RX12 (some .int) A D (TYS cA) ST0 := G
  have hx := G.1
  have hb := G.2.1
  have hS : va_S A s.heap s.heap [] := va_S.rf
  have hl : lv_has ls 4 [(0, .ref (a 0)), (1, .int p1)] := hl
  have hB158 : ∀ (x2 : Int32) (s1 : St), fX12_carriesOut_B158 nF x2 s1 = some (r, s') → ∀ (H : Heap) (locs : List Loc) (ls : Array Slot), va_P D vwCl (wm cA ad a fr s1) H → va_D A (wm cA ad a fr s1) → va_S A s.heap H locs → lv_has ls 4 [(0, .ref (a 0)), (2, .int x2)] → W p l e (RM 7) s m args below meth c H locs 0 0 (MQ below (gQi D (TYS cA) A (wm cA ad a fr) r s') args s 0 0 A) (F0 m 158 ls []) := by
    intro x2 s1 h H locs ls hP hD hS hl
    unfold fX12_carriesOut_B158 at h
    refine lv_aload_n hx hb dX12_carriesOut_158 rfl (lv_at hl 0 rfl) ?_
    refine lv_iload_n hx hb dX12_carriesOut_159 rfl (lv_at hl 1 rfl) ?_
    obtain ⟨r1, s2, g3, h⟩ := ob_e h
    refine g_callVi (nA := 1) (mX12_advances l D cA ad a fr nF x2 s1 r1 s2 g3) G hP hD hS (g_good q8_90 q8_92 qs_38 q1_16 q8_93) (by decide +kernel) (by decide) (by decide) sh12_0 rfl rfl hl.1 [] rfl (Nat.le_of_ble_eq_true rfl) dX12_carriesOut_160 (fun H locs hP hD hS => ?_)
    exact g_ret G hP hD hS h rfl dX12_carriesOut_163
  unfold fX12_carriesOut at h
  refine lv_aload_n hx hb dX12_carriesOut_0 rfl (lv_at hl 0 rfl) ?_
  refine gf12_parsed G hP dX12_carriesOut_1 ?_
  refine lv_iload_n hx hb dX12_carriesOut_4 rfl (lv_at hl 1 rfl) ?_
  refine lv_iconst (v := 1) hx hb dX12_carriesOut_5 (by decide) ?_
  refine lv_iadd hx hb dX12_carriesOut_6 ?_
  obtain ⟨b4, h⟩ := bnd_e h
  refine al12_8 G hP b4 dX12_carriesOut_7 ?_
  refine lv_topi (fun y5 ey5 => ?_)
  replace h := let_e ey5 h
  refine lv_istore_n (lv' := [(2, .int y5), (0, .ref (a 0)), (1, .int p1)]) hx hb dX12_carriesOut_8 rfl hl (by decide) rfl (fun ls hl => ?_)
  refine lv_aload_n hx hb dX12_carriesOut_9 rfl (lv_at hl 1 rfl) ?_
  refine gf12_parsed G hP dX12_carriesOut_10 ?_
  refine lv_iload_n hx hb dX12_carriesOut_13 rfl (lv_at hl 2 rfl) ?_
  refine lv_iconst (v := 2) hx hb dX12_carriesOut_14 (by decide) ?_
  refine lv_iadd hx hb dX12_carriesOut_15 ?_
  obtain ⟨b6, h⟩ := bnd_e h
  refine al12_8 G hP b6 dX12_carriesOut_16 ?_
  refine lv_topi (fun y7 ey7 => ?_)
  replace h := let_e ey7 h
  refine lv_istore_n (lv' := [(3, .int y7), (2, .int y5), (0, .ref (a 0)), (1, .int p1)]) hx hb dX12_carriesOut_17 rfl hl (by decide) rfl (fun ls hl => ?_)
  refine lv_aload_n hx hb dX12_carriesOut_18 rfl (lv_at hl 2 rfl) ?_
  refine gf12_parsed G hP dX12_carriesOut_19 ?_
  refine lv_iload_n hx hb dX12_carriesOut_22 rfl (lv_at hl 3 rfl) ?_
  obtain ⟨b8, h⟩ := bnd_e h
  refine al12_8 G hP b8 dX12_carriesOut_23 ?_
  have htab := dX12_carriesOut_24
  by_cases c9 : (s0 8 p1.toNatClampNeg) = 99
  · replace h := it_t c9 h
    refine g_tabk (off := 115) (tgt := 139) hx hb 99 c9 htab (by decide +kernel) (by decide +kernel) (by decide) ?_
    refine lv_aload_n hx hb dX12_carriesOut_139 rfl (lv_at hl 2 rfl) ?_
    refine lv_iload_n hx hb dX12_carriesOut_140 rfl (lv_at hl 1 rfl) ?_
    obtain ⟨r10, s11, g12, h⟩ := ob_e h
    refine g_callVi (nA := 1) (mX12_clears l D cA ad a fr y5 s0 r10 s11 g12) G hP hD hS (g_good q8_63 q8_65 qs_35 q1_16 q8_66) (by decide +kernel) (by decide) (by decide) sh12_0 rfl rfl hl.1 [] rfl (Nat.le_of_ble_eq_true rfl) dX12_carriesOut_141 (fun H locs hP hD hS => ?_)
    exact g_ret G hP hD hS h rfl dX12_carriesOut_144
  replace h := it_f c9 h
  by_cases c13 : (s0 8 p1.toNatClampNeg) = 100
  · replace h := it_t c13 h
    refine g_tabk (off := 95) (tgt := 119) hx hb 100 c13 htab (by decide +kernel) (by decide +kernel) (by decide) ?_
    refine lv_aload_n hx hb dX12_carriesOut_119 rfl (lv_at hl 2 rfl) ?_
    refine lv_iload_n hx hb dX12_carriesOut_120 rfl (lv_at hl 1 rfl) ?_
    obtain ⟨r14, s15, g16, h⟩ := ob_e h
    refine g_callVi (nA := 1) (mX12_removes l D cA ad a fr nF y5 s0 r14 s15 g16) G hP hD hS (g_good q8_28 q8_30 qs_30 q1_16 q8_31) (by decide +kernel) (by decide) (by decide) sh12_0 rfl rfl hl.1 [] rfl (Nat.le_of_ble_eq_true rfl) dX12_carriesOut_121 (fun H locs hP hD hS => ?_)
    exact g_ret G hP hD hS h rfl dX12_carriesOut_124
  replace h := it_f c13 h
  by_cases c17 : (s0 8 p1.toNatClampNeg) = 103
  · replace h := it_t c17 h
    refine g_tabk (off := 101) (tgt := 125) hx hb 103 c17 htab (by decide +kernel) (by decide +kernel) (by decide) ?_
    refine lv_aload_n hx hb dX12_carriesOut_125 rfl (lv_at hl 2 rfl) ?_
    refine lv_iload_n hx hb dX12_carriesOut_126 rfl (lv_at hl 1 rfl) ?_
    refine lv_iload_n hx hb dX12_carriesOut_127 rfl (lv_at hl 0 rfl) ?_
    obtain ⟨r18, s19, g20, h⟩ := ob_e h
    refine g_callVi (nA := 2) (mX12_gears l D cA ad a fr y5 y7 s0 r18 s19 g20) G hP hD hS (g_good q8_44 q8_46 qs_33 q1_16 q8_47) (by decide +kernel) (by decide) (by decide) sh12_0 rfl rfl hl.1 [] rfl (Nat.le_of_ble_eq_true rfl) dX12_carriesOut_128 (fun H locs hP hD hS => ?_)
    exact g_ret G hP hD hS h rfl dX12_carriesOut_131
  replace h := it_f c17 h
  by_cases c21 : (s0 8 p1.toNatClampNeg) = 104
  · replace h := it_t c21 h
    refine g_tabk (off := 127) (tgt := 151) hx hb 104 c21 htab (by decide +kernel) (by decide +kernel) (by decide) ?_
    refine lv_aload_n hx hb dX12_carriesOut_151 rfl (lv_at hl 2 rfl) ?_
    refine lv_iload_n hx hb dX12_carriesOut_152 rfl (lv_at hl 1 rfl) ?_
    refine lv_iload_n hx hb dX12_carriesOut_153 rfl (lv_at hl 0 rfl) ?_
    obtain ⟨r22, s23, g24, h⟩ := ob_e h
    refine g_callVi (nA := 2) (mX12_ships l D cA ad a fr y5 y7 s0 r22 s23 g24) G hP hD hS (g_good q8_79 q8_81 qs_37 q1_16 q8_82) (by decide +kernel) (by decide) (by decide) sh12_0 rfl rfl hl.1 [] rfl (Nat.le_of_ble_eq_true rfl) dX12_carriesOut_154 (fun H locs hP hD hS => ?_)
    exact g_ret G hP hD hS h rfl dX12_carriesOut_157
  replace h := it_f c21 h
  by_cases c25 : (s0 8 p1.toNatClampNeg) = 109
  · replace h := it_t c25 h
    refine g_tabk (off := 108) (tgt := 132) hx hb 109 c25 htab (by decide +kernel) (by decide +kernel) (by decide) ?_
    refine lv_aload_n hx hb dX12_carriesOut_132 rfl (lv_at hl 2 rfl) ?_
    refine lv_iload_n hx hb dX12_carriesOut_133 rfl (lv_at hl 1 rfl) ?_
    refine lv_iload_n hx hb dX12_carriesOut_134 rfl (lv_at hl 0 rfl) ?_
    obtain ⟨r26, s27, g28, h⟩ := ob_e h
    refine g_callVi (nA := 2) (mX12_meshes l D cA ad a fr y5 y7 s0 r26 s27 g28) G hP hD hS (g_good q8_55 q8_57 qs_34 q1_16 q8_58) (by decide +kernel) (by decide) (by decide) sh12_0 rfl rfl hl.1 [] rfl (Nat.le_of_ble_eq_true rfl) dX12_carriesOut_135 (fun H locs hP hD hS => ?_)
    exact g_ret G hP hD hS h rfl dX12_carriesOut_138
  replace h := it_f c25 h
  by_cases c29 : (s0 8 p1.toNatClampNeg) = 110
  · replace h := it_t c29 h
    refine g_tabk (off := 80) (tgt := 104) hx hb 110 c29 htab (by decide +kernel) (by decide +kernel) (by decide) ?_
    refine lv_aload_n hx hb dX12_carriesOut_104 rfl (lv_at hl 2 rfl) ?_
    refine lv_iload_n hx hb dX12_carriesOut_105 rfl (lv_at hl 1 rfl) ?_
    refine lv_iload_n hx hb dX12_carriesOut_106 rfl (lv_at hl 0 rfl) ?_
    refine lv_aload_n hx hb dX12_carriesOut_107 rfl (lv_at hl 2 rfl) ?_
    refine gf12_parsed G hP dX12_carriesOut_108 ?_
    refine lv_iload_n hx hb dX12_carriesOut_111 rfl (lv_at hl 3 rfl) ?_
    refine lv_iconst (v := 3) hx hb dX12_carriesOut_112 (by decide) ?_
    refine lv_iadd hx hb dX12_carriesOut_113 ?_
    obtain ⟨b30, h⟩ := bnd_e h
    refine al12_8 G hP b30 dX12_carriesOut_114 ?_
    obtain ⟨r31, s32, g33, h⟩ := ob_e h
    refine g_callVi (nA := 3) (mX12_adds l D cA ad a fr nF y5 y7 (s0 8 (p1 + 3).toNatClampNeg) s0 r31 s32 g33) G hP hD hS (g_good q7_230 q7_232 qs_23 q1_16 q7_233) (by decide +kernel) (by decide) (by decide) sh12_0 rfl rfl hl.1 [] rfl (Nat.le_of_ble_eq_true rfl) dX12_carriesOut_115 (fun H locs hP hD hS => ?_)
    exact g_ret G hP hD hS h rfl dX12_carriesOut_118
  replace h := it_f c29 h
  by_cases c34 : (s0 8 p1.toNatClampNeg) = 114
  · replace h := it_t c34 h
    refine g_tabk (off := 121) (tgt := 145) hx hb 114 c34 htab (by decide +kernel) (by decide +kernel) (by decide) ?_
    refine lv_aload_n hx hb dX12_carriesOut_145 rfl (lv_at hl 2 rfl) ?_
    refine lv_iload_n hx hb dX12_carriesOut_146 rfl (lv_at hl 1 rfl) ?_
    obtain ⟨r35, s36, g37, h⟩ := ob_e h
    refine g_callVi (nA := 1) (mX12_releases l D cA ad a fr nF y5 s0 r35 s36 g37) G hP hD hS (g_good q8_71 q8_73 qs_36 q1_16 q8_74) (by decide +kernel) (by decide) (by decide) sh12_0 rfl rfl hl.1 [] rfl (Nat.le_of_ble_eq_true rfl) dX12_carriesOut_147 (fun H locs hP hD hS => ?_)
    exact g_ret G hP hD hS h rfl dX12_carriesOut_150
  replace h := it_f c34 h
  refine g_tabd (tgt := 158) hx hb [99, 100, 103, 104, 109, 110, 114] (List.forall_mem_cons.mpr ⟨fun q => c9 (i32_eqi q), List.forall_mem_cons.mpr ⟨fun q => c13 (i32_eqi q), List.forall_mem_cons.mpr ⟨fun q => c17 (i32_eqi q), List.forall_mem_cons.mpr ⟨fun q => c21 (i32_eqi q), List.forall_mem_cons.mpr ⟨fun q => c25 (i32_eqi q), List.forall_mem_cons.mpr ⟨fun q => c29 (i32_eqi q), List.forall_mem_cons.mpr ⟨fun q => c34 (i32_eqi q), List.forall_mem_nil _⟩⟩⟩⟩⟩⟩⟩) htab (by decide +kernel) (by decide +kernel) (by decide) ?_
  exact hB158 y5 s0 h _ _ ls hP hD hS (lv_sub hl [2, 1] rfl)
noncomputable def fX12_runScript_L130b (nF : Nat) (K130 : Int32 → Int32 → St → Option (Int32 × St)) (x1 : Int32) (x3 : Int32) (s1 : St) : Option (Int32 × St) :=
  if x1 ≤ x3 then
    OB (fX12_done x1 s1) fun r2 s3 =>
    OB (fX12_kept nF r2 s3) fun r5 s6 =>
    some (r5, s6)
  else
    OB (fX12_carriesOut nF (4 * x3) s1) fun r8 s9 =>
    if (s9 0 13) = 0 then
      LET (x3 + 1) fun y12 =>
      K130 x1 y12 s9
    else
      LET (u2 s9 0 10 x3) fun s13 =>
      LET (u2 s13 0 13 2) fun s14 =>
      OB (fX12_kept nF r8 s14) fun r15 s16 =>
      some (r15, s16)
noncomputable def fX12_runScript_L130 (nF : Nat) : Nat → Int32 → Int32 → St → Option (Int32 × St) := fun k => Nat.rec (fun _ _ _ => none) (fun _ K => fX12_runScript_L130b nF K) k
theorem fX12_runScript_L130_s (nF : Nat) (k : Nat) : fX12_runScript_L130 nF (k + 1) = fX12_runScript_L130b nF (fX12_runScript_L130 nF k) := rfl
noncomputable def fX12_runScript_B95 (nF : Nat) (x1 : Int32) (z0 : Int32) (s1 : St) : Option (Int32 × St) :=
  BL z0 <|
  LET (u2 s1 0 15 z0) fun s18 =>
  LET (u2 s18 0 8 0) fun s20 =>
  if (s20 0 15) = 0 then
    OB (fX12_begin nF s20) fun r22 s23 =>
    fX12_runScript_L130 nF nF x1 0 s23
  else
    LET (u2 s20 0 9 (s20 0 14)) fun s25 =>
    OB (fX12_fails 1 s25) fun r26 s27 =>
    some (r26, s27)
noncomputable def fX12_runScript_B90 (nF : Nat) (x1 : Int32) (s1 : St) : Option (Int32 × St) :=
  fX12_runScript_B95 nF x1 1 s1
noncomputable def fX12_runScript_B64 (nF : Nat) (K14 : Int32 → Int32 → St → Option (Int32 × St)) (x1 : Int32) (x2 : Int32) (z0 : Int32) (z1 : Int32) (s1 : St) : Option (Int32 × St) :=
  LET (u2 s1 0 14 (z1 + z0)) fun s29 =>
  K14 x1 x2 s29
noncomputable def fX12_runScript_B49 (nF : Nat) (K14 : Int32 → Int32 → St → Option (Int32 × St)) (x1 : Int32) (z0 : Int32) (s1 : St) : Option (Int32 × St) :=
  if z0 = 0 then
    fX12_runScript_B64 nF K14 x1 z0 0 (s1 0 14) s1
  else
    fX12_runScript_B64 nF K14 x1 z0 1 (s1 0 14) s1
noncomputable def fX12_runScript_B48 (nF : Nat) (K14 : Int32 → Int32 → St → Option (Int32 × St)) (x1 : Int32) (s1 : St) : Option (Int32 × St) :=
  fX12_runScript_B49 nF K14 x1 0 s1
noncomputable def fX12_runScript_L14b (nF : Nat) (K14 : Int32 → Int32 → St → Option (Int32 × St)) (x1 : Int32) (x2 : Int32) (s1 : St) : Option (Int32 × St) :=
  if x2 = 0 then
    if (s1 0 15) = 0 then
      if (s1 0 8) ≤ (s1 0 14) then
        fX12_runScript_B95 nF x1 0 s1
      else
        fX12_runScript_B90 nF x1 s1
    else
      fX12_runScript_B90 nF x1 s1
  else
    OB (fX12_parsesCommand nF (4 * x1) s1) fun r34 s35 =>
    LET (x1 + 1) fun y37 =>
    if (s35 0 15) = 0 then
      OB (fX12_here s35) fun r39 s40 =>
      if r39 = 59 then
        fX12_runScript_B49 nF K14 y37 1 s40
      else
        fX12_runScript_B48 nF K14 y37 s40
    else
      fX12_runScript_B48 nF K14 y37 s35
noncomputable def fX12_runScript_L14 (nF : Nat) : Nat → Int32 → Int32 → St → Option (Int32 × St) := fun k => Nat.rec (fun _ _ _ => none) (fun _ K => fX12_runScript_L14b nF K) k
theorem fX12_runScript_L14_s (nF : Nat) (k : Nat) : fX12_runScript_L14 nF (k + 1) = fX12_runScript_L14b nF (fX12_runScript_L14 nF k) := rfl
noncomputable def fX12_runScript (nF : Nat) (s0 : St) : Option (Int32 × St) :=
  LET (u2 s0 0 14 0) fun s43 =>
  LET (u2 s43 0 15 0) fun s44 =>
  fX12_runScript_L14 nF nF 0 1 s44
set_option maxHeartbeats 4000000 in
set_option maxRecDepth 100000 in
theorem mX12_runScript (l : Launch) (D : va_G) (cA : Nat → ClassId) (ad a : Nat → Nat) (fr : va_W) (nF : Nat) (s0 : St) (r : Int32) (s' : St) (h : fX12_runScript nF s0 = some (r, s')) : gMet l yX12_runScript cX12_runScript 5 (some .int) 8 D (TYS cA) ST0 (wm cA ad a fr s0) [.ref (a 0)] (fun A => gQi D (TYS cA) A (wm cA ad a fr) r s') := by
  refine g_ofW st0_ok (by decide) (Nat.le_of_ble_eq_true rfl) ?_
  intro p e s m args below meth c ls A G hP hD hl
  have G : GC p s m args meth c cX12_runScript 5 RX12 (some .int) A D (TYS cA) ST0 := G
  have hx := G.1
  have hb := G.2.1
  have hS : va_S A s.heap s.heap [] := va_S.rf
  have hl : lv_has ls 5 [(0, .ref (a 0))] := hl
  have hB130 : ∀ (K130 : Int32 → Int32 → St → Option (Int32 × St)), (∀ (x1 : Int32) (x3 : Int32) (s1 : St), K130 x1 x3 s1 = some (r, s') → ∀ (H : Heap) (locs : List Loc) (ls : Array Slot), va_P D vwCl (wm cA ad a fr s1) H → va_D A (wm cA ad a fr s1) → va_S A s.heap H locs → lv_has ls 5 [(0, .ref (a 0)), (1, .int x1), (3, .int x3)] → W p l e (RM 8) s m args below meth c H locs 0 0 (MQ below (gQi D (TYS cA) A (wm cA ad a fr) r s') args s 0 0 A) (F0 m 130 ls [])) → ∀ (x1 : Int32) (x3 : Int32) (s1 : St), fX12_runScript_L130b nF K130 x1 x3 s1 = some (r, s') → ∀ (H : Heap) (locs : List Loc) (ls : Array Slot), va_P D vwCl (wm cA ad a fr s1) H → va_D A (wm cA ad a fr s1) → va_S A s.heap H locs → lv_has ls 5 [(0, .ref (a 0)), (1, .int x1), (3, .int x3)] → W p l e (RM 8) s m args below meth c H locs 0 0 (MQ below (gQi D (TYS cA) A (wm cA ad a fr) r s') args s 0 0 A) (F0 m 130 ls []) := by
    intro K130 hK130 x1 x3 s1 h H locs ls hP hD hS hl
    unfold fX12_runScript_L130b at h
    refine lv_iload_n hx hb dX12_runScript_130 rfl (lv_at hl 2 rfl) ?_
    refine lv_iload_n hx hb dX12_runScript_131 rfl (lv_at hl 1 rfl) ?_
    refine lv_icmp_ge (tgt := 174) hx hb dX12_runScript_132 (by decide) (fun c1 => ?_) (fun c1 => ?_)
    · replace h := it_t c1 h
      refine lv_aload_n hx hb dX12_runScript_174 rfl (lv_at hl 0 rfl) ?_
      refine lv_aload_n hx hb dX12_runScript_175 rfl (lv_at hl 0 rfl) ?_
      refine lv_iload_n hx hb dX12_runScript_176 rfl (lv_at hl 1 rfl) ?_
      obtain ⟨r2, s3, g4, h⟩ := ob_e h
      refine g_callVi (nA := 1) (mX12_done l D cA ad a fr x1 s1 r2 s3 g4) G hP hD hS (g_good q8_16 q8_18 qs_28 q1_16 q8_19) (by decide +kernel) (by decide) (by decide) sh12_0 rfl rfl hl.1 [.ref (a 0)] rfl (Nat.le_of_ble_eq_true rfl) dX12_runScript_177 (fun H locs hP hD hS => ?_)
      obtain ⟨r5, s6, g7, h⟩ := ob_e h
      refine g_callVi (nA := 1) (mX12_kept l D cA ad a fr nF r2 s3 r5 s6 g7) G hP hD hS (g_good q8_20 q8_22 qs_29 q1_16 q8_23) (by decide +kernel) (by decide) (by decide) sh12_0 rfl rfl hl.1 [] rfl (Nat.le_of_ble_eq_true rfl) dX12_runScript_180 (fun H locs hP hD hS => ?_)
      exact g_ret G hP hD hS h rfl dX12_runScript_183
    · replace h := it_f c1 h
      refine lv_aload_n hx hb dX12_runScript_135 rfl (lv_at hl 0 rfl) ?_
      refine lv_iconst (v := 4) hx hb dX12_runScript_136 (by decide) ?_
      refine lv_iload_n hx hb dX12_runScript_137 rfl (lv_at hl 2 rfl) ?_
      refine lv_imul hx hb dX12_runScript_138 ?_
      obtain ⟨r8, s9, g10, h⟩ := ob_e h
      refine g_callVi (nA := 1) (mX12_carriesOut l D cA ad a fr nF (4 * x3) s1 r8 s9 g10) G hP hD hS (g_good q9_132 q9_134 qs_63 q1_16 q9_135) (by decide +kernel) (by decide) (by decide) sh12_0 rfl rfl hl.1 [] rfl (Nat.le_of_ble_eq_true rfl) dX12_runScript_139 (fun H locs hP hD hS => ?_)
      refine lv_istore (lv' := [(4, .int r8), (0, .ref (a 0)), (1, .int x1), (3, .int x3)]) hx hb dX12_runScript_142 hl (by decide) rfl (fun ls hl => ?_)
      refine lv_aload_n hx hb dX12_runScript_144 rfl (lv_at hl 1 rfl) ?_
      refine gf12_thrown G hP dX12_runScript_145 ?_
      refine lv_if_eq (tgt := 168) hx hb dX12_runScript_148 (by decide) (fun c11 => ?_) (fun c11 => ?_)
      · replace h := it_t c11 h
        obtain ⟨y12, ey12⟩ : ∃ y : Int32, y = x3 + 1 := ⟨_, rfl⟩
        replace h := let_e ey12 h
        refine lv_iinc (v := y12) (lv' := [(3, .int y12), (4, .int r8), (0, .ref (a 0)), (1, .int x1)]) hx hb dX12_runScript_168 hl (k := 3) rfl (by rw [ey12]; rfl) (by decide) rfl (fun ls hl => ?_)
        refine lv_goto (tgt := 130) hx hb dX12_runScript_171 (by decide) ?_
        exact hK130 x1 y12 s9 h H _ ls hP hD hS (lv_sub hl [2, 3, 0] rfl)
      · replace h := it_f c11 h
        refine lv_aload_n hx hb dX12_runScript_151 rfl (lv_at hl 1 rfl) ?_
        refine lv_iload_n hx hb dX12_runScript_152 rfl (lv_at hl 3 rfl) ?_
        refine pf12_failedAt G hP hD hS dX12_runScript_153 (fun s13 es13 H locs hP hD hS => ?_)
        replace h := let_e es13 h
        refine lv_aload_n hx hb dX12_runScript_156 rfl (lv_at hl 1 rfl) ?_
        refine lv_iconst (v := 2) hx hb dX12_runScript_157 (by decide) ?_
        refine pf12_thrown G hP hD hS dX12_runScript_158 (fun s14 es14 H locs hP hD hS => ?_)
        replace h := let_e es14 h
        refine lv_aload_n hx hb dX12_runScript_161 rfl (lv_at hl 1 rfl) ?_
        refine lv_iload hx hb dX12_runScript_162 (lv_at hl 0 rfl) ?_
        obtain ⟨r15, s16, g17, h⟩ := ob_e h
        refine g_callVi (nA := 1) (mX12_kept l D cA ad a fr nF r8 s14 r15 s16 g17) G hP hD hS (g_good q8_20 q8_22 qs_29 q1_16 q8_23) (by decide +kernel) (by decide) (by decide) sh12_0 rfl rfl hl.1 [] rfl (Nat.le_of_ble_eq_true rfl) dX12_runScript_164 (fun H locs hP hD hS => ?_)
        exact g_ret G hP hD hS h rfl dX12_runScript_167
  have hL130 : ∀ k : Nat, ∀ (x1 : Int32) (x3 : Int32) (s1 : St), fX12_runScript_L130 nF k x1 x3 s1 = some (r, s') → ∀ (H : Heap) (locs : List Loc) (ls : Array Slot), va_P D vwCl (wm cA ad a fr s1) H → va_D A (wm cA ad a fr s1) → va_S A s.heap H locs → lv_has ls 5 [(0, .ref (a 0)), (1, .int x1), (3, .int x3)] → W p l e (RM 8) s m args below meth c H locs 0 0 (MQ below (gQi D (TYS cA) A (wm cA ad a fr) r s') args s 0 0 A) (F0 m 130 ls []) := by
    intro k
    induction k with
    | zero => intro x1 x3 s1 h; cases h
    | succ k ih => exact hB130 (fX12_runScript_L130 nF k) ih
  have hB95 : ∀ (x1 : Int32) (z0 : Int32) (s1 : St), fX12_runScript_B95 nF x1 z0 s1 = some (r, s') → ∀ (H : Heap) (locs : List Loc) (ls : Array Slot), va_P D vwCl (wm cA ad a fr s1) H → va_D A (wm cA ad a fr s1) → va_S A s.heap H locs → lv_has ls 5 [(0, .ref (a 0)), (1, .int x1)] → W p l e (RM 8) s m args below meth c H locs 0 0 (MQ below (gQi D (TYS cA) A (wm cA ad a fr) r s') args s 0 0 A) (F0 m 95 ls [.int z0, .ref (a 0)]) := by
    intro x1 z0 s1 h H locs ls hP hD hS hl
    unfold fX12_runScript_B95 at h
    obtain ⟨b19, h⟩ := bl_e h
    refine pf12_isWrong G hP hD hS b19 dX12_runScript_95 (fun s18 es18 H locs hP hD hS => ?_)
    replace h := let_e es18 h
    refine lv_aload_n hx hb dX12_runScript_98 rfl (lv_at hl 0 rfl) ?_
    refine lv_iconst (v := 0) hx hb dX12_runScript_99 (by decide) ?_
    refine pf12_typed G hP hD hS dX12_runScript_100 (fun s20 es20 H locs hP hD hS => ?_)
    replace h := let_e es20 h
    refine lv_aload_n hx hb dX12_runScript_103 rfl (lv_at hl 0 rfl) ?_
    refine gf12_isWrong G hP dX12_runScript_104 ?_
    refine lv_if_eq (tgt := 124) hx hb dX12_runScript_107 (by decide) (fun c21 => ?_) (fun c21 => ?_)
    · replace h := it_t c21 h
      refine lv_aload_n hx hb dX12_runScript_124 rfl (lv_at hl 0 rfl) ?_
      obtain ⟨r22, s23, g24, h⟩ := ob_e h
      refine g_callVv (nA := 0) (mX12_begin l D cA ad a fr nF s20 r22 s23 g24) G hP hD hS (g_good q7_223 q7_225 qs_22 q1_16 q7_226) (by decide +kernel) (by decide) (by decide) sh12_0 rfl rfl hl.1 [] rfl (Nat.le_of_ble_eq_true rfl) dX12_runScript_125 (fun H locs hP hD hS => ?_)
      refine lv_iconst (v := 0) hx hb dX12_runScript_128 (by decide) ?_
      refine lv_istore_n (lv' := [(3, .int 0), (0, .ref (a 0)), (1, .int x1)]) hx hb dX12_runScript_129 rfl hl (by decide) rfl (fun ls hl => ?_)
      exact hL130 nF x1 0 s23 h H _ ls hP hD hS (lv_sub hl [1, 2, 0] rfl)
    · replace h := it_f c21 h
      refine lv_aload_n hx hb dX12_runScript_110 rfl (lv_at hl 0 rfl) ?_
      refine lv_aload_n hx hb dX12_runScript_111 rfl (lv_at hl 0 rfl) ?_
      refine gf12_spot G hP dX12_runScript_112 ?_
      refine pf12_errorAt G hP hD hS dX12_runScript_115 (fun s25 es25 H locs hP hD hS => ?_)
      replace h := let_e es25 h
      refine lv_aload_n hx hb dX12_runScript_118 rfl (lv_at hl 0 rfl) ?_
      refine lv_iconst (v := 1) hx hb dX12_runScript_119 (by decide) ?_
      obtain ⟨r26, s27, g28, h⟩ := ob_e h
      refine g_callVi (nA := 1) (mX12_fails l D cA ad a fr 1 s25 r26 s27 g28) G hP hD hS (g_good q8_0 q8_2 qs_24 q1_16 q8_3) (by decide +kernel) (by decide) (by decide) sh12_0 rfl rfl hl.1 [] rfl (Nat.le_of_ble_eq_true rfl) dX12_runScript_120 (fun H locs hP hD hS => ?_)
      exact g_ret G hP hD hS h rfl dX12_runScript_123
  have hB90 : ∀ (x1 : Int32) (s1 : St), fX12_runScript_B90 nF x1 s1 = some (r, s') → ∀ (H : Heap) (locs : List Loc) (ls : Array Slot), va_P D vwCl (wm cA ad a fr s1) H → va_D A (wm cA ad a fr s1) → va_S A s.heap H locs → lv_has ls 5 [(0, .ref (a 0)), (1, .int x1)] → W p l e (RM 8) s m args below meth c H locs 0 0 (MQ below (gQi D (TYS cA) A (wm cA ad a fr) r s') args s 0 0 A) (F0 m 90 ls [.ref (a 0)]) := by
    intro x1 s1 h H locs ls hP hD hS hl
    unfold fX12_runScript_B90 at h
    refine lv_iconst (v := 1) hx hb dX12_runScript_90 (by decide) ?_
    refine lv_goto (tgt := 95) hx hb dX12_runScript_91 (by decide) ?_
    exact hB95 x1 1 s1 h H _ ls hP hD hS (lv_sub hl [0, 1] rfl)
  have hB64 : ∀ (K14 : Int32 → Int32 → St → Option (Int32 × St)), (∀ (x1 : Int32) (x2 : Int32) (s1 : St), K14 x1 x2 s1 = some (r, s') → ∀ (H : Heap) (locs : List Loc) (ls : Array Slot), va_P D vwCl (wm cA ad a fr s1) H → va_D A (wm cA ad a fr s1) → va_S A s.heap H locs → lv_has ls 5 [(0, .ref (a 0)), (1, .int x1), (2, .int x2)] → W p l e (RM 8) s m args below meth c H locs 0 0 (MQ below (gQi D (TYS cA) A (wm cA ad a fr) r s') args s 0 0 A) (F0 m 14 ls [])) → ∀ (x1 : Int32) (x2 : Int32) (z0 : Int32) (z1 : Int32) (s1 : St), fX12_runScript_B64 nF K14 x1 x2 z0 z1 s1 = some (r, s') → ∀ (H : Heap) (locs : List Loc) (ls : Array Slot), va_P D vwCl (wm cA ad a fr s1) H → va_D A (wm cA ad a fr s1) → va_S A s.heap H locs → lv_has ls 5 [(0, .ref (a 0)), (1, .int x1), (2, .int x2)] → W p l e (RM 8) s m args below meth c H locs 0 0 (MQ below (gQi D (TYS cA) A (wm cA ad a fr) r s') args s 0 0 A) (F0 m 64 ls [.int z0, .int z1, .ref (a 0)]) := by
    intro K14 hK14 x1 x2 z0 z1 s1 h H locs ls hP hD hS hl
    unfold fX12_runScript_B64 at h
    refine lv_iadd hx hb dX12_runScript_64 ?_
    refine pf12_spot G hP hD hS dX12_runScript_65 (fun s29 es29 H locs hP hD hS => ?_)
    replace h := let_e es29 h
    refine lv_goto (tgt := 14) hx hb dX12_runScript_68 (by decide) ?_
    exact hK14 x1 x2 s29 h H _ ls hP hD hS (lv_sub hl [0, 1, 2] rfl)
  have hB49 : ∀ (K14 : Int32 → Int32 → St → Option (Int32 × St)), (∀ (x1 : Int32) (x2 : Int32) (s1 : St), K14 x1 x2 s1 = some (r, s') → ∀ (H : Heap) (locs : List Loc) (ls : Array Slot), va_P D vwCl (wm cA ad a fr s1) H → va_D A (wm cA ad a fr s1) → va_S A s.heap H locs → lv_has ls 5 [(0, .ref (a 0)), (1, .int x1), (2, .int x2)] → W p l e (RM 8) s m args below meth c H locs 0 0 (MQ below (gQi D (TYS cA) A (wm cA ad a fr) r s') args s 0 0 A) (F0 m 14 ls [])) → ∀ (x1 : Int32) (z0 : Int32) (s1 : St), fX12_runScript_B49 nF K14 x1 z0 s1 = some (r, s') → ∀ (H : Heap) (locs : List Loc) (ls : Array Slot), va_P D vwCl (wm cA ad a fr s1) H → va_D A (wm cA ad a fr s1) → va_S A s.heap H locs → lv_has ls 5 [(0, .ref (a 0)), (1, .int x1)] → W p l e (RM 8) s m args below meth c H locs 0 0 (MQ below (gQi D (TYS cA) A (wm cA ad a fr) r s') args s 0 0 A) (F0 m 49 ls [.int z0]) := by
    intro K14 hK14 x1 z0 s1 h H locs ls hP hD hS hl
    unfold fX12_runScript_B49 at h
    refine lv_istore_n (lv' := [(2, .int z0), (0, .ref (a 0)), (1, .int x1)]) hx hb dX12_runScript_49 rfl hl (by decide) rfl (fun ls hl => ?_)
    refine lv_aload_n hx hb dX12_runScript_50 rfl (lv_at hl 1 rfl) ?_
    refine lv_dup hx hb dX12_runScript_51 rfl ?_
    refine gf12_spot G hP dX12_runScript_52 ?_
    refine lv_iload_n hx hb dX12_runScript_55 rfl (lv_at hl 0 rfl) ?_
    refine lv_if_eq (tgt := 63) hx hb dX12_runScript_56 (by decide) (fun c30 => ?_) (fun c30 => ?_)
    · replace h := it_t c30 h
      refine lv_iconst (v := 0) hx hb dX12_runScript_63 (by decide) ?_
      exact hB64 K14 hK14 x1 z0 0 (s1 0 14) s1 h H _ ls hP hD hS (lv_sub hl [1, 2, 0] rfl)
    · replace h := it_f c30 h
      refine lv_iconst (v := 1) hx hb dX12_runScript_59 (by decide) ?_
      refine lv_goto (tgt := 64) hx hb dX12_runScript_60 (by decide) ?_
      exact hB64 K14 hK14 x1 z0 1 (s1 0 14) s1 h H _ ls hP hD hS (lv_sub hl [1, 2, 0] rfl)
  have hB48 : ∀ (K14 : Int32 → Int32 → St → Option (Int32 × St)), (∀ (x1 : Int32) (x2 : Int32) (s1 : St), K14 x1 x2 s1 = some (r, s') → ∀ (H : Heap) (locs : List Loc) (ls : Array Slot), va_P D vwCl (wm cA ad a fr s1) H → va_D A (wm cA ad a fr s1) → va_S A s.heap H locs → lv_has ls 5 [(0, .ref (a 0)), (1, .int x1), (2, .int x2)] → W p l e (RM 8) s m args below meth c H locs 0 0 (MQ below (gQi D (TYS cA) A (wm cA ad a fr) r s') args s 0 0 A) (F0 m 14 ls [])) → ∀ (x1 : Int32) (s1 : St), fX12_runScript_B48 nF K14 x1 s1 = some (r, s') → ∀ (H : Heap) (locs : List Loc) (ls : Array Slot), va_P D vwCl (wm cA ad a fr s1) H → va_D A (wm cA ad a fr s1) → va_S A s.heap H locs → lv_has ls 5 [(0, .ref (a 0)), (1, .int x1)] → W p l e (RM 8) s m args below meth c H locs 0 0 (MQ below (gQi D (TYS cA) A (wm cA ad a fr) r s') args s 0 0 A) (F0 m 48 ls []) := by
    intro K14 hK14 x1 s1 h H locs ls hP hD hS hl
    unfold fX12_runScript_B48 at h
    refine lv_iconst (v := 0) hx hb dX12_runScript_48 (by decide) ?_
    exact hB49 K14 hK14 x1 0 s1 h H _ ls hP hD hS (lv_sub hl [0, 1] rfl)
  have hB14 : ∀ (K14 : Int32 → Int32 → St → Option (Int32 × St)), (∀ (x1 : Int32) (x2 : Int32) (s1 : St), K14 x1 x2 s1 = some (r, s') → ∀ (H : Heap) (locs : List Loc) (ls : Array Slot), va_P D vwCl (wm cA ad a fr s1) H → va_D A (wm cA ad a fr s1) → va_S A s.heap H locs → lv_has ls 5 [(0, .ref (a 0)), (1, .int x1), (2, .int x2)] → W p l e (RM 8) s m args below meth c H locs 0 0 (MQ below (gQi D (TYS cA) A (wm cA ad a fr) r s') args s 0 0 A) (F0 m 14 ls [])) → ∀ (x1 : Int32) (x2 : Int32) (s1 : St), fX12_runScript_L14b nF K14 x1 x2 s1 = some (r, s') → ∀ (H : Heap) (locs : List Loc) (ls : Array Slot), va_P D vwCl (wm cA ad a fr s1) H → va_D A (wm cA ad a fr s1) → va_S A s.heap H locs → lv_has ls 5 [(0, .ref (a 0)), (1, .int x1), (2, .int x2)] → W p l e (RM 8) s m args below meth c H locs 0 0 (MQ below (gQi D (TYS cA) A (wm cA ad a fr) r s') args s 0 0 A) (F0 m 14 ls []) := by
    intro K14 hK14 x1 x2 s1 h H locs ls hP hD hS hl
    unfold fX12_runScript_L14b at h
    refine lv_iload_n hx hb dX12_runScript_14 rfl (lv_at hl 2 rfl) ?_
    refine lv_if_eq (tgt := 71) hx hb dX12_runScript_15 (by decide) (fun c31 => ?_) (fun c31 => ?_)
    · replace h := it_t c31 h
      refine lv_aload_n hx hb dX12_runScript_71 rfl (lv_at hl 0 rfl) ?_
      refine lv_aload_n hx hb dX12_runScript_72 rfl (lv_at hl 0 rfl) ?_
      refine gf12_isWrong G hP dX12_runScript_73 ?_
      refine lv_if_ne (tgt := 90) hx hb dX12_runScript_76 (by decide) (fun c32 => ?_) (fun c32 => ?_)
      · replace h := it_f c32 h
        exact hB90 x1 s1 h H _ ls hP hD hS (lv_sub hl [0, 1] rfl)
      · replace h := it_t c32 h
        refine lv_aload_n hx hb dX12_runScript_79 rfl (lv_at hl 0 rfl) ?_
        refine gf12_spot G hP dX12_runScript_80 ?_
        refine lv_aload_n hx hb dX12_runScript_83 rfl (lv_at hl 0 rfl) ?_
        refine gf12_typed G hP dX12_runScript_84 ?_
        refine lv_icmp_ge (tgt := 94) hx hb dX12_runScript_87 (by decide) (fun c33 => ?_) (fun c33 => ?_)
        · replace h := it_t c33 h
          refine lv_iconst (v := 0) hx hb dX12_runScript_94 (by decide) ?_
          exact hB95 x1 0 s1 h H _ ls hP hD hS (lv_sub hl [0, 1] rfl)
        · replace h := it_f c33 h
          exact hB90 x1 s1 h H _ ls hP hD hS (lv_sub hl [0, 1] rfl)
    · replace h := it_f c31 h
      refine lv_aload_n hx hb dX12_runScript_18 rfl (lv_at hl 0 rfl) ?_
      refine lv_iconst (v := 4) hx hb dX12_runScript_19 (by decide) ?_
      refine lv_iload_n hx hb dX12_runScript_20 rfl (lv_at hl 1 rfl) ?_
      refine lv_imul hx hb dX12_runScript_21 ?_
      obtain ⟨r34, s35, g36, h⟩ := ob_e h
      refine g_callVv (nA := 1) (mX12_parsesCommand l D cA ad a fr nF (4 * x1) s1 r34 s35 g36) G hP hD hS (g_good q9_108 q9_110 qs_57 q1_16 q9_111) (by decide +kernel) (by decide) (by decide) sh12_0 rfl rfl hl.1 [] rfl (Nat.le_of_ble_eq_true rfl) dX12_runScript_22 (fun H locs hP hD hS => ?_)
      obtain ⟨y37, ey37⟩ : ∃ y : Int32, y = x1 + 1 := ⟨_, rfl⟩
      replace h := let_e ey37 h
      refine lv_iinc (v := y37) (lv' := [(1, .int y37), (0, .ref (a 0)), (2, .int x2)]) hx hb dX12_runScript_25 hl (k := 1) rfl (by rw [ey37]; rfl) (by decide) rfl (fun ls hl => ?_)
      refine lv_aload_n hx hb dX12_runScript_28 rfl (lv_at hl 1 rfl) ?_
      refine gf12_isWrong G hP dX12_runScript_29 ?_
      refine lv_if_ne (tgt := 48) hx hb dX12_runScript_32 (by decide) (fun c38 => ?_) (fun c38 => ?_)
      · replace h := it_f c38 h
        exact hB48 K14 hK14 y37 s35 h H _ ls hP hD hS (lv_sub hl [1, 0] rfl)
      · replace h := it_t c38 h
        refine lv_aload_n hx hb dX12_runScript_35 rfl (lv_at hl 1 rfl) ?_
        obtain ⟨r39, s40, g41, h⟩ := ob_e h
        refine g_callVi (nA := 0) (mX12_here l D cA ad a fr s35 r39 s40 g41) G hP hD hS (g_good q9_112 q9_114 qs_58 q1_16 q9_115) (by decide +kernel) (by decide) (by decide) sh12_0 rfl rfl hl.1 [] rfl (Nat.le_of_ble_eq_true rfl) dX12_runScript_36 (fun H locs hP hD hS => ?_)
        refine lv_bipush (v := 59) hx hb dX12_runScript_39 (by decide) ?_
        refine lv_icmp_ne (tgt := 48) hx hb dX12_runScript_41 (by decide) (fun c42 => ?_) (fun c42 => ?_)
        · replace h := it_f c42 h
          exact hB48 K14 hK14 y37 s40 h H _ ls hP hD hS (lv_sub hl [1, 0] rfl)
        · replace h := it_t c42 h
          refine lv_iconst (v := 1) hx hb dX12_runScript_44 (by decide) ?_
          refine lv_goto (tgt := 49) hx hb dX12_runScript_45 (by decide) ?_
          exact hB49 K14 hK14 y37 1 s40 h H _ ls hP hD hS (lv_sub hl [1, 0] rfl)
  have hL14 : ∀ k : Nat, ∀ (x1 : Int32) (x2 : Int32) (s1 : St), fX12_runScript_L14 nF k x1 x2 s1 = some (r, s') → ∀ (H : Heap) (locs : List Loc) (ls : Array Slot), va_P D vwCl (wm cA ad a fr s1) H → va_D A (wm cA ad a fr s1) → va_S A s.heap H locs → lv_has ls 5 [(0, .ref (a 0)), (1, .int x1), (2, .int x2)] → W p l e (RM 8) s m args below meth c H locs 0 0 (MQ below (gQi D (TYS cA) A (wm cA ad a fr) r s') args s 0 0 A) (F0 m 14 ls []) := by
    intro k
    induction k with
    | zero => intro x1 x2 s1 h; cases h
    | succ k ih => exact hB14 (fX12_runScript_L14 nF k) ih
  unfold fX12_runScript at h
  refine lv_aload_n hx hb dX12_runScript_0 rfl (lv_at hl 0 rfl) ?_
  refine lv_iconst (v := 0) hx hb dX12_runScript_1 (by decide) ?_
  refine pf12_spot G hP hD hS dX12_runScript_2 (fun s43 es43 H locs hP hD hS => ?_)
  replace h := let_e es43 h
  refine lv_aload_n hx hb dX12_runScript_5 rfl (lv_at hl 0 rfl) ?_
  refine lv_iconst (v := 0) hx hb dX12_runScript_6 (by decide) ?_
  refine pf12_isWrong G hP hD hS (Or.inl rfl) dX12_runScript_7 (fun s44 es44 H locs hP hD hS => ?_)
  replace h := let_e es44 h
  refine lv_iconst (v := 0) hx hb dX12_runScript_10 (by decide) ?_
  refine lv_istore_n (lv' := [(1, .int 0), (0, .ref (a 0))]) hx hb dX12_runScript_11 rfl hl (by decide) rfl (fun ls hl => ?_)
  refine lv_iconst (v := 1) hx hb dX12_runScript_12 (by decide) ?_
  refine lv_istore_n (lv' := [(2, .int 1), (1, .int 0), (0, .ref (a 0))]) hx hb dX12_runScript_13 rfl hl (by decide) rfl (fun ls hl => ?_)
  exact hL14 nF 0 1 s44 h _ _ ls hP hD hS (lv_sub hl [2, 1, 0] rfl)
def fX12_errorPosition (s0 : St) : Option (Int32 × St) :=
  if (s0 0 9) = ((-1)) then
    OB (fX12_fails 1 s0) fun r5 s6 =>
    some (r5, s6)
  else
    OB (fX12_done (s0 0 9) s0) fun r2 s3 =>
    some (r2, s3)
set_option maxHeartbeats 4000000 in
set_option maxRecDepth 100000 in
theorem mX12_errorPosition (l : Launch) (D : va_G) (cA : Nat → ClassId) (ad a : Nat → Nat) (fr : va_W) (s0 : St) (r : Int32) (s' : St) (h : fX12_errorPosition s0 = some (r, s')) : gMet l yX12_errorPosition cX12_errorPosition 1 (some .int) 1 D (TYS cA) ST0 (wm cA ad a fr s0) [.ref (a 0)] (fun A => gQi D (TYS cA) A (wm cA ad a fr) r s') := by
  refine g_ofW st0_ok (by decide) (Nat.le_of_ble_eq_true rfl) ?_
  intro p e s m args below meth c ls A G hP hD hl
  have G : GC p s m args meth c cX12_errorPosition 1 RX12 (some .int) A D (TYS cA) ST0 := G
  have hx := G.1
  have hb := G.2.1
  have hS : va_S A s.heap s.heap [] := va_S.rf
  have hl : lv_has ls 1 [(0, .ref (a 0))] := hl
  unfold fX12_errorPosition at h
  refine lv_aload_n hx hb dX12_errorPosition_0 rfl (lv_at hl 0 rfl) ?_
  refine gf12_errorAt G hP dX12_errorPosition_1 ?_
  refine lv_iconst (v := (-1)) hx hb dX12_errorPosition_4 (by decide) ?_
  refine lv_icmp_ne (tgt := 16) hx hb dX12_errorPosition_5 (by decide) (fun c1 => ?_) (fun c1 => ?_)
  · replace h := it_f c1 h
    refine lv_aload_n hx hb dX12_errorPosition_16 rfl (lv_at hl 0 rfl) ?_
    refine lv_aload_n hx hb dX12_errorPosition_17 rfl (lv_at hl 0 rfl) ?_
    refine gf12_errorAt G hP dX12_errorPosition_18 ?_
    obtain ⟨r2, s3, g4, h⟩ := ob_e h
    refine g_callVi (nA := 1) (mX12_done l D cA ad a fr (s0 0 9) s0 r2 s3 g4) G hP hD hS (g_good q8_16 q8_18 qs_28 q1_16 q8_19) (by decide +kernel) (by decide) (by decide) sh12_0 rfl rfl hl.1 [] rfl (Nat.le_of_ble_eq_true rfl) dX12_errorPosition_21 (fun H locs hP hD hS => ?_)
    exact g_ret G hP hD hS h rfl dX12_errorPosition_24
  · replace h := it_t c1 h
    refine lv_aload_n hx hb dX12_errorPosition_8 rfl (lv_at hl 0 rfl) ?_
    refine lv_iconst (v := 1) hx hb dX12_errorPosition_9 (by decide) ?_
    obtain ⟨r5, s6, g7, h⟩ := ob_e h
    refine g_callVi (nA := 1) (mX12_fails l D cA ad a fr 1 s0 r5 s6 g7) G hP hD hS (g_good q8_0 q8_2 qs_24 q1_16 q8_3) (by decide +kernel) (by decide) (by decide) sh12_0 rfl rfl hl.1 [] rfl (Nat.le_of_ble_eq_true rfl) dX12_errorPosition_10 (fun H locs hP hD hS => ?_)
    refine lv_goto (tgt := 24) hx hb dX12_errorPosition_13 (by decide) ?_
    exact g_ret G hP hD hS h rfl dX12_errorPosition_24
def fX12_failedCommand (s0 : St) : Option (Int32 × St) :=
  if (s0 0 10) = ((-1)) then
    OB (fX12_fails 1 s0) fun r5 s6 =>
    some (r5, s6)
  else
    OB (fX12_done (s0 0 10) s0) fun r2 s3 =>
    some (r2, s3)
set_option maxHeartbeats 4000000 in
set_option maxRecDepth 100000 in
theorem mX12_failedCommand (l : Launch) (D : va_G) (cA : Nat → ClassId) (ad a : Nat → Nat) (fr : va_W) (s0 : St) (r : Int32) (s' : St) (h : fX12_failedCommand s0 = some (r, s')) : gMet l yX12_failedCommand cX12_failedCommand 1 (some .int) 1 D (TYS cA) ST0 (wm cA ad a fr s0) [.ref (a 0)] (fun A => gQi D (TYS cA) A (wm cA ad a fr) r s') := by
  refine g_ofW st0_ok (by decide) (Nat.le_of_ble_eq_true rfl) ?_
  intro p e s m args below meth c ls A G hP hD hl
  have G : GC p s m args meth c cX12_failedCommand 1 RX12 (some .int) A D (TYS cA) ST0 := G
  have hx := G.1
  have hb := G.2.1
  have hS : va_S A s.heap s.heap [] := va_S.rf
  have hl : lv_has ls 1 [(0, .ref (a 0))] := hl
  unfold fX12_failedCommand at h
  refine lv_aload_n hx hb dX12_failedCommand_0 rfl (lv_at hl 0 rfl) ?_
  refine gf12_failedAt G hP dX12_failedCommand_1 ?_
  refine lv_iconst (v := (-1)) hx hb dX12_failedCommand_4 (by decide) ?_
  refine lv_icmp_ne (tgt := 16) hx hb dX12_failedCommand_5 (by decide) (fun c1 => ?_) (fun c1 => ?_)
  · replace h := it_f c1 h
    refine lv_aload_n hx hb dX12_failedCommand_16 rfl (lv_at hl 0 rfl) ?_
    refine lv_aload_n hx hb dX12_failedCommand_17 rfl (lv_at hl 0 rfl) ?_
    refine gf12_failedAt G hP dX12_failedCommand_18 ?_
    obtain ⟨r2, s3, g4, h⟩ := ob_e h
    refine g_callVi (nA := 1) (mX12_done l D cA ad a fr (s0 0 10) s0 r2 s3 g4) G hP hD hS (g_good q8_16 q8_18 qs_28 q1_16 q8_19) (by decide +kernel) (by decide) (by decide) sh12_0 rfl rfl hl.1 [] rfl (Nat.le_of_ble_eq_true rfl) dX12_failedCommand_21 (fun H locs hP hD hS => ?_)
    exact g_ret G hP hD hS h rfl dX12_failedCommand_24
  · replace h := it_t c1 h
    refine lv_aload_n hx hb dX12_failedCommand_8 rfl (lv_at hl 0 rfl) ?_
    refine lv_iconst (v := 1) hx hb dX12_failedCommand_9 (by decide) ?_
    obtain ⟨r5, s6, g7, h⟩ := ob_e h
    refine g_callVi (nA := 1) (mX12_fails l D cA ad a fr 1 s0 r5 s6 g7) G hP hD hS (g_good q8_0 q8_2 qs_24 q1_16 q8_3) (by decide +kernel) (by decide) (by decide) sh12_0 rfl rfl hl.1 [] rfl (Nat.le_of_ble_eq_true rfl) dX12_failedCommand_10 (fun H locs hP hD hS => ?_)
    refine lv_goto (tgt := 24) hx hb dX12_failedCommand_13 (by decide) ?_
    exact g_ret G hP hD hS h rfl dX12_failedCommand_24
noncomputable def fX12_undo (nF : Nat) (s0 : St) : Option (Int32 × St) :=
  if (s0 0 4) = 0 then
    OB (fX12_fails 1 s0) fun r9 s10 =>
    some (r9, s10)
  else
    LET (u2 s0 0 4 ((s0 0 4) - 1)) fun s2 =>
    OB (fX12_copy nF 4 1248 1 156 ((s2 0 4) * 156) 0 s2) fun r3 s4 =>
    OB (fX12_done (s4 0 4) s4) fun r6 s7 =>
    some (r6, s7)
set_option maxHeartbeats 4000000 in
set_option maxRecDepth 100000 in
theorem mX12_undo (l : Launch) (D : va_G) (cA : Nat → ClassId) (ad a : Nat → Nat) (fr : va_W) (nF : Nat) (s0 : St) (r : Int32) (s' : St) (h : fX12_undo nF s0 = some (r, s')) : gMet l yX12_undo cX12_undo 1 (some .int) 1 D (TYS cA) ST0 (wm cA ad a fr s0) [.ref (a 0)] (fun A => gQi D (TYS cA) A (wm cA ad a fr) r s') := by
  refine g_ofW st0_ok (by decide) (Nat.le_of_ble_eq_true rfl) ?_
  intro p e s m args below meth c ls A G hP hD hl
  have G : GC p s m args meth c cX12_undo 1 RX12 (some .int) A D (TYS cA) ST0 := G
  have hx := G.1
  have hb := G.2.1
  have hS : va_S A s.heap s.heap [] := va_S.rf
  have hl : lv_has ls 1 [(0, .ref (a 0))] := hl
  unfold fX12_undo at h
  refine lv_aload_n hx hb dX12_undo_0 rfl (lv_at hl 0 rfl) ?_
  refine gf12_changes G hP dX12_undo_1 ?_
  refine lv_if_ne (tgt := 13) hx hb dX12_undo_4 (by decide) (fun c1 => ?_) (fun c1 => ?_)
  · replace h := it_f c1 h
    refine lv_aload_n hx hb dX12_undo_13 rfl (lv_at hl 0 rfl) ?_
    refine lv_dup hx hb dX12_undo_14 rfl ?_
    refine gf12_changes G hP dX12_undo_15 ?_
    refine lv_iconst (v := 1) hx hb dX12_undo_18 (by decide) ?_
    refine lv_isub hx hb dX12_undo_19 ?_
    refine pf12_changes G hP hD hS dX12_undo_20 (fun s2 es2 H locs hP hD hS => ?_)
    replace h := let_e es2 h
    refine lv_aload_n hx hb dX12_undo_23 rfl (lv_at hl 0 rfl) ?_
    refine gf12_history G hP dX12_undo_24 ?_
    refine lv_aload_n hx hb dX12_undo_27 rfl (lv_at hl 0 rfl) ?_
    refine gf12_changes G hP dX12_undo_28 ?_
    refine lv_sipush (v := 156) hx hb dX12_undo_31 (by decide) ?_
    refine lv_imul hx hb dX12_undo_34 ?_
    refine lv_aload_n hx hb dX12_undo_35 rfl (lv_at hl 0 rfl) ?_
    refine gf12_g G hP dX12_undo_36 ?_
    refine lv_iconst (v := 0) hx hb dX12_undo_39 (by decide) ?_
    obtain ⟨r3, s4, g5, h⟩ := ob_e h
    refine g_callSv (nA := 4) (mX12_copy l D cA ad a fr nF 4 1248 1 156 (by decide) sh12_4 (by decide) sh12_1 ((s2 0 4) * 156) 0 s2 r3 s4 g5) G hP hD hS (g_goodS q7_227 q7_228 q1_16 q7_229) (by decide +kernel) (by decide) rfl hl.1 [] rfl (Nat.le_of_ble_eq_true rfl) dX12_undo_40 (fun H locs hP hD hS => ?_)
    refine lv_aload_n hx hb dX12_undo_43 rfl (lv_at hl 0 rfl) ?_
    refine lv_aload_n hx hb dX12_undo_44 rfl (lv_at hl 0 rfl) ?_
    refine gf12_changes G hP dX12_undo_45 ?_
    obtain ⟨r6, s7, g8, h⟩ := ob_e h
    refine g_callVi (nA := 1) (mX12_done l D cA ad a fr (s4 0 4) s4 r6 s7 g8) G hP hD hS (g_good q8_16 q8_18 qs_28 q1_16 q8_19) (by decide +kernel) (by decide) (by decide) sh12_0 rfl rfl hl.1 [] rfl (Nat.le_of_ble_eq_true rfl) dX12_undo_48 (fun H locs hP hD hS => ?_)
    exact g_ret G hP hD hS h rfl dX12_undo_51
  · replace h := it_t c1 h
    refine lv_aload_n hx hb dX12_undo_7 rfl (lv_at hl 0 rfl) ?_
    refine lv_iconst (v := 1) hx hb dX12_undo_8 (by decide) ?_
    obtain ⟨r9, s10, g11, h⟩ := ob_e h
    refine g_callVi (nA := 1) (mX12_fails l D cA ad a fr 1 s0 r9 s10 g11) G hP hD hS (g_good q8_0 q8_2 qs_24 q1_16 q8_3) (by decide +kernel) (by decide) (by decide) sh12_0 rfl rfl hl.1 [] rfl (Nat.le_of_ble_eq_true rfl) dX12_undo_9 (fun H locs hP hD hS => ?_)
    exact g_ret G hP hD hS h rfl dX12_undo_12
noncomputable def fX12_save (nF : Nat) (s0 : St) : Option (Int32 × St) :=
  OB (fX12_copy nF 1 156 5 156 0 0 s0) fun r1 s2 =>
  LET (u2 s2 0 6 1) fun s4 =>
  OB (fX12_waiting nF s4) fun r5 s6 =>
  OB (fX12_done r5 s6) fun r8 s9 =>
  some (r8, s9)
set_option maxHeartbeats 4000000 in
set_option maxRecDepth 100000 in
theorem mX12_save (l : Launch) (D : va_G) (cA : Nat → ClassId) (ad a : Nat → Nat) (fr : va_W) (nF : Nat) (s0 : St) (r : Int32) (s' : St) (h : fX12_save nF s0 = some (r, s')) : gMet l yX12_save cX12_save 1 (some .int) 3 D (TYS cA) ST0 (wm cA ad a fr s0) [.ref (a 0)] (fun A => gQi D (TYS cA) A (wm cA ad a fr) r s') := by
  refine g_ofW st0_ok (by decide) (Nat.le_of_ble_eq_true rfl) ?_
  intro p e s m args below meth c ls A G hP hD hl
  have G : GC p s m args meth c cX12_save 1 RX12 (some .int) A D (TYS cA) ST0 := G
  have hx := G.1
  have hb := G.2.1
  have hS : va_S A s.heap s.heap [] := va_S.rf
  have hl : lv_has ls 1 [(0, .ref (a 0))] := hl
  unfold fX12_save at h
  refine lv_aload_n hx hb dX12_save_0 rfl (lv_at hl 0 rfl) ?_
  refine gf12_g G hP dX12_save_1 ?_
  refine lv_iconst (v := 0) hx hb dX12_save_4 (by decide) ?_
  refine lv_aload_n hx hb dX12_save_5 rfl (lv_at hl 0 rfl) ?_
  refine gf12_savedState G hP dX12_save_6 ?_
  refine lv_iconst (v := 0) hx hb dX12_save_9 (by decide) ?_
  obtain ⟨r1, s2, g3, h⟩ := ob_e h
  refine g_callSv (nA := 4) (mX12_copy l D cA ad a fr nF 1 156 5 156 (by decide) sh12_1 (by decide) sh12_5 0 0 s0 r1 s2 g3) G hP hD hS (g_goodS q7_227 q7_228 q1_16 q7_229) (by decide +kernel) (by decide) rfl hl.1 [] rfl (Nat.le_of_ble_eq_true rfl) dX12_save_10 (fun H locs hP hD hS => ?_)
  refine lv_aload_n hx hb dX12_save_13 rfl (lv_at hl 0 rfl) ?_
  refine lv_iconst (v := 1) hx hb dX12_save_14 (by decide) ?_
  refine pf12_hasSaved G hP hD hS (Or.inr rfl) dX12_save_15 (fun s4 es4 H locs hP hD hS => ?_)
  replace h := let_e es4 h
  refine lv_aload_n hx hb dX12_save_18 rfl (lv_at hl 0 rfl) ?_
  refine lv_aload_n hx hb dX12_save_19 rfl (lv_at hl 0 rfl) ?_
  obtain ⟨r5, s6, g7, h⟩ := ob_e h
  refine g_callVi (nA := 0) (mX12_waiting l D cA ad a fr nF s4 r5 s6 g7) G hP hD hS (g_good q8_4 q8_6 qs_25 q1_16 q8_7) (by decide +kernel) (by decide) (by decide) sh12_0 rfl rfl hl.1 [.ref (a 0)] rfl (Nat.le_of_ble_eq_true rfl) dX12_save_20 (fun H locs hP hD hS => ?_)
  obtain ⟨r8, s9, g10, h⟩ := ob_e h
  refine g_callVi (nA := 1) (mX12_done l D cA ad a fr r5 s6 r8 s9 g10) G hP hD hS (g_good q8_16 q8_18 qs_28 q1_16 q8_19) (by decide +kernel) (by decide) (by decide) sh12_0 rfl rfl hl.1 [] rfl (Nat.le_of_ble_eq_true rfl) dX12_save_23 (fun H locs hP hD hS => ?_)
  exact g_ret G hP hD hS h rfl dX12_save_26
noncomputable def fX12_restore (nF : Nat) (s0 : St) : Option (Int32 × St) :=
  if (s0 0 6) = 0 then
    OB (fX12_fails 1 s0) fun r12 s13 =>
    some (r12, s13)
  else
    OB (fX12_copy nF 5 156 1 156 0 0 s0) fun r2 s3 =>
    LET (u2 s3 0 4 0) fun s5 =>
    OB (fX12_waiting nF s5) fun r6 s7 =>
    OB (fX12_done r6 s7) fun r9 s10 =>
    some (r9, s10)
set_option maxHeartbeats 4000000 in
set_option maxRecDepth 100000 in
theorem mX12_restore (l : Launch) (D : va_G) (cA : Nat → ClassId) (ad a : Nat → Nat) (fr : va_W) (nF : Nat) (s0 : St) (r : Int32) (s' : St) (h : fX12_restore nF s0 = some (r, s')) : gMet l yX12_restore cX12_restore 1 (some .int) 3 D (TYS cA) ST0 (wm cA ad a fr s0) [.ref (a 0)] (fun A => gQi D (TYS cA) A (wm cA ad a fr) r s') := by
  refine g_ofW st0_ok (by decide) (Nat.le_of_ble_eq_true rfl) ?_
  intro p e s m args below meth c ls A G hP hD hl
  have G : GC p s m args meth c cX12_restore 1 RX12 (some .int) A D (TYS cA) ST0 := G
  have hx := G.1
  have hb := G.2.1
  have hS : va_S A s.heap s.heap [] := va_S.rf
  have hl : lv_has ls 1 [(0, .ref (a 0))] := hl
  unfold fX12_restore at h
  refine lv_aload_n hx hb dX12_restore_0 rfl (lv_at hl 0 rfl) ?_
  refine gf12_hasSaved G hP dX12_restore_1 ?_
  refine lv_if_ne (tgt := 13) hx hb dX12_restore_4 (by decide) (fun c1 => ?_) (fun c1 => ?_)
  · replace h := it_f c1 h
    refine lv_aload_n hx hb dX12_restore_13 rfl (lv_at hl 0 rfl) ?_
    refine gf12_savedState G hP dX12_restore_14 ?_
    refine lv_iconst (v := 0) hx hb dX12_restore_17 (by decide) ?_
    refine lv_aload_n hx hb dX12_restore_18 rfl (lv_at hl 0 rfl) ?_
    refine gf12_g G hP dX12_restore_19 ?_
    refine lv_iconst (v := 0) hx hb dX12_restore_22 (by decide) ?_
    obtain ⟨r2, s3, g4, h⟩ := ob_e h
    refine g_callSv (nA := 4) (mX12_copy l D cA ad a fr nF 5 156 1 156 (by decide) sh12_5 (by decide) sh12_1 0 0 s0 r2 s3 g4) G hP hD hS (g_goodS q7_227 q7_228 q1_16 q7_229) (by decide +kernel) (by decide) rfl hl.1 [] rfl (Nat.le_of_ble_eq_true rfl) dX12_restore_23 (fun H locs hP hD hS => ?_)
    refine lv_aload_n hx hb dX12_restore_26 rfl (lv_at hl 0 rfl) ?_
    refine lv_iconst (v := 0) hx hb dX12_restore_27 (by decide) ?_
    refine pf12_changes G hP hD hS dX12_restore_28 (fun s5 es5 H locs hP hD hS => ?_)
    replace h := let_e es5 h
    refine lv_aload_n hx hb dX12_restore_31 rfl (lv_at hl 0 rfl) ?_
    refine lv_aload_n hx hb dX12_restore_32 rfl (lv_at hl 0 rfl) ?_
    obtain ⟨r6, s7, g8, h⟩ := ob_e h
    refine g_callVi (nA := 0) (mX12_waiting l D cA ad a fr nF s5 r6 s7 g8) G hP hD hS (g_good q8_4 q8_6 qs_25 q1_16 q8_7) (by decide +kernel) (by decide) (by decide) sh12_0 rfl rfl hl.1 [.ref (a 0)] rfl (Nat.le_of_ble_eq_true rfl) dX12_restore_33 (fun H locs hP hD hS => ?_)
    obtain ⟨r9, s10, g11, h⟩ := ob_e h
    refine g_callVi (nA := 1) (mX12_done l D cA ad a fr r6 s7 r9 s10 g11) G hP hD hS (g_good q8_16 q8_18 qs_28 q1_16 q8_19) (by decide +kernel) (by decide) (by decide) sh12_0 rfl rfl hl.1 [] rfl (Nat.le_of_ble_eq_true rfl) dX12_restore_36 (fun H locs hP hD hS => ?_)
    exact g_ret G hP hD hS h rfl dX12_restore_39
  · replace h := it_t c1 h
    refine lv_aload_n hx hb dX12_restore_7 rfl (lv_at hl 0 rfl) ?_
    refine lv_iconst (v := 1) hx hb dX12_restore_8 (by decide) ?_
    obtain ⟨r12, s13, g14, h⟩ := ob_e h
    refine g_callVi (nA := 1) (mX12_fails l D cA ad a fr 1 s0 r12 s13 g14) G hP hD hS (g_good q8_0 q8_2 qs_24 q1_16 q8_3) (by decide +kernel) (by decide) (by decide) sh12_0 rfl rfl hl.1 [] rfl (Nat.le_of_ble_eq_true rfl) dX12_restore_9 (fun H locs hP hD hS => ?_)
    exact g_ret G hP hD hS h rfl dX12_restore_12
