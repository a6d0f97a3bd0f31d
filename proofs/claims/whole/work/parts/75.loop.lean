-- ===== the law's loop =====
theorem and63 (x : Int32) : 0 ≤ (x &&& 63).toInt ∧ (x &&& 63).toInt ≤ 63 := by
  have h1 : (x &&& 63).toBitVec.toNat ≤ 63 := by
    rw [Int32.toBitVec_and, BitVec.toNat_and]
    exact Nat.and_le_right
  have h2 : (x &&& 63).toInt = ((x &&& 63).toBitVec.toNat : Int) := by
    show (x &&& 63).toBitVec.toInt = _
    exact BitVec.toInt_eq_toNat_of_lt (by omega)
  omega
theorem la_gt {L C : Nat} (hL : L ≤ 2048) (hC : C ≤ 512) : (Int32.ofNat L - 4 < nI (4 * C)) ↔ ¬ 4 * C + 4 ≤ L := by
  have e : (Int32.ofNat L - 4).toInt = (L : Int) - 4 := by
    rw [Int32.toInt_sub, show (Int32.ofNat L).toInt = (L : Int) from nI_toInt (by omega), show (4 : Int32).toInt = 4 from rfl]
    exact Int.bmod_eq_of_le (by omega) (by omega)
  rw [Int32.lt_iff_toInt_lt, e, nI_toInt (by omega)]
  omega
section C74
variable {p : Program} {l : Launch} {e : Env} {s : State} {m : MethodId} {args : Array Value} {below : List Frame} {meth : Method} {c : Code} {H : Heap} {locs : List Loc} {cells slots : Nat} {Q : State → Prop}
variable {ls : Array Slot} {D : va_G} {A : Nat → Prop} {cA : Nat → ClassId} {ad adF adW tt a : Nat → Nat} {ao ao2 : Nat} {ad2 a2 : Nat → Nat} {bb L : Nat} {xs : Nat → Int32}
variable {C : Nat} {b : SBb} {g : Nat → Int64} {gd : Nat → UInt64} {σ s' : St} {T : List Nat}
set_option maxHeartbeats 4000000 in
set_option maxRecDepth 100000 in
theorem law_sw (K : LC p l s m args meth c D A cA ad adF adW tt bb L xs) (hC : C < 512) (hi : 4 * C + 4 ≤ L) (Nx : LGo p l e s m args below meth c Q D A cA ad a ao ao2 ad2 a2 bb (C + 1)) (hG : GG σ s' C T) (hB : SBT T b) (hP : va_P D vwCl (LW cA ad a ao g T.length b ao2 gd ad2 a2 σ s') H) (hD : va_D A (LW cA ad a ao g T.length b ao2 gd ad2 a2 σ s')) (hS : va_S A s.heap H locs) (hc1 : cells ≤ 254 + 70 * C) (hc2 : slots ≤ 4842 + 680 * C) (hl : lv_has ls 9 (LL bb (a 209) (a2 0) ao ao2 (nI (4 * C)))) {v : Int32} (hv0 : 0 ≤ v.toInt) (hv : v.toInt ≤ 63) : W p l e room_1 s m args below meth c H locs cells slots Q (F0 m 44 ls [.int v]) := by
  have hx := K.1.1
  have hb := K.1.2.1
  obtain ⟨n, hn, rfl⟩ : ∃ n, n < 64 ∧ v = nI n := ⟨v.toInt.toNat, by omega, by
    refine Int32.toInt_inj.mp ?_
    rw [nI_toInt (by omega)]
    omega⟩
  match n, hn with
  | 0, _ => exact g_tabk hx hb (nI 0) rfl dL_law_44 (by decide) rfl (by decide) (lawc_0 K hC hi Nx hG hB hP hD hS hc1 hc2 hl)
  | 1, _ => exact g_tabk hx hb (nI 1) rfl dL_law_44 (by decide) rfl (by decide) (lawc_1 K hC hi Nx hG hB hP hD hS hc1 hc2 hl)
  | 2, _ => exact g_tabk hx hb (nI 2) rfl dL_law_44 (by decide) rfl (by decide) (lawc_2 K hC hi Nx hG hB hP hD hS hc1 hc2 hl)
  | 3, _ => exact g_tabk hx hb (nI 3) rfl dL_law_44 (by decide) rfl (by decide) (lawc_3 K hC hi Nx hG hB hP hD hS hc1 hc2 hl)
  | 4, _ => exact g_tabk hx hb (nI 4) rfl dL_law_44 (by decide) rfl (by decide) (lawc_4 K hC hi Nx hG hB hP hD hS hc1 hc2 hl)
  | 5, _ => exact g_tabk hx hb (nI 5) rfl dL_law_44 (by decide) rfl (by decide) (lawc_5 K hC hi Nx hG hB hP hD hS hc1 hc2 hl)
  | 6, _ => exact g_tabk hx hb (nI 6) rfl dL_law_44 (by decide) rfl (by decide) (lawc_6 K hC hi Nx hG hB hP hD hS hc1 hc2 hl)
  | 7, _ => exact g_tabk hx hb (nI 7) rfl dL_law_44 (by decide) rfl (by decide) (lawc_7 K hC hi Nx hG hB hP hD hS hc1 hc2 hl)
  | 8, _ => exact g_tabk hx hb (nI 8) rfl dL_law_44 (by decide) rfl (by decide) (lawc_8 K hC hi Nx hG hB hP hD hS hc1 hc2 hl)
  | 9, _ => exact g_tabk hx hb (nI 9) rfl dL_law_44 (by decide) rfl (by decide) (lawc_9 K hC hi Nx hG hB hP hD hS hc1 hc2 hl)
  | 10, _ => exact g_tabk hx hb (nI 10) rfl dL_law_44 (by decide) rfl (by decide) (lawc_10 K hC hi Nx hG hB hP hD hS hc1 hc2 hl)
  | 11, _ => exact g_tabk hx hb (nI 11) rfl dL_law_44 (by decide) rfl (by decide) (lawc_11 K hC hi Nx hG hB hP hD hS hc1 hc2 hl)
  | 12, _ => exact g_tabk hx hb (nI 12) rfl dL_law_44 (by decide) rfl (by decide) (lawc_12 K hC hi Nx hG hB hP hD hS hc1 hc2 hl)
  | 13, _ => exact g_tabk hx hb (nI 13) rfl dL_law_44 (by decide) rfl (by decide) (lawc_13 K hC hi Nx hG hB hP hD hS hc1 hc2 hl)
  | 14, _ => exact g_tabk hx hb (nI 14) rfl dL_law_44 (by decide) rfl (by decide) (lawc_14 K hC hi Nx hG hB hP hD hS hc1 hc2 hl)
  | 15, _ => exact g_tabk hx hb (nI 15) rfl dL_law_44 (by decide) rfl (by decide) (lawc_15 K hC hi Nx hG hB hP hD hS hc1 hc2 hl)
  | 16, _ => exact g_tabk hx hb (nI 16) rfl dL_law_44 (by decide) rfl (by decide) (lawc_16 K hC hi Nx hG hB hP hD hS hc1 hc2 hl)
  | 17, _ => exact g_tabk hx hb (nI 17) rfl dL_law_44 (by decide) rfl (by decide) (lawc_17 K hC hi Nx hG hB hP hD hS hc1 hc2 hl)
  | 18, _ => exact g_tabk hx hb (nI 18) rfl dL_law_44 (by decide) rfl (by decide) (lawc_18 K hC hi Nx hG hB hP hD hS hc1 hc2 hl)
  | 19, _ => exact g_tabk hx hb (nI 19) rfl dL_law_44 (by decide) rfl (by decide) (lawc_19 K hC hi Nx hG hB hP hD hS hc1 hc2 hl)
  | 20, _ => exact g_tabk hx hb (nI 20) rfl dL_law_44 (by decide) rfl (by decide) (lawc_20 K hC hi Nx hG hB hP hD hS hc1 hc2 hl)
  | 21, _ => exact g_tabk hx hb (nI 21) rfl dL_law_44 (by decide) rfl (by decide) (lawc_21 K hC hi Nx hG hB hP hD hS hc1 hc2 hl)
  | 22, _ => exact g_tabk hx hb (nI 22) rfl dL_law_44 (by decide) rfl (by decide) (lawc_22 K hC hi Nx hG hB hP hD hS hc1 hc2 hl)
  | 23, _ => exact g_tabk hx hb (nI 23) rfl dL_law_44 (by decide) rfl (by decide) (lawc_23 K hC hi Nx hG hB hP hD hS hc1 hc2 hl)
  | 24, _ => exact g_tabk hx hb (nI 24) rfl dL_law_44 (by decide) rfl (by decide) (lawc_24 K hC hi Nx hG hB hP hD hS hc1 hc2 hl)
  | 25, _ => exact g_tabk hx hb (nI 25) rfl dL_law_44 (by decide) rfl (by decide) (lawc_25 K hC hi Nx hG hB hP hD hS hc1 hc2 hl)
  | 26, _ => exact g_tabk hx hb (nI 26) rfl dL_law_44 (by decide) rfl (by decide) (lawc_26 K hC hi Nx hG hB hP hD hS hc1 hc2 hl)
  | 27, _ => exact g_tabk hx hb (nI 27) rfl dL_law_44 (by decide) rfl (by decide) (lawc_27 K hC hi Nx hG hB hP hD hS hc1 hc2 hl)
  | 28, _ => exact g_tabk hx hb (nI 28) rfl dL_law_44 (by decide) rfl (by decide) (lawc_28 K hC hi Nx hG hB hP hD hS hc1 hc2 hl)
  | 29, _ => exact g_tabk hx hb (nI 29) rfl dL_law_44 (by decide) rfl (by decide) (lawc_29 K hC hi Nx hG hB hP hD hS hc1 hc2 hl)
  | 30, _ => exact g_tabk hx hb (nI 30) rfl dL_law_44 (by decide) rfl (by decide) (lawc_30 K hC hi Nx hG hB hP hD hS hc1 hc2 hl)
  | 31, _ => exact g_tabk hx hb (nI 31) rfl dL_law_44 (by decide) rfl (by decide) (lawc_31 K hC hi Nx hG hB hP hD hS hc1 hc2 hl)
  | 32, _ => exact g_tabk hx hb (nI 32) rfl dL_law_44 (by decide) rfl (by decide) (lawc_32 K hC hi Nx hG hB hP hD hS hc1 hc2 hl)
  | 33, _ => exact g_tabk hx hb (nI 33) rfl dL_law_44 (by decide) rfl (by decide) (lawc_33 K hC hi Nx hG hB hP hD hS hc1 hc2 hl)
  | 34, _ => exact g_tabk hx hb (nI 34) rfl dL_law_44 (by decide) rfl (by decide) (lawc_34 K hC hi Nx hG hB hP hD hS hc1 hc2 hl)
  | 35, _ => exact g_tabk hx hb (nI 35) rfl dL_law_44 (by decide) rfl (by decide) (lawc_35 K hC hi Nx hG hB hP hD hS hc1 hc2 hl)
  | 36, _ => exact g_tabk hx hb (nI 36) rfl dL_law_44 (by decide) rfl (by decide) (lawc_36 K hC hi Nx hG hB hP hD hS hc1 hc2 hl)
  | 37, _ => exact g_tabk hx hb (nI 37) rfl dL_law_44 (by decide) rfl (by decide) (lawc_37 K hC hi Nx hG hB hP hD hS hc1 hc2 hl)
  | 38, _ => exact g_tabk hx hb (nI 38) rfl dL_law_44 (by decide) rfl (by decide) (lawc_38 K hC hi Nx hG hB hP hD hS hc1 hc2 hl)
  | 39, _ => exact g_tabk hx hb (nI 39) rfl dL_law_44 (by decide) rfl (by decide) (lawc_39 K hC hi Nx hG hB hP hD hS hc1 hc2 hl)
  | 40, _ => exact g_tabk hx hb (nI 40) rfl dL_law_44 (by decide) rfl (by decide) (lawc_40 K hC hi Nx hG hB hP hD hS hc1 hc2 hl)
  | 41, _ => exact g_tabk hx hb (nI 41) rfl dL_law_44 (by decide) rfl (by decide) (lawc_41 K hC hi Nx hG hB hP hD hS hc1 hc2 hl)
  | 42, _ => exact g_tabk hx hb (nI 42) rfl dL_law_44 (by decide) rfl (by decide) (lawc_42 K hC hi Nx hG hB hP hD hS hc1 hc2 hl)
  | 43, _ => exact g_tabk hx hb (nI 43) rfl dL_law_44 (by decide) rfl (by decide) (lawc_43 K hC hi Nx hG hB hP hD hS hc1 hc2 hl)
  | 44, _ => exact g_tabk hx hb (nI 44) rfl dL_law_44 (by decide) rfl (by decide) (lawc_44 K hC hi Nx hG hB hP hD hS hc1 hc2 hl)
  | 45, _ => exact g_tabk hx hb (nI 45) rfl dL_law_44 (by decide) rfl (by decide) (lawc_45 K hC hi Nx hG hB hP hD hS hc1 hc2 hl)
  | 46, _ => exact g_tabk hx hb (nI 46) rfl dL_law_44 (by decide) rfl (by decide) (lawc_46 K hC hi Nx hG hB hP hD hS hc1 hc2 hl)
  | 47, _ => exact g_tabk hx hb (nI 47) rfl dL_law_44 (by decide) rfl (by decide) (lawc_47 K hC hi Nx hG hB hP hD hS hc1 hc2 hl)
  | 48, _ => exact g_tabk hx hb (nI 48) rfl dL_law_44 (by decide) rfl (by decide) (lawc_48 K hC hi Nx hG hB hP hD hS hc1 hc2 hl)
  | 49, _ => exact g_tabk hx hb (nI 49) rfl dL_law_44 (by decide) rfl (by decide) (lawc_49 K hC hi Nx hG hB hP hD hS hc1 hc2 hl)
  | 50, _ => exact g_tabk hx hb (nI 50) rfl dL_law_44 (by decide) rfl (by decide) (lawc_50 K hC hi Nx hG hB hP hD hS hc1 hc2 hl)
  | 51, _ => exact g_tabk hx hb (nI 51) rfl dL_law_44 (by decide) rfl (by decide) (lawc_51 K hC hi Nx hG hB hP hD hS hc1 hc2 hl)
  | 52, _ => exact g_tabk hx hb (nI 52) rfl dL_law_44 (by decide) rfl (by decide) (lawc_52 K hC hi Nx hG hB hP hD hS hc1 hc2 hl)
  | 53, _ => exact g_tabk hx hb (nI 53) rfl dL_law_44 (by decide) rfl (by decide) (lawc_53 K hC hi Nx hG hB hP hD hS hc1 hc2 hl)
  | 54, _ => exact g_tabk hx hb (nI 54) rfl dL_law_44 (by decide) rfl (by decide) (lawc_54 K hC hi Nx hG hB hP hD hS hc1 hc2 hl)
  | 55, _ => exact g_tabk hx hb (nI 55) rfl dL_law_44 (by decide) rfl (by decide) (lawc_55 K hC hi Nx hG hB hP hD hS hc1 hc2 hl)
  | 56, _ => exact g_tabk hx hb (nI 56) rfl dL_law_44 (by decide) rfl (by decide) (lawc_56 K hC hi Nx hG hB hP hD hS hc1 hc2 hl)
  | 57, _ => exact g_tabk hx hb (nI 57) rfl dL_law_44 (by decide) rfl (by decide) (lawc_57 K hC hi Nx hG hB hP hD hS hc1 hc2 hl)
  | n + 58, hn =>
    refine lv_tableOut (tgt := 3090) hx hb dL_law_44 (Or.inr (by rw [nI_toInt (by omega)]; omega)) (by decide) ?_
    exact la_end K Nx (hG.keep (fun c _ => rfl) (fun c _ => rfl) (fun j _ => rfl)) hB hP hD hS (by omega) (by omega) hl
set_option maxHeartbeats 4000000 in
set_option maxRecDepth 100000 in
theorem law_head (K : LC p l s m args meth c D A cA ad adF adW tt bb L xs) (hEnd : ∀ (H : Heap) (locs : List Loc) (cells slots : Nat) (ls : Array Slot), va_S A s.heap H locs → cells ≤ 603072 → slots ≤ 7198826 → W p l e room_1 s m args below meth c H locs cells slots Q (F0 m 3096 ls [])) (hC : C ≤ 512) (Nx : 4 * C + 4 ≤ L → LGo p l e s m args below meth c Q D A cA ad a ao ao2 ad2 a2 bb (C + 1)) : LGo p l e s m args below meth c Q D A cA ad a ao ao2 ad2 a2 bb C := by
  intro T b g gd σ s' hG hB H locs cells slots hP hD hS hc1 hc2 ls hl
  have hx := K.1.1
  have hb := K.1.2.1
  obtain ⟨-, -, hX, hbl, hbA, hL⟩ := id K
  refine lv_iload hx hb dL_law_28 (lv_at hl 0 rfl) ?_
  refine lv_aload_n hx hb dL_law_30 rfl (lv_at hl 1 rfl) ?_
  refine va_slen hx hb hX hbl hbA hS dL_law_31 ?_
  refine lv_iconst (v := 4) hx hb dL_law_32 (by decide) ?_
  refine lv_isub hx hb dL_law_33 ?_
  refine lv_icmp_gt (tgt := 3096) hx hb dL_law_34 (by decide) (fun h => ?_) (fun h => ?_)
  · exact hEnd H locs cells slots ls hS (by omega) (by omega)
  · have hi : 4 * C + 4 ≤ L := Decidable.of_not_not fun h9 => h ((la_gt hL hC).mpr h9)
    refine lv_aload_n hx hb dL_law_37 rfl (lv_at hl 1 rfl) ?_
    refine lv_iload hx hb dL_law_38 (lv_at hl 0 rfl) ?_
    refine va_sld hx hb hX hbl hbA hS (vp_in_nI (by omega) (by omega)) dL_law_40 ?_
    refine lv_bipush (v := 63) hx hb dL_law_41 (by decide) ?_
    refine lv_iand hx hb dL_law_43 ?_
    exact law_sw K (by omega) hi (Nx hi) hG hB hP hD hS hc1 hc2 hl (and63 _).1 (and63 _).2
theorem law_loop (K : LC p l s m args meth c D A cA ad adF adW tt bb L xs) (hEnd : ∀ (H : Heap) (locs : List Loc) (cells slots : Nat) (ls : Array Slot), va_S A s.heap H locs → cells ≤ 603072 → slots ≤ 7198826 → W p l e room_1 s m args below meth c H locs cells slots Q (F0 m 3096 ls [])) : ∀ (n C : Nat), C ≤ 512 → L ≤ 4 * C + 4 * n → LGo p l e s m args below meth c Q D A cA ad a ao ao2 ad2 a2 bb C := by
  have hL : L ≤ 2048 := K.2.2.2.2.2
  intro n
  induction n with
  | zero =>
    intro C hC h
    exact law_head K hEnd hC (fun h9 => absurd h9 (by omega))
  | succ n ih =>
    intro C hC h
    exact law_head K hEnd hC (fun h9 => ih (C + 1) (by omega) (by omega))
end C74
