-- ===== p61: the rows of the noises =====
theorem dL_noises_0 : decode cL_noises 0 = .ok (.new 74, 3) := by decide +kernel
theorem dL_noises_3 : decode cL_noises 3 = .ok (.dup, 1) := by decide +kernel
theorem dL_noises_4 : decode cL_noises 4 = .ok (.invokespecial 76, 3) := by decide +kernel
theorem dL_noises_7 : decode cL_noises 7 = .ok (.astore_n 1, 1) := by decide +kernel
theorem dL_noises_8 : decode cL_noises 8 = .ok (.iconst 0, 1) := by decide +kernel
theorem dL_noises_9 : decode cL_noises 9 = .ok (.istore_n 2, 1) := by decide +kernel
theorem dL_noises_10 : decode cL_noises 10 = .ok (.iload_n 2, 1) := by decide +kernel
theorem dL_noises_11 : decode cL_noises 11 = .ok (.aload_n 0, 1) := by decide +kernel
theorem dL_noises_12 : decode cL_noises 12 = .ok (.invokevirtual 77, 3) := by decide +kernel
theorem dL_noises_15 : decode cL_noises 15 = .ok (.if_icmp .ge 24, 3) := by decide +kernel
theorem dL_noises_18 : decode cL_noises 18 = .ok (.aload_n 1, 1) := by decide +kernel
theorem dL_noises_19 : decode cL_noises 19 = .ok (.aload_n 0, 1) := by decide +kernel
theorem dL_noises_20 : decode cL_noises 20 = .ok (.aload_n 0, 1) := by decide +kernel
theorem dL_noises_21 : decode cL_noises 21 = .ok (.iload_n 2, 1) := by decide +kernel
theorem dL_noises_22 : decode cL_noises 22 = .ok (.invokevirtual 80, 3) := by decide +kernel
theorem dL_noises_25 : decode cL_noises 25 = .ok (.iconst (-1), 1) := by decide +kernel
theorem dL_noises_26 : decode cL_noises 26 = .ok (.invokestatic 83, 3) := by decide +kernel
theorem dL_noises_29 : decode cL_noises 29 = .ok (.invokevirtual 87, 3) := by decide +kernel
theorem dL_noises_32 : decode cL_noises 32 = .ok (.pop, 1) := by decide +kernel
theorem dL_noises_33 : decode cL_noises 33 = .ok (.iinc 2 1, 3) := by decide +kernel
theorem dL_noises_36 : decode cL_noises 36 = .ok (.goto (-26), 3) := by decide +kernel
theorem dL_noises_39 : decode cL_noises 39 = .ok (.iconst 0, 1) := by decide +kernel
theorem dL_noises_40 : decode cL_noises 40 = .ok (.istore_n 2, 1) := by decide +kernel
theorem dL_noises_41 : decode cL_noises 41 = .ok (.iload_n 2, 1) := by decide +kernel
theorem dL_noises_42 : decode cL_noises 42 = .ok (.iconst 3, 1) := by decide +kernel
theorem dL_noises_43 : decode cL_noises 43 = .ok (.if_icmp .ge 32, 3) := by decide +kernel
theorem dL_noises_46 : decode cL_noises 46 = .ok (.aload_n 0, 1) := by decide +kernel
theorem dL_noises_47 : decode cL_noises 47 = .ok (.iload_n 2, 1) := by decide +kernel
theorem dL_noises_48 : decode cL_noises 48 = .ok (.invokestatic 91, 3) := by decide +kernel
theorem dL_noises_51 : decode cL_noises 51 = .ok (.ifCond .lt 18, 3) := by decide +kernel
theorem dL_noises_54 : decode cL_noises 54 = .ok (.aload_n 1, 1) := by decide +kernel
theorem dL_noises_55 : decode cL_noises 55 = .ok (.aload_n 0, 1) := by decide +kernel
theorem dL_noises_56 : decode cL_noises 56 = .ok (.aload_n 0, 1) := by decide +kernel
theorem dL_noises_57 : decode cL_noises 57 = .ok (.iload_n 2, 1) := by decide +kernel
theorem dL_noises_58 : decode cL_noises 58 = .ok (.invokestatic 91, 3) := by decide +kernel
theorem dL_noises_61 : decode cL_noises 61 = .ok (.iload_n 2, 1) := by decide +kernel
theorem dL_noises_62 : decode cL_noises 62 = .ok (.invokestatic 83, 3) := by decide +kernel
theorem dL_noises_65 : decode cL_noises 65 = .ok (.invokevirtual 87, 3) := by decide +kernel
theorem dL_noises_68 : decode cL_noises 68 = .ok (.pop, 1) := by decide +kernel
theorem dL_noises_69 : decode cL_noises 69 = .ok (.iinc 2 1, 3) := by decide +kernel
theorem dL_noises_72 : decode cL_noises 72 = .ok (.goto (-31), 3) := by decide +kernel
theorem dL_noises_75 : decode cL_noises 75 = .ok (.aload_n 1, 1) := by decide +kernel
theorem dL_noises_76 : decode cL_noises 76 = .ok (.areturn, 1) := by decide +kernel
def rwE (e : E4) (w : Int32) : Nat → Int32 := rwF (nI e.1) (nI e.2.1) (nI e.2.2.1) (nI e.2.2.2) w
/-- the noise on a wheel -/
def onE (A : AM) (w : Nat) : E4 := (A.2.find? (fun e => e.1 + 1 == A.1 (13 + w))).getD z4
theorem onE_ok {A : AM} (hI : IN A.1 A.2) {w : Nat} (hw : w < 3) (h0 : A.1 (13 + w) ≠ 0) : onE A w ∈ A.2 ∧ A.1 (13 + w) = (onE A w).1 + 1 := by
  obtain ⟨e, he, hh⟩ := (hI.2.2.2.1 w hw).resolve_left h0
  unfold onE
  cases hf : A.2.find? (fun e => e.1 + 1 == A.1 (13 + w)) with
  | none =>
    have := List.find?_eq_none.mp hf e he
    exact absurd (beq_iff_eq.mpr hh.symm) this
  | some x =>
    have h1 := List.find?_some hf
    exact ⟨List.mem_of_find?_eq_some hf, (beq_iff_eq.mp h1).symm⟩
def wtR (A : AM) (k : Nat) : List (Nat → Int32) := (List.range k).map fun r => rwE (atR A r) (-1)
theorem wtR_S (A : AM) (k : Nat) : wtR A (k + 1) = wtR A k ++ [rwE (atR A k) (-1)] := by
  unfold wtR
  rw [List.range_succ, List.map_append]
  rfl
/-- the rows of the wheels below k -/
def whR (A : AM) : Nat → List (Nat → Int32)
  | 0 => []
  | k + 1 => whR A k ++ (if A.1 (13 + k) = 0 then [] else [rwE (onE A k) (nI k)])
theorem whR_S (A : AM) (k : Nat) : whR A (k + 1) = whR A k ++ (if A.1 (13 + k) = 0 then [] else [rwE (onE A k) (nI k)]) := rfl
theorem whR_le (A : AM) : ∀ k, (whR A k).length ≤ k := by
  intro k
  induction k with
  | zero => exact Nat.le_refl _
  | succ k ih =>
    rw [whR_S, List.length_append]
    split
    · show _ + 0 ≤ _
      omega
    · show _ + 1 ≤ _
      omega
def rowsA (A : AM) : List (Nat → Int32) := wtR A (wN A) ++ whR A 3
abbrev RWS : Type := List (Nat × (Nat → Int32))
/-- the list at z, of the rows rws -/
def nlW (cA : Nat → ClassId) (e0 z : Nat) (rws : RWS) (b : LB) : va_W := if rws.length = 0 then [(z, .inr (4, [.int 0, .ref e0, .int (nI 0)]))] else lsC cA z rws.length b
def NLok (rws : RWS) (b : LB) : Prop := rws.length = 0 ∨ LBok (rws.map (·.1)) b
theorem nl_perm1 {M L R fr : va_W} {x : Nat × va_E} : List.Perm (M ++ (x :: ((L ++ R) ++ fr))) ((L ++ (R ++ [x])) ++ (M ++ fr)) := by
  have h1 : List.Perm (x :: ((L ++ R) ++ fr)) ((L ++ (R ++ [x])) ++ fr) := by
    have a1 : List.Perm (x :: ((L ++ R) ++ fr)) ((L ++ R) ++ (x :: fr)) := List.perm_middle.symm
    refine a1.trans (List.Perm.of_eq ?_)
    rw [← List.append_assoc L R [x], List.append_assoc (L ++ R) [x] fr]
    rfl
  refine (h1.append_left M).trans ?_
  rw [← List.append_assoc M (L ++ (R ++ [x])) fr, ← List.append_assoc (L ++ (R ++ [x])) M fr]
  exact List.perm_append_comm.append_right fr
theorem nl_perm2 {M Y fr : va_W} : List.Perm ((M ++ fr) ++ Y) (M ++ (Y ++ fr)) := by
  rw [List.append_assoc]
  exact List.perm_append_comm.append_left M
theorem rw_mem {rws : RWS} {new : Nat × (Nat → Int32)} {y : Nat} (h : y ∈ rws.map (·.1)) : ∃ (k : Nat) (x : Nat × (Nat → Int32)), (rws ++ [new])[k]? = some x ∧ x.1 = y := by
  obtain ⟨x, hx, rfl⟩ := List.mem_map.mp h
  obtain ⟨k, hk⟩ := List.getElem?_of_mem hx
  exact ⟨k, x, by rw [List.getElem?_append_left (List.getElem?_eq_some_iff.mp hk).1]; exact hk, rfl⟩
theorem rw_last {rws : RWS} {new : Nat × (Nat → Int32)} : (rws ++ [new])[rws.length]? = some new := by
  rw [List.getElem?_append_right (Nat.le_refl _), Nat.sub_self]
  rfl
theorem rwW_snoc {cA : Nat → ClassId} {rws : RWS} {q : Nat} {f : Nat → Int32} : rwW cA rws ++ [(q, .inl (cA 0, 5, .inl f))] = rwW cA (rws ++ [(q, f)]) := by
  unfold rwW
  rw [List.map_append]
  rfl
section AD
variable {p : Program} {l : Launch} {e : Env} {R : Room} {s : State} {m : MethodId} {args : Array Value} {below : List Frame} {meth : Method} {c : Code} {H : Heap} {locs : List Loc} {cells slots : Nat} {Q : State → Prop}
variable {cc : ByteArray} {maxL : Nat} {ret : Option FieldType} {pc : Nat} {ls : Array Slot} {rest : List Value} {D : va_G} {A : Nat → Prop} {cA : Nat → ClassId} {ST : gST} {ad a : Nat → Nat} {fr : va_W} {σ : St}
/-- a row at the head of the frame is added to the list -/
theorem nl_add {e0 mi z q : Nat} {f : Nat → Int32} {rws : RWS} {b : LB} (hTk : STok ST) (hL : STL e0 mi ST) (hb0 : NLok rws b) (h15 : rws.length < 15) (G : GC p s m args meth c cc maxL RL ret A D (TYS cA) ST) (hP : va_P D vwCl (wc cA ad a ((q, .inl (cA 0, 5, .inl f)) :: ((nlW cA e0 z rws b ++ rwW cA rws) ++ fr)) σ) H) (hD : va_D A (wc cA ad a ((q, .inl (cA 0, 5, .inl f)) :: ((nlW cA e0 z rws b ++ rwW cA rws) ++ fr)) σ)) (hS : va_S A s.heap H locs) (hR : 9 ≤ R.frames ∧ 19 + 2 + 40 * 8 ≤ R.locals ∧ cells + 1 ≤ R.cells ∧ slots + 15 ≤ R.slots) (hls : ls.size = maxL) (hdg : decode cc pc = .ok (.invokevirtual 87, 3))
    (kk : ∀ (b' : LB) (H1 : Heap) (locs1 : List Loc), NLok (rws ++ [(q, f)]) b' → va_P D vwCl (wc cA ad a ((nlW cA e0 z (rws ++ [(q, f)]) b' ++ rwW cA (rws ++ [(q, f)])) ++ fr) σ) H1 → va_D A (wc cA ad a ((nlW cA e0 z (rws ++ [(q, f)]) b' ++ rwW cA (rws ++ [(q, f)])) ++ fr) σ) → va_S A s.heap H1 locs1 → W p l e R s m args below meth c H1 locs1 (cells + 1) (slots + 15) Q (F0 m (pc + 3) ls [.int 1])) : W p l e R s m args below meth c H locs cells slots Q (F0 m pc ls [.ref q, .ref z]) := by
  have hP := hP.perm nl_perm1
  have hD := hD.perm nl_perm1
  rw [rwW_snoc] at hP hD
  have hn : nlW cA e0 z (rws ++ [(q, f)]) = lsC cA z (rws ++ [(q, f)]).length := by
    funext b'
    exact if_neg (by rw [List.length_append]; show ¬ rws.length + 1 = 0; omega)
  by_cases h0 : rws.length = 0
  · have e0' : rws = [] := List.length_eq_zero_iff.mp h0
    subst e0'
    refine c_callVi (nA := 1) (C := RJx4a65c) (T := TJx4a65c) (M := 3) (ci := 4) (wc cA ad a fr σ) ([(z, .inr (4, [.int 0, .ref e0, .int (nI 0)]))] ++ rwW cA [(q, f)]) 0 rfl rfl (mADD0 l D cA ST hTk e0 mi hL z q [(q, f)] 0 f rfl) G hP hD hS List.perm_append_comm (g_good q5_239 q6_0 q6_1 q1_31 q6_2) (by decide +kernel) ⟨by omega, by omega, by omega, by omega⟩ rfl hls [] rfl (Nat.le_of_ble_eq_true rfl) hdg (fun r b' H locs hok hP hD hS => ?_)
    obtain ⟨rfl, hb'⟩ := hok
    exact kk b' H locs (Or.inr hb') (by rw [hn]; exact hP.perm nl_perm2) (by rw [hn]; exact hD.perm nl_perm2) hS
  · have hb := hb0.resolve_left h0
    have hn0 : nlW cA e0 z rws b = lsC cA z (rws.map (·.1)).length b := by
      rw [List.length_map]
      exact if_neg h0
    rw [hn0] at hP hD
    refine c_callVi (nA := 1) (C := RJx4a65c) (T := TJx4a65c) (M := 3) (ci := 4) (wc cA ad a fr σ) (lsC cA z (rws.map (·.1)).length b ++ rwW cA (rws ++ [(q, f)])) 0 rfl rfl (mADD l D cA ST hTk e0 mi hL q (rws ++ [(q, f)]) rws.length f rw_last z (rws.map (·.1)) b hb (by rw [List.length_map]; exact h15) (by rw [List.length_map]; omega) (fun y hy => rw_mem hy)) G hP hD hS List.perm_append_comm (g_good q5_239 q6_0 q6_1 q1_31 q6_2) (by decide +kernel) ⟨by omega, by omega, by omega, by omega⟩ rfl hls [] rfl (Nat.le_of_ble_eq_true rfl) hdg (fun r b' H locs hok hP hD hS => ?_)
    obtain ⟨rfl, hb'⟩ := hok
    rw [List.length_map] at hP hD
    have em : (rws ++ [(q, f)]).map (·.1) = rws.map (·.1) ++ [q] := List.map_append ..
    have el : (rws ++ [(q, f)]).length = rws.length + 1 := List.length_append ..
    exact kk b' H locs (Or.inr (by rw [em]; exact hb')) (by rw [hn, el]; exact hP.perm nl_perm2) (by rw [hn, el]; exact hD.perm nl_perm2) hS
end AD
theorem dflt_Jx4a65c : ∀ j, j < 3 → defaultValue (tyJx4a65c j) = vp_V [.int 0, .null, .int 0] j := fun j hj => by
  match j, hj with
  | 0, _ => rfl
  | 1, _ => rfl
  | 2, _ => rfl
  | j + 3, hj => omega
set_option maxHeartbeats 4000000 in
set_option maxRecDepth 100000 in
theorem mL_noises (l : Launch) (hlt : l.stackTraces = false) (D : va_G) (cA : Nat → ClassId) (ad adF adW tt a : Nat → Nat) (fr : va_W) (ST : gST) (hT : STE ad adF adW tt ST) (hSX : STX ST) (hSN : STN ST) {e0 mi : Nat} (hL : STL e0 mi ST) {σ : St} {X : AM} {Hs : List AM} {Sv : Option AM} {B : List Nat} {er fl : Option Nat} {C : Nat} (hC : C < 512) (h : KG σ X Hs Sv B er fl C) : gMetG l yL_noises cL_noises 3 (some (.object "java/util/ArrayList")) 10 160 1100 D (TYS cA) ST (wc cA ad a fr σ) [.ref (a 209)] (gGr D (TYS cA) (fun x : St × Nat × RWS × LB => KG x.1 X Hs Sv B er fl C ∧ x.2.2.1.map (·.2) = rowsA X ∧ NLok x.2.2.1 x.2.2.2) (fun x => x.2.1) (fun x => wc cA ad a ((nlW cA e0 x.2.1 x.2.2.1 x.2.2.2 ++ rwW cA x.2.2.1) ++ fr) x.1)) := by
  refine g_ofWG hT.1 (by decide +kernel) (Nat.le_of_ble_eq_true rfl) ?_
  intro p e s m args below meth c ls A G hP hD hl
  have G : GC p s m args meth c cL_noises 3 RL (some (.object "java/util/ArrayList")) A D (TYS cA) ST := G
  have hx := G.1
  have hb := G.2.1
  have hS : va_S A s.heap s.heap [] := va_S.rf
  have hl : lv_has ls 3 [(0, .ref (a 209))] := hl
  have hI := h.2.2.1.1
  have hw12 : wN X ≤ 12 := hI.2.2.1
  -- the end: the wheels
  have loop2 : ∀ (d w z : Nat) (σ1 : St) (rws : RWS) (b : LB) (H : Heap) (locs : List Loc) (ls : Array Slot), w + d = 3 → KG σ1 X Hs Sv B er fl C → rws.map (·.2) = wtR X (wN X) ++ whR X w → NLok rws b → va_P D vwCl (wc cA ad a ((nlW cA e0 z rws b ++ rwW cA rws) ++ fr) σ1) H → va_D A (wc cA ad a ((nlW cA e0 z rws b ++ rwW cA rws) ++ fr) σ1) → va_S A s.heap H locs → lv_has ls 3 [(2, .int (nI w)), (1, .ref z), (0, .ref (a 209))] → W p l e (RMC 10 160 1100) s m args below meth c H locs (1 + 10 * wN X + 12 * w) (3 + 68 * wN X + 80 * w) (MQ below ((gGr D (TYS cA) (fun x : St × Nat × RWS × LB => KG x.1 X Hs Sv B er fl C ∧ x.2.2.1.map (·.2) = rowsA X ∧ NLok x.2.2.1 x.2.2.2) (fun x => x.2.1) (fun x => wc cA ad a ((nlW cA e0 x.2.1 x.2.2.1 x.2.2.2 ++ rwW cA x.2.2.1) ++ fr) x.1)) A) args s 160 1100 A) (F0 m 41 ls []) := by
    intro d
    induction d with
    | zero =>
      intro w z σ1 rws b H locs ls hw hK hm hb0 hP hD hS hl
      obtain rfl : w = 3 := by omega
      refine lv_iload_n hx hb dL_noises_41 rfl (lv_at hl 0 rfl) ?_
      refine lv_iconst (v := 3) hx hb dL_noises_42 (by decide) ?_
      refine lv_icmp_ge (tgt := 75) hx hb dL_noises_43 (by decide) (fun _ => ?_) (fun c9 => absurd (by decide) c9)
      refine lv_aload_n hx hb dL_noises_75 rfl (lv_at hl 1 rfl) ?_
      exact c_reta (σ1, z, rws, b) ⟨hK, hm, hb0⟩ rfl (Or.inl ⟨_, rfl⟩) G hP hD hS ⟨by omega, by omega⟩ dL_noises_76
    | succ d ih =>
      intro w z σ1 rws b H locs ls hw hK hm hb0 hP hD hS hl
      have hw3 : w < 3 := by omega
      have hlen : rws.length = wN X + (whR X w).length := by
        have := congrArg List.length hm
        rw [List.length_map, List.length_append] at this
        rw [this]
        unfold wtR
        rw [List.length_map, List.length_range]
      have hle := whR_le X w
      have hon := q_noiseOn hK hC hw3
      refine lv_iload_n hx hb dL_noises_41 rfl (lv_at hl 0 rfl) ?_
      refine lv_iconst (v := 3) hx hb dL_noises_42 (by decide) ?_
      refine lv_icmp_ge (tgt := 75) hx hb dL_noises_43 (by decide) (fun c9 => absurd c9 (nI_ge (b := 3) hw3 (by omega))) (fun _ => ?_)
      refine lv_aload_n hx hb dL_noises_46 rfl (lv_at hl 2 rfl) ?_
      refine lv_iload_n hx hb dL_noises_47 rfl (lv_at hl 0 rfl) ?_
      by_cases h0 : X.1 (13 + w) = 0
      · rw [if_pos h0] at hon
        refine c_callLi (nA := 2) ([] : va_W) (wc cA ad a ((nlW cA e0 z rws b ++ rwW cA rws) ++ fr) σ1) (mL_on l hlt D cA ad adF adW tt a _ ST hT hSX hSN (nI w) σ1 3 0 σ1 hon (Or.inr rfl)) G hP hD hS (List.Perm.refl _) (g_goodL q6_62 q6_63 q1_0 q6_64) (by decide +kernel) ⟨Nat.le_of_ble_eq_true rfl, Nat.le_of_ble_eq_true rfl, by show 1 + 10 * wN X + 12 * w + 2 ≤ 160; omega, by show 3 + 68 * wN X + 80 * w + 12 ≤ 1100; omega⟩ rfl hl.1 [] rfl (Nat.le_of_ble_eq_true rfl) dL_noises_48 (fun v b1 H locs hok hP hD hS => ?_)
        obtain ⟨hv, hb1⟩ := hok
        rw [hb1] at hP hD
        have hv : v = -1 := hv
        subst hv
        refine lv_if_lt (tgt := 69) hx hb dL_noises_51 (by decide) (fun _ => ?_) (fun c9 => absurd (by decide) c9)
        refine lv_iinc (v := nI (w + 1)) (lv' := [(2, .int (nI (w + 1))), (1, .ref z), (0, .ref (a 209))]) hx hb dL_noises_69 hl (k := 0) rfl (nI_1 w) (by decide) rfl (fun ls hl => ?_)
        refine lv_goto (tgt := 41) hx hb dL_noises_72 (by decide) ?_
        refine W.widen (k := 1 + 10 * wN X + 12 * (w + 1)) (n := 3 + 68 * wN X + 80 * (w + 1)) (by omega) (by omega) ?_
        exact ih (w + 1) z σ1 rws b H locs ls (by omega) hK (by rw [hm, whR_S, if_pos h0, List.append_nil]) hb0 hP hD hS hl
      · rw [if_neg h0] at hon
        obtain ⟨on1, on2⟩ := onE_ok hI hw3 h0
        obtain ⟨i, hi, hei⟩ := mem_getD on1
        have hb30 := hK.nb hC
        have hlt9 := hI.held hw3
        rw [show X.1 (13 + w) - 1 = (onE X w).1 by omega] at hon
        refine c_callLi (nA := 2) ([] : va_W) (wc cA ad a ((nlW cA e0 z rws b ++ rwW cA rws) ++ fr) σ1) (mL_on l hlt D cA ad adF adW tt a _ ST hT hSX hSN (nI w) σ1 0 _ σ1 hon (Or.inl rfl)) G hP hD hS (List.Perm.refl _) (g_goodL q6_62 q6_63 q1_0 q6_64) (by decide +kernel) ⟨Nat.le_of_ble_eq_true rfl, Nat.le_of_ble_eq_true rfl, by show 1 + 10 * wN X + 12 * w + 2 ≤ 160; omega, by show 3 + 68 * wN X + 80 * w + 12 ≤ 1100; omega⟩ rfl hl.1 [] rfl (Nat.le_of_ble_eq_true rfl) dL_noises_48 (fun v b1 H locs hok hP hD hS => ?_)
        obtain ⟨hv, hb1⟩ := hok
        rw [hb1] at hP hD
        have hv : v = nI (onE X w).1 := hv
        subst hv
        refine lv_if_lt (tgt := 69) hx hb dL_noises_51 (by decide) (fun c9 => absurd c9 (nI_pos (by omega))) (fun _ => ?_)
        refine lv_aload_n hx hb dL_noises_54 rfl (lv_at hl 1 rfl) ?_
        refine lv_aload_n hx hb dL_noises_55 rfl (lv_at hl 2 rfl) ?_
        refine lv_aload_n hx hb dL_noises_56 rfl (lv_at hl 2 rfl) ?_
        refine lv_iload_n hx hb dL_noises_57 rfl (lv_at hl 0 rfl) ?_
        refine c_callLi (nA := 2) ([] : va_W) (wc cA ad a ((nlW cA e0 z rws b ++ rwW cA rws) ++ fr) σ1) (mL_on l hlt D cA ad adF adW tt a _ ST hT hSX hSN (nI w) σ1 0 _ σ1 hon (Or.inl rfl)) G hP hD hS (List.Perm.refl _) (g_goodL q6_62 q6_63 q1_0 q6_64) (by decide +kernel) ⟨Nat.le_of_ble_eq_true rfl, Nat.le_of_ble_eq_true rfl, by show 1 + 10 * wN X + 12 * w + 2 + 2 ≤ 160; omega, by show 3 + 68 * wN X + 80 * w + 12 + 12 ≤ 1100; omega⟩ rfl hl.1 [.ref (a 209), .ref z] rfl (Nat.le_of_ble_eq_true rfl) dL_noises_58 (fun v b2 H locs hok hP hD hS => ?_)
        obtain ⟨hv, hb2⟩ := hok
        rw [hb2] at hP hD
        have hv : v = nI (onE X w).1 := hv
        subst hv
        refine lv_iload_n hx hb dL_noises_61 rfl (lv_at hl 0 rfl) ?_
        rw [← hei]
        refine c_callSr (nA := 3) ([] : va_W) (wc cA ad a ((nlW cA e0 z rws b ++ rwW cA rws) ++ fr) σ1) (mL_noise l hlt D cA ad adF adW tt a _ ST hT hSX hC hK i hi (nI w)) G hP hD hS (List.Perm.refl _) (g_goodSX q5_228 q5_229 q1_0 q5_230) (by decide +kernel) ⟨Nat.le_of_ble_eq_true rfl, Nat.le_of_ble_eq_true rfl, by show 1 + 10 * wN X + 12 * w + 2 + 2 + 7 ≤ 160; omega, by show 3 + 68 * wN X + 80 * w + 12 + 12 + 41 ≤ 1100; omega⟩ rfl hl.1 [.ref z] rfl (Nat.le_of_ble_eq_true rfl) dL_noises_62 (fun q H locs _ hP hD hS => ?_)
        rw [hei] at hP hD
        refine nl_add hT.1 hL hb0 (by omega) G hP hD hS ⟨Nat.le_of_ble_eq_true rfl, Nat.le_of_ble_eq_true rfl, by show 1 + 10 * wN X + 12 * w + 2 + 2 + 7 + 1 ≤ 160; omega, by show 3 + 68 * wN X + 80 * w + 12 + 12 + 41 + 15 ≤ 1100; omega⟩ hl.1 dL_noises_65 (fun b' H locs hb' hP hD hS => ?_)
        refine lv_pop hx hb dL_noises_68 rfl ?_
        refine lv_iinc (v := nI (w + 1)) (lv' := [(2, .int (nI (w + 1))), (1, .ref z), (0, .ref (a 209))]) hx hb dL_noises_69 hl (k := 0) rfl (nI_1 w) (by decide) rfl (fun ls hl => ?_)
        refine lv_goto (tgt := 41) hx hb dL_noises_72 (by decide) ?_
        refine W.widen (k := 1 + 10 * wN X + 12 * (w + 1)) (n := 3 + 68 * wN X + 80 * (w + 1)) (by omega) (by omega) ?_
        exact ih (w + 1) z σ1 (rws ++ [(q, rwE (onE X w) (nI w))]) b' H locs ls (by omega) hK (by rw [List.map_append, hm, whR_S, if_neg h0, List.append_assoc]; rfl) hb' hP hD hS hl
  -- the waiting noises
  have loop1 : ∀ (d k z : Nat) (σ1 : St) (rws : RWS) (b : LB) (H : Heap) (locs : List Loc) (ls : Array Slot), k + d = wN X → KG σ1 X Hs Sv B er fl C → rws.map (·.2) = wtR X k → NLok rws b → va_P D vwCl (wc cA ad a ((nlW cA e0 z rws b ++ rwW cA rws) ++ fr) σ1) H → va_D A (wc cA ad a ((nlW cA e0 z rws b ++ rwW cA rws) ++ fr) σ1) → va_S A s.heap H locs → lv_has ls 3 [(2, .int (nI k)), (1, .ref z), (0, .ref (a 209))] → W p l e (RMC 10 160 1100) s m args below meth c H locs (1 + 10 * k) (3 + 68 * k) (MQ below ((gGr D (TYS cA) (fun x : St × Nat × RWS × LB => KG x.1 X Hs Sv B er fl C ∧ x.2.2.1.map (·.2) = rowsA X ∧ NLok x.2.2.1 x.2.2.2) (fun x => x.2.1) (fun x => wc cA ad a ((nlW cA e0 x.2.1 x.2.2.1 x.2.2.2 ++ rwW cA x.2.2.1) ++ fr) x.1)) A) args s 160 1100 A) (F0 m 10 ls []) := by
    intro d
    induction d with
    | zero =>
      intro k z σ1 rws b H locs ls hk hK hm hb0 hP hD hS hl
      obtain rfl : k = wN X := by omega
      refine lv_iload_n hx hb dL_noises_10 rfl (lv_at hl 0 rfl) ?_
      refine lv_aload_n hx hb dL_noises_11 rfl (lv_at hl 2 rfl) ?_
      refine gl_callNi (nA := 0) (mX11_waitingCount l D cA ad adF adW tt a _ ST hT σ1 _ σ1 (q_wcount hK)) G hP hD hS (g_good q3_157 q3_158 q3_159 q1_1 q3_160) (by decide +kernel) ⟨Nat.le_of_ble_eq_true rfl, Nat.le_of_ble_eq_true rfl, by show 1 + 10 * wN X ≤ 160; omega, by show 3 + 68 * wN X ≤ 1100; omega⟩ (by decide) sc_209 rfl rfl hl.1 [.int (nI (wN X))] rfl (Nat.le_of_ble_eq_true rfl) dL_noises_12 (fun H locs hP hD hS => ?_)
      refine lv_icmp_ge (tgt := 39) hx hb dL_noises_15 (by decide) (fun _ => ?_) (fun c9 => absurd (nI_le (Nat.le_refl _) (by omega)) c9)
      refine lv_iconst (v := nI 0) hx hb dL_noises_39 rfl ?_
      refine lv_istore_n (lv' := [(2, .int (nI 0)), (1, .ref z), (0, .ref (a 209))]) hx hb dL_noises_40 rfl hl (by decide) rfl (fun ls hl => ?_)
      exact loop2 3 0 z σ1 rws b H locs ls rfl hK (by rw [hm]; exact (List.append_nil _).symm) hb0 hP hD hS hl
    | succ d ih =>
      intro k z σ1 rws b H locs ls hk hK hm hb0 hP hD hS hl
      have hlen : rws.length = k := by
        have := congrArg List.length hm
        rw [List.length_map] at this
        rw [this]
        unfold wtR
        rw [List.length_map, List.length_range]
      refine lv_iload_n hx hb dL_noises_10 rfl (lv_at hl 0 rfl) ?_
      refine lv_aload_n hx hb dL_noises_11 rfl (lv_at hl 2 rfl) ?_
      refine gl_callNi (nA := 0) (mX11_waitingCount l D cA ad adF adW tt a _ ST hT σ1 _ σ1 (q_wcount hK)) G hP hD hS (g_good q3_157 q3_158 q3_159 q1_1 q3_160) (by decide +kernel) ⟨Nat.le_of_ble_eq_true rfl, Nat.le_of_ble_eq_true rfl, by show 1 + 10 * k ≤ 160; omega, by show 3 + 68 * k ≤ 1100; omega⟩ (by decide) sc_209 rfl rfl hl.1 [.int (nI k)] rfl (Nat.le_of_ble_eq_true rfl) dL_noises_12 (fun H locs hP hD hS => ?_)
      refine lv_icmp_ge (tgt := 39) hx hb dL_noises_15 (by decide) (fun c9 => absurd c9 (nI_ge (by omega) (by omega))) (fun _ => ?_)
      refine lv_aload_n hx hb dL_noises_18 rfl (lv_at hl 1 rfl) ?_
      refine lv_aload_n hx hb dL_noises_19 rfl (lv_at hl 2 rfl) ?_
      refine lv_aload_n hx hb dL_noises_20 rfl (lv_at hl 2 rfl) ?_
      refine lv_iload_n hx hb dL_noises_21 rfl (lv_at hl 0 rfl) ?_
      obtain ⟨⟨at1, at2⟩, σ2, w1, w2⟩ := q_waitingAt (m := 2000) (Nat.le_refl _) hC hK (show k < wN X by omega)
      obtain ⟨i, hi, hei⟩ := mem_getD at1
      refine gl_callVi (nA := 1) (mX11_waitingAt l hlt D cA ad adF adW tt a _ ST hT hSX 2000 (nI k) σ1 0 _ σ2 w1) G hP hD hS (g_good q3_161 q3_162 q3_163 q1_1 q3_164) (by decide +kernel) ⟨Nat.le_of_ble_eq_true rfl, Nat.le_of_ble_eq_true rfl, by show 1 + 10 * k + 2 ≤ 160; omega, by show 3 + 68 * k + 6 * 2 ≤ 1100; omega⟩ (by decide) sc_209 rfl rfl hl.1 [.ref (a 209), .ref z] rfl (Nat.le_of_ble_eq_true rfl) dL_noises_22 (fun h0 => absurd rfl h0) (fun _ H locs hP hD hS => ?_)
      refine lv_iconst (v := -1) hx hb dL_noises_25 (by decide) ?_
      rw [← hei]
      refine c_callSr (nA := 3) ([] : va_W) (wc cA ad a ((nlW cA e0 z rws b ++ rwW cA rws) ++ fr) σ2) (mL_noise l hlt D cA ad adF adW tt a _ ST hT hSX hC w2 i hi (-1)) G hP hD hS (List.Perm.refl _) (g_goodSX q5_228 q5_229 q1_0 q5_230) (by decide +kernel) ⟨Nat.le_of_ble_eq_true rfl, Nat.le_of_ble_eq_true rfl, by show 1 + 10 * k + 2 + 7 ≤ 160; omega, by show 3 + 68 * k + 6 * 2 + 41 ≤ 1100; omega⟩ rfl hl.1 [.ref z] rfl (Nat.le_of_ble_eq_true rfl) dL_noises_26 (fun q H locs _ hP hD hS => ?_)
      rw [hei] at hP hD
      refine nl_add hT.1 hL hb0 (by omega) G hP hD hS ⟨Nat.le_of_ble_eq_true rfl, Nat.le_of_ble_eq_true rfl, by show 1 + 10 * k + 2 + 7 + 1 ≤ 160; omega, by show 3 + 68 * k + 6 * 2 + 41 + 15 ≤ 1100; omega⟩ hl.1 dL_noises_29 (fun b' H locs hb' hP hD hS => ?_)
      refine lv_pop hx hb dL_noises_32 rfl ?_
      refine lv_iinc (v := nI (k + 1)) (lv' := [(2, .int (nI (k + 1))), (1, .ref z), (0, .ref (a 209))]) hx hb dL_noises_33 hl (k := 0) rfl (nI_1 k) (by decide) rfl (fun ls hl => ?_)
      refine lv_goto (tgt := 10) hx hb dL_noises_36 (by decide) ?_
      refine W.widen (k := 1 + 10 * (k + 1)) (n := 3 + 68 * (k + 1)) (by omega) (by omega) ?_
      exact ih (k + 1) z σ2 (rws ++ [(q, rwE (atR X k) (-1))]) b' H locs ls (by omega) w2 (by rw [List.map_append, hm, wtR_S]; rfl) hb' hP hD hS hl
  have hP : va_P D vwCl (([] : va_W) ++ wc cA ad a fr σ) s.heap := hP
  have hD : va_D A (([] : va_W) ++ wc cA ad a fr σ) := hD
  refine c_new (F := ([] : va_W)) (B := wc cA ad a fr σ) (ci := 4) (fs := [.int 0, .null, .int 0]) G hP hD hS i_Jx4a65c tyJx4a65c tyJx4a65c_ok q5_199 q5_200 q1_31 rfl dflt_Jx4a65c (Nat.le_of_ble_eq_true rfl) (Nat.le_of_ble_eq_true rfl) dL_noises_0 (fun z H hP hD hS => ?_)
  refine lv_dup hx hb dL_noises_3 rfl ?_
  refine c_callI (F := ([] : va_W)) (B := wc cA ad a fr σ) (mAL_init l D cA ST hT.1 e0 mi hL z) G hP hD hS q5_201 q5_202 q1_31 q5_203 rfl (by decide +kernel) ⟨Nat.le_of_ble_eq_true rfl, Nat.le_of_ble_eq_true rfl, Nat.le_of_ble_eq_true rfl, Nat.le_of_ble_eq_true rfl⟩ hl.1 (Nat.le_of_ble_eq_true rfl) dL_noises_4 (fun _ H locs _ hP hD hS => ?_)
  refine lv_astore_n (lv' := [(1, .ref z), (0, .ref (a 209))]) hx hb dL_noises_7 rfl hl (by decide) rfl (fun ls hl => ?_)
  refine lv_iconst (v := nI 0) hx hb dL_noises_8 rfl ?_
  refine lv_istore_n (lv' := [(2, .int (nI 0)), (1, .ref z), (0, .ref (a 209))]) hx hb dL_noises_9 rfl hl (by decide) rfl (fun ls hl => ?_)
  have hP : va_P D vwCl (wc cA ad a fr σ ++ (nlW cA e0 z [] (0, 0, 0, fun _ => none) ++ rwW cA [])) H := hP
  have hD : va_D A (wc cA ad a fr σ ++ (nlW cA e0 z [] (0, 0, 0, fun _ => none) ++ rwW cA [])) := hD
  have hP := (hP.perm List.perm_append_comm).perm gwd_pre
  have hD := (hD.perm List.perm_append_comm).perm gwd_pre
  exact loop1 (wN X) 0 z σ [] (0, 0, 0, fun _ => none) H locs ls (Nat.zero_add _) h rfl (Or.inl rfl) hP hD hS hl
