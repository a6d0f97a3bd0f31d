-- ===== p61: fails, noise =====
theorem dL_noise_0 : decode cL_noise 0 = .ok (.iconst 5, 1) := by decide +kernel
theorem dL_noise_1 : decode cL_noise 1 = .ok (.newarray .int, 2) := by decide +kernel
theorem dL_noise_3 : decode cL_noise 3 = .ok (.dup, 1) := by decide +kernel
theorem dL_noise_4 : decode cL_noise 4 = .ok (.iconst 0, 1) := by decide +kernel
theorem dL_noise_5 : decode cL_noise 5 = .ok (.iload_n 1, 1) := by decide +kernel
theorem dL_noise_6 : decode cL_noise 6 = .ok (.iastore, 1) := by decide +kernel
theorem dL_noise_7 : decode cL_noise 7 = .ok (.dup, 1) := by decide +kernel
theorem dL_noise_8 : decode cL_noise 8 = .ok (.iconst 1, 1) := by decide +kernel
theorem dL_noise_9 : decode cL_noise 9 = .ok (.aload_n 0, 1) := by decide +kernel
theorem dL_noise_10 : decode cL_noise 10 = .ok (.iload_n 1, 1) := by decide +kernel
theorem dL_noise_11 : decode cL_noise 11 = .ok (.invokevirtual 95, 3) := by decide +kernel
theorem dL_noise_14 : decode cL_noise 14 = .ok (.iastore, 1) := by decide +kernel
theorem dL_noise_15 : decode cL_noise 15 = .ok (.dup, 1) := by decide +kernel
theorem dL_noise_16 : decode cL_noise 16 = .ok (.iconst 2, 1) := by decide +kernel
theorem dL_noise_17 : decode cL_noise 17 = .ok (.aload_n 0, 1) := by decide +kernel
theorem dL_noise_18 : decode cL_noise 18 = .ok (.iload_n 1, 1) := by decide +kernel
theorem dL_noise_19 : decode cL_noise 19 = .ok (.invokevirtual 98, 3) := by decide +kernel
theorem dL_noise_22 : decode cL_noise 22 = .ok (.iastore, 1) := by decide +kernel
theorem dL_noise_23 : decode cL_noise 23 = .ok (.dup, 1) := by decide +kernel
theorem dL_noise_24 : decode cL_noise 24 = .ok (.iconst 3, 1) := by decide +kernel
theorem dL_noise_25 : decode cL_noise 25 = .ok (.aload_n 0, 1) := by decide +kernel
theorem dL_noise_26 : decode cL_noise 26 = .ok (.iload_n 1, 1) := by decide +kernel
theorem dL_noise_27 : decode cL_noise 27 = .ok (.invokevirtual 101, 3) := by decide +kernel
theorem dL_noise_30 : decode cL_noise 30 = .ok (.iastore, 1) := by decide +kernel
theorem dL_noise_31 : decode cL_noise 31 = .ok (.dup, 1) := by decide +kernel
theorem dL_noise_32 : decode cL_noise 32 = .ok (.iconst 4, 1) := by decide +kernel
theorem dL_noise_33 : decode cL_noise 33 = .ok (.iload_n 2, 1) := by decide +kernel
theorem dL_noise_34 : decode cL_noise 34 = .ok (.iastore, 1) := by decide +kernel
theorem dL_noise_35 : decode cL_noise 35 = .ok (.areturn, 1) := by decide +kernel
theorem gwd_fr {N : Nat} {sh : Nat → Sh} {cA : Nat → ClassId} {ad a : Nat → Nat} {x : Nat × va_E} {fr : va_W} {σ : St} : (gwd N sh cA ad a (x :: fr) σ)[N]? = some x := by
  unfold gwd
  rw [List.getElem?_append_right (by simp)]
  simp
theorem gwd_frs {N : Nat} {sh : Nat → Sh} {cA : Nat → ClassId} {ad a : Nat → Nat} {x y : Nat × va_E} {fr : va_W} {σ : St} : (gwd N sh cA ad a (x :: fr) σ).set N y = gwd N sh cA ad a (y :: fr) σ := by
  unfold gwd
  rw [List.set_append_right _ _ (by simp)]
  simp
theorem gwd_in {N : Nat} {sh : Nat → Sh} {cA : Nat → ClassId} {ad a : Nat → Nat} {x : Nat × va_E} {fr : va_W} {σ : St} : List.Perm (x :: gwd N sh cA ad a fr σ) (gwd N sh cA ad a (x :: fr) σ) := List.perm_middle.symm
theorem gwd_app {N : Nat} {sh : Nat → Sh} {cA : Nat → ClassId} {ad a : Nat → Nat} {f1 f2 : va_W} {σ : St} : gwd N sh cA ad a (f1 ++ f2) σ = gwd N sh cA ad a f1 σ ++ f2 := (List.append_assoc _ _ _).symm
theorem gwd_frp {N : Nat} {sh : Nat → Sh} {cA : Nat → ClassId} {ad a : Nat → Nat} {f1 f2 : va_W} {σ : St} (h : f1.Perm f2) : List.Perm (gwd N sh cA ad a f1 σ) (gwd N sh cA ad a f2 σ) := List.Perm.append_left _ h
theorem gwd_pre {N : Nat} {sh : Nat → Sh} {cA : Nat → ClassId} {ad a : Nat → Nat} {f1 f2 : va_W} {σ : St} : List.Perm (f1 ++ gwd N sh cA ad a f2 σ) (gwd N sh cA ad a (f1 ++ f2) σ) := by
  unfold gwd
  rw [← List.append_assoc, ← List.append_assoc]
  exact List.perm_append_comm.append_right _
section N63
variable {p : Program} {l : Launch} {e : Env} {R : Room} {s : State} {m : MethodId} {args : Array Value} {below : List Frame} {meth : Method} {c : Code} {H : Heap} {locs : List Loc} {cells slots : Nat} {Q : State → Prop}
variable {cc : ByteArray} {maxL : Nat} {ret : Option FieldType} {pc : Nat} {ls : Array Slot} {rest : List Value} {D : va_G} {A : Nat → Prop} {cA : Nat → ClassId} {ad a : Nat → Nat} {fr : va_W} {σ : St} {ST : gST} {own : String} {N : Nat} {sh : Nat → Sh}
/-- a number put into the row at the head of the frame -/
theorem fr_iast {q n : Nat} {f : Nat → Int32} {i x : Int32} (k : Nat) (hk : i.toNatClampNeg = k) (hi : vp_in i n) (G : GC p s m args meth c cc maxL own ret A D (TYS cA) ST) (hP : va_P D vwCl (gwd N sh cA ad a ((q, .inl (cA 0, n, .inl f)) :: fr) σ) H) (hD : va_D A (gwd N sh cA ad a ((q, .inl (cA 0, n, .inl f)) :: fr) σ)) (hS : va_S A s.heap H locs) (hdg : decode cc pc = .ok (.iastore, 1))
    (kk : ∀ (H1 : Heap) (locs1 : List Loc), va_P D vwCl (gwd N sh cA ad a ((q, .inl (cA 0, n, .inl (upd f k x))) :: fr) σ) H1 → va_D A (gwd N sh cA ad a ((q, .inl (cA 0, n, .inl (upd f k x))) :: fr) σ) → va_S A s.heap H1 locs1 → W p l e R s m args below meth c H1 locs1 cells slots Q (F0 m (pc + 1) ls rest)) : W p l e R s m args below meth c H locs cells slots Q (F0 m pc ls (.int x :: .int i :: .ref q :: rest)) := by
  subst hk
  refine va_iast G.1 G.2.1 G.2.2.2.2.2.2.2.2.1 hP hD hS N 0 gwd_fr rfl hi hdg (fun H1 locs1 hP1 hD1 hS1 => ?_)
  rw [gwd_frs] at hP1 hD1
  exact kk H1 locs1 hP1 hD1 hS1
end N63
/-- a noise's row of numbers -/
def rwF (n b l2 am w : Int32) : Nat → Int32 := upd (upd (upd (upd (upd (fun _ => 0) 0 n) 1 b) 2 l2) 3 am) 4 w
theorem f_ok : ([(3, 1), (4, 2), (5, 9), (6, 5), (7, 6), (8, 7), (9, 0), (10, 9), (11, 1), (12, 7), (13, 0)] : List (Nat × Nat)).all (fun x => !(prS (vT.getD x.1 []) 12 0).1 && decide ((prS (vT.getD x.1 []) 12 0).2.1 = x.2)) = true := by decide +kernel
theorem a_ok : (List.range 16).all (fun k => (prS (vT.getD k []) 12 0).2.2.all (fun q => decide (aN q.2 0 < 1000) && (decide (aN q.2 1 < 1000) && decide (aN q.2 2 < 1000)))) = true := by decide +kernel
theorem a_bd {k : Nat} (hk : k < 16) : ∀ q ∈ (prS (vT.getD k []) 12 0).2.2, ∀ a, a < 3 → aN q.2 a < 2 ^ 31 := fun q hq a ha => by
  have h9 := List.all_eq_true.mp (List.all_eq_true.mp a_ok k (List.mem_range.mpr hk)) q hq
  rw [Bool.and_eq_true, Bool.and_eq_true, decide_eq_true_eq, decide_eq_true_eq, decide_eq_true_eq] at h9
  rcases (show a = 0 ∨ a = 1 ∨ a = 2 by omega) with rfl | rfl | rfl <;> omega
theorem t_len {k : Nat} (hk : k < 16) : (vT.getD k []).length ≤ 50 := by
  have : (List.range 16).all (fun k => decide ((vT.getD k []).length ≤ 50)) = true := by decide
  exact of_decide_eq_true (List.all_eq_true.mp this k (List.mem_range.mpr hk))
set_option maxHeartbeats 4000000 in
set_option maxRecDepth 100000 in
theorem mL_fails (l : Launch) (hlt : l.stackTraces = false) (D : va_G) (cA : Nat → ClassId) (ad adF adW tt a : Nat → Nat) (fr : va_W) (ST : gST) (hT : STE ad adF adW tt ST) (hSX : STX ST) (hSN : STN ST) (hW : STW adW tt ST) (adV tv : Nat → Nat) (hV : STV adV tv ST) (k pos : Nat) (hk : k < 16) (hpos : pos < 100) (hbad : (prS (vT.getD k []) 12 0).1 = false) (hpe : (prS (vT.getD k []) 12 0).2.1 = pos) {σ : St} {X : AM} {Hs : List AM} {Sv : Option AM} {er fl : Option Nat} {C : Nat} (hC : C < 512) (h : KG σ X Hs Sv [] er fl C) : gMetG l yL_fails cL_fails 3 (some .boolean) 10 104 624 D (TYS cA) ST (wc cA ad a fr σ) [.ref (a 209), .ref (adV k), .int (nI pos)] (gGi D (TYS cA) (fun r s1 => r = 1 ∧ KG s1 X Hs Sv [] (some pos) fl C) (wc cA ad a fr)) := by
  refine g_ofWG hT.1 (by decide +kernel) (Nat.le_of_ble_eq_true rfl) ?_
  intro p e s m args below meth c ls A G hP hD hl
  have G : GC p s m args meth c cL_fails 3 RL (some .boolean) A D (TYS cA) ST := G
  have hx := G.1
  have hb := G.2.1
  have hS : va_S A s.heap s.heap [] := va_S.rf
  have hl : lv_has ls 3 [(0, .ref (a 209)), (1, .ref (adV k)), (2, .int (nI pos))] := hl
  have hlen := t_len hk
  refine lv_aload_n hx hb dL_fails_0 rfl (lv_at hl 0 rfl) ?_
  refine lv_aload_n hx hb dL_fails_1 rfl (lv_at hl 1 rfl) ?_
  refine c_callSv (nA := 2) ([] : va_W) (wc cA ad a fr σ) (mL_put l hlt D cA ad adF adW tt a fr ST hT hSX hW adV tv hV k hk h (by show 0 + _ ≤ 60; omega)) G hP hD hS (List.Perm.refl _) (g_goodSX q5_118 q5_119 q1_0 q5_120) (by decide +kernel) ⟨Nat.le_of_ble_eq_true rfl, Nat.le_of_ble_eq_true rfl, by show 0 + 2 * _ ≤ 104; omega, by show 0 + 12 * _ ≤ 624; omega⟩ rfl hl.1 [] rfl (Nat.le_of_ble_eq_true rfl) dL_fails_2 (fun σ1 H locs hok hP hD hS => ?_)
  have hP : va_P D vwCl (wc cA ad a fr σ1) H := hP
  have hD : va_D A (wc cA ad a fr σ1) := hD
  have hok : KG σ1 X Hs Sv (vT.getD k []) er fl C := hok
  obtain ⟨σ2, r1, r2⟩ := (k_run (m := 2000) (Nat.le_refl _) hC hok (a_bd hk)).1 hbad
  rw [hpe] at r2
  refine lv_aload_n hx hb dL_fails_5 rfl (lv_at hl 0 rfl) ?_
  refine c_callLi (nA := 1) ([] : va_W) (wc cA ad a fr σ1) (mL_runs l hlt D cA ad adF adW tt a fr ST hT hSX hSN hW 2000 σ1 1 0 σ2 r1 (Or.inr (Or.inl rfl))) G hP hD hS (List.Perm.refl _) (g_goodL q6_136 q6_137 q1_0 q6_138) (by decide +kernel) ⟨Nat.le_of_ble_eq_true rfl, Nat.le_of_ble_eq_true rfl, by show 0 + 2 * _ + 2 ≤ 104; omega, by show 0 + 12 * _ + 12 ≤ 624; omega⟩ rfl hl.1 [] rfl (Nat.le_of_ble_eq_true rfl) dL_fails_6 (fun v b1 H locs hok2 hP hD hS => ?_)
  obtain ⟨hv, hb1⟩ := hok2
  subst hb1
  have hv : v = -1 := hv
  subst hv
  have hP : va_P D vwCl (wc cA ad a fr b1) H := hP
  have hD : va_D A (wc cA ad a fr b1) := hD
  refine lv_iconst (v := -1) hx hb dL_fails_9 (by decide) ?_
  refine lv_icmp_ne (tgt := 25) hx hb dL_fails_10 (by decide) (fun c9 => absurd rfl c9) (fun _ => ?_)
  refine lv_aload_n hx hb dL_fails_13 rfl (lv_at hl 0 rfl) ?_
  refine gl_callVi (nA := 0) (mX11_errorPosition l hlt D cA ad adF adW tt a fr ST hT hSX b1 0 _ b1 (q_errpos r2 (by omega))) G hP hD hS (g_good q6_142 q6_143 q6_144 q1_1 q6_145) (by decide +kernel) ⟨Nat.le_of_ble_eq_true rfl, Nat.le_of_ble_eq_true rfl, by show 0 + 2 * _ + 2 + 2 ≤ 104; omega, by show 0 + 12 * _ + 12 + 6 * 2 ≤ 624; omega⟩ (by decide) sc_209 rfl rfl hl.1 [] rfl (Nat.le_of_ble_eq_true rfl) dL_fails_14 (fun h0 => absurd rfl h0) (fun _ H locs hP hD hS => ?_)
  refine lv_iload_n hx hb dL_fails_17 rfl (lv_at hl 2 rfl) ?_
  refine lv_icmp_ne (tgt := 25) hx hb dL_fails_18 (by decide) (fun c9 => absurd rfl c9) (fun _ => ?_)
  refine lv_iconst (v := 1) hx hb dL_fails_21 (by decide) ?_
  refine lv_goto (tgt := 26) hx hb dL_fails_22 (by decide) ?_
  exact c_reti b1 ⟨rfl, r2⟩ rfl G hP hD hS ⟨by omega, by omega⟩ dL_fails_26
set_option maxHeartbeats 4000000 in
set_option maxRecDepth 100000 in
theorem mL_noise (l : Launch) (hlt : l.stackTraces = false) (D : va_G) (cA : Nat → ClassId) (ad adF adW tt a : Nat → Nat) (fr : va_W) (ST : gST) (hT : STE ad adF adW tt ST) (hSX : STX ST) {σ : St} {X : AM} {Hs : List AM} {Sv : Option AM} {B : List Nat} {er fl : Option Nat} {C : Nat} (hC : C < 512) (h : KG σ X Hs Sv B er fl C) (i : Nat) (hi : i < X.2.length) (w : Int32) : gMetG l yL_noise cL_noise 3 (some (.array .int)) 8 7 41 D (TYS cA) ST (wc cA ad a fr σ) [.ref (a 209), .int (nI (X.2.getD i z4).1), .int w] (gGr D (TYS cA) (fun _ : Nat => True) (fun q => q) (fun q => wc cA ad a ((q, .inl (cA 0, 5, .inl (rwF (nI (X.2.getD i z4).1) (nI (X.2.getD i z4).2.1) (nI (X.2.getD i z4).2.2.1) (nI (X.2.getD i z4).2.2.2) w))) :: fr) σ)) := by
  refine g_ofWG hT.1 (by decide +kernel) (Nat.le_of_ble_eq_true rfl) ?_
  intro p e s m args below meth c ls A G hP hD hl
  have G : GC p s m args meth c cL_noise 3 RL (some (.array .int)) A D (TYS cA) ST := G
  have hx := G.1
  have hb := G.2.1
  have hS : va_S A s.heap s.heap [] := va_S.rf
  have hl : lv_has ls 3 [(0, .ref (a 209)), (1, .int (nI (X.2.getD i z4).1)), (2, .int w)] := hl
  have hP : va_P D vwCl (([] : va_W) ++ wc cA ad a fr σ) s.heap := hP
  have hD : va_D A (([] : va_W) ++ wc cA ad a fr σ) := hD
  refine lv_iconst (v := 5) hx hb dL_noise_0 (by decide) ?_
  refine c_newa (atype := .int) (ty := .int) (F := ([] : va_W)) (B := wc cA ad a fr σ) 0 rfl (fun _ h => by cases h) G hP hD hS q1_91 rfl (5, .inl (fun _ => 0)) (fun _ => rfl) (by decide) rfl (by decide) (Nat.le_of_ble_eq_true rfl) (Nat.le_of_ble_eq_true rfl) dL_noise_1 (fun q H hP hD hS => ?_)
  have hP : va_P D vwCl (wc cA ad a ((q, .inl (cA 0, 5, .inl (fun _ => 0))) :: fr) σ) H := (show va_P D vwCl ((q, .inl (cA 0, 5, .inl (fun _ => 0))) :: wc cA ad a fr σ) H from hP).perm gwd_in
  have hD : va_D A (wc cA ad a ((q, .inl (cA 0, 5, .inl (fun _ => 0))) :: fr) σ) := (show va_D A ((q, .inl (cA 0, 5, .inl (fun _ => 0))) :: wc cA ad a fr σ) from hD).perm gwd_in
  refine lv_dup hx hb dL_noise_3 rfl ?_
  refine lv_iconst (v := 0) hx hb dL_noise_4 (by decide) ?_
  refine lv_iload_n hx hb dL_noise_5 rfl (lv_at hl 1 rfl) ?_
  refine fr_iast 0 (by decide) (by unfold vp_in; decide) G hP hD hS dL_noise_6 (fun H locs hP hD hS => ?_)
  refine lv_dup hx hb dL_noise_7 rfl ?_
  refine lv_iconst (v := 1) hx hb dL_noise_8 (by decide) ?_
  refine lv_aload_n hx hb dL_noise_9 rfl (lv_at hl 0 rfl) ?_
  refine lv_iload_n hx hb dL_noise_10 rfl (lv_at hl 1 rfl) ?_
  refine gl_callVi (nA := 1) (mX11_band l hlt D cA ad adF adW tt a _ ST hT hSX 2000 _ σ 0 _ σ (q_band (Nat.le_refl _) hC h hi)) G hP hD hS (g_good q5_231 q5_232 q5_233 q1_1 q5_234) (by decide +kernel) ⟨Nat.le_of_ble_eq_true rfl, Nat.le_of_ble_eq_true rfl, Nat.le_of_ble_eq_true rfl, Nat.le_of_ble_eq_true rfl⟩ (by decide) sc_209 rfl rfl hl.1 [.int 1, .ref q, .ref q] rfl (Nat.le_of_ble_eq_true rfl) dL_noise_11 (fun h0 => absurd rfl h0) (fun _ H locs hP hD hS => ?_)
  refine fr_iast 1 (by decide) (by unfold vp_in; decide) G hP hD hS dL_noise_14 (fun H locs hP hD hS => ?_)
  refine lv_dup hx hb dL_noise_15 rfl ?_
  refine lv_iconst (v := 2) hx hb dL_noise_16 (by decide) ?_
  refine lv_aload_n hx hb dL_noise_17 rfl (lv_at hl 0 rfl) ?_
  refine lv_iload_n hx hb dL_noise_18 rfl (lv_at hl 1 rfl) ?_
  refine gl_callVi (nA := 1) (mX11_loudness l hlt D cA ad adF adW tt a _ ST hT hSX 2000 _ σ 0 _ σ (q_loudness (Nat.le_refl _) hC h hi)) G hP hD hS (g_good q5_235 q5_236 q5_237 q1_1 q5_238) (by decide +kernel) ⟨Nat.le_of_ble_eq_true rfl, Nat.le_of_ble_eq_true rfl, Nat.le_of_ble_eq_true rfl, Nat.le_of_ble_eq_true rfl⟩ (by decide) sc_209 rfl rfl hl.1 [.int 2, .ref q, .ref q] rfl (Nat.le_of_ble_eq_true rfl) dL_noise_19 (fun h0 => absurd rfl h0) (fun _ H locs hP hD hS => ?_)
  refine fr_iast 2 (by decide) (by unfold vp_in; decide) G hP hD hS dL_noise_22 (fun H locs hP hD hS => ?_)
  refine lv_dup hx hb dL_noise_23 rfl ?_
  refine lv_iconst (v := 3) hx hb dL_noise_24 (by decide) ?_
  refine lv_aload_n hx hb dL_noise_25 rfl (lv_at hl 0 rfl) ?_
  refine lv_iload_n hx hb dL_noise_26 rfl (lv_at hl 1 rfl) ?_
  refine gl_callVi (nA := 1) (mX11_amount l hlt D cA ad adF adW tt a _ ST hT hSX 2000 _ σ 0 _ σ (q_amount (Nat.le_refl _) hC h hi)) G hP hD hS (g_good q3_204 q3_205 q3_206 q1_1 q3_207) (by decide +kernel) ⟨Nat.le_of_ble_eq_true rfl, Nat.le_of_ble_eq_true rfl, Nat.le_of_ble_eq_true rfl, Nat.le_of_ble_eq_true rfl⟩ (by decide) sc_209 rfl rfl hl.1 [.int 3, .ref q, .ref q] rfl (Nat.le_of_ble_eq_true rfl) dL_noise_27 (fun h0 => absurd rfl h0) (fun _ H locs hP hD hS => ?_)
  refine fr_iast 3 (by decide) (by unfold vp_in; decide) G hP hD hS dL_noise_30 (fun H locs hP hD hS => ?_)
  refine lv_dup hx hb dL_noise_31 rfl ?_
  refine lv_iconst (v := 4) hx hb dL_noise_32 (by decide) ?_
  refine lv_iload_n hx hb dL_noise_33 rfl (lv_at hl 2 rfl) ?_
  refine fr_iast 4 (by decide) (by unfold vp_in; decide) G hP hD hS dL_noise_34 (fun H locs hP hD hS => ?_)
  exact c_reta q trivial rfl (Or.inr ⟨_, rfl⟩) G hP hD hS (by decide) dL_noise_35
