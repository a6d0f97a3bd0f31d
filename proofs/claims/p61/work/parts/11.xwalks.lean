section O11
variable {p : Program} {l : Launch} {e : Env} {R : Room} {s : State} {m : MethodId} {args : Array Value} {below : List Frame} {meth : Method} {c : Code} {H : Heap} {locs : List Loc} {cells slots : Nat} {Q : State → Prop}
variable {cc : ByteArray} {maxL : Nat} {ret : Option FieldType} {pc : Nat} {ls : Array Slot} {rest : List Value} {D : va_G} {A : Nat → Prop} {cA : Nat → ClassId} {ad a : Nat → Nat} {fr : va_W} {σ : St}
variable {adF adW tt : Nat → Nat} {ST : gST} {own : String} {N : Nat} {sh : Nat → Sh} {tys : List (ClassId × FieldType)}
theorem gg_ord {E d0 : String} {nm : List String} {F : List (String × String × String × List Int32)} {adE : Nat → Nat} {L : List Int32} {index : Nat} (hE : ∀ A U, ST A U → va_En E d0 nm F adE A U U.heap) (hq : ("java/lang/Enum", "ordinal", "I", L) ∈ F) (i : Nat) (hi : i < nm.length) (G : GC p s m args meth c cc maxL own ret A D tys ST) (hP : va_P D vwCl (gwd N sh cA ad a fr σ) H) (hD : va_D A (gwd N sh cA ad a fr σ)) (hS : va_S A s.heap H locs)
    (hg : GoodIn BIG (va_wsU own index E RJx29ce0 ⟨E, "ordinal", "()I"⟩ yJx29ce0_ordinal_8abf5 (.code yJx29ce0_ordinal_8abf5 cJx29ce0_ordinal_8abf5 1 (some .int) :: BIG))) (hd1 : 1 ≤ R.frames ∧ 60 ≤ R.locals ∧ cells ≤ R.cells ∧ slots ≤ R.slots) (hls : ls.size = maxL) (hcat : (rest.map fun v => v.category).sum ≤ 8) (hdg : decode cc pc = .ok (.invokevirtual index, 3))
    (kk : ∀ (H1 : Heap) (locs1 : List Loc), va_P D vwCl (gwd N sh cA ad a fr σ) H1 → va_D A (gwd N sh cA ad a fr σ) → va_S A s.heap H1 locs1 → W p l e R s m args below meth c H1 locs1 cells slots Q (F0 m (pc + 3) ls (.int (L.getD i 0) :: rest))) : W p l e R s m args below meth c H locs cells slots Q (F0 m pc ls (.ref (adE i) :: rest)) := by
  obtain ⟨hx, hb, hml, hown, hts, -, hlocks, hA, hK, hN, hX, hT⟩ := G
  have hF := g_free hD hS hA
  refine va_calli (va_runU (As := []) (rest := rest) (C := E) (owner := RJx29ce0) (x := ⟨E, "ordinal", "()I"⟩) (y := yJx29ce0_ordinal_8abf5) ⟨hx, hb, hml, hown, hts⟩ (m_ord (l := l) (D := D) (tys := tys) (cA := cA) (ad := ad) (a := a) (fr := fr) (σ := σ) (N := N) (sh := sh) hT hE hq hi H.size) (va_cwU 0 hts hg rfl rfl rfl rfl ⟨by decide +kernel, by decide +kernel, by show (parseMethodDescriptor "()I").map (fun d => d.parameters.length) = some 0; decide +kernel⟩ ⟨by show 0 + 1 ≤ R.frames; omega, by show 8 + (1 + 11) + 40 * 0 ≤ R.locals; omega⟩) ⟨gPre_blind hT, va_recvE (hE _ _ hX) hi hS, fun U hU hW => ⟨rfl, by rw [hU], by rw [hU]; exact hP, va_K.moved hW.alike hK, hD.weaken (fun _ _ _ _ => trivial), hN.warm hW, hT.2 _ _ _ _ _ _ hX hS hU hW hF⟩⟩ rfl rfl hls rfl (lv_room hcat) hdg ⟨by show cells + 0 ≤ R.cells; omega, by show slots + 0 ≤ R.slots; omega⟩) hS (fun q _ h => hF q h) hF (fun r9 u9 t H1 locs1 ht hvm hw hB hz1 hk1 hS1 => ?_)
  obtain ⟨rfl, rfl⟩ := hw
  obtain ⟨hP1, hK1, hD1⟩ := hB
  rw [ht] at hP1
  exact kk H1 locs1 hP1 (hD1.weaken (fun _ q _ h => hF q.1 h)) hS1
end O11
noncomputable def fX11_refuse (p1 : Int32) (s0 : St) : Option ((Nat × Int32) × St) :=
  BND p1 6 <|
  BND (([0, 1, 2, 3, 4, 5] : List Int32).getD p1.toNatClampNeg 0) 6 <|
  if (swF.getD (([0, 1, 2, 3, 4, 5] : List Int32).getD p1.toNatClampNeg 0).toNatClampNeg 0) = 1 then
    some ((1, 0), s0)
  else
  if (swF.getD (([0, 1, 2, 3, 4, 5] : List Int32).getD p1.toNatClampNeg 0).toNatClampNeg 0) = 2 then
    some ((2, 0), s0)
  else
  if (swF.getD (([0, 1, 2, 3, 4, 5] : List Int32).getD p1.toNatClampNeg 0).toNatClampNeg 0) = 3 then
    some ((3, 0), s0)
  else
  if (swF.getD (([0, 1, 2, 3, 4, 5] : List Int32).getD p1.toNatClampNeg 0).toNatClampNeg 0) = 4 then
    some ((4, 0), s0)
  else
  if (swF.getD (([0, 1, 2, 3, 4, 5] : List Int32).getD p1.toNatClampNeg 0).toNatClampNeg 0) = 5 then
    some ((5, 0), s0)
  else
  some ((0, 0), s0)
set_option maxHeartbeats 4000000 in
set_option maxRecDepth 100000 in
theorem mX11_refuse (l : Launch) (hlt : l.stackTraces = false) (D : va_G) (cA : Nat → ClassId) (ad adF adW tt a : Nat → Nat) (fr : va_W) (ST : gST) (hT : STE ad adF adW tt ST) (hSX : STX ST) (p1 : Int32) (s0 : St) (cR : Nat) (r : Int32) (s' : St) (h : fX11_refuse p1 s0 = some ((cR, r), s')) : gMetX l yX11_refuse cX11_refuse 1 none 1 6 D (TYS cA) ST (wc cA ad a fr s0) [.ref (adF p1.toNatClampNeg)] (fun A => gQxv D (TYS cA) A (wc cA ad a fr) cR s') (fun A => gXC D (TYS cA) A (wc cA ad a fr) cR s') := by
  refine g_ofWX hT.1 (by decide +kernel) (Nat.le_of_ble_eq_true rfl) ?_
  intro p e s m args below meth c ls A G hnt hP hD hl
  have G : GC p s m args meth c cX11_refuse 1 RX11 none A D (TYS cA) ST := G
  have hx := G.1
  have hb := G.2.1
  have hS : va_S A s.heap s.heap [] := va_S.rf
  have hl : lv_has ls 1 [(0, .ref (adF p1.toNatClampNeg))] := hl
  unfold fX11_refuse at h
  refine va_gets hx hb (hT.2 _ _ G.2.2.2.2.2.2.2.2.2.2.1).2.2.2.2.1.1 hS G.2.2.2.1 (G.2.2.2.2.1 _ q2_103) (fun _ h9 => h9) dX11_refuse_0 ?_
  refine lv_aload_n hx hb dX11_refuse_3 rfl (lv_at hl 0 rfl) ?_
  obtain ⟨b1, h⟩ := bnd_e h
  refine gg_ord (L := [0, 1, 2, 3, 4, 5]) (fun A U q => (hT.2 A U q).1) (by decide) _ (vp_lt b1) G hP hD hS (g_goodU q2_105 q2_106 q2_108 q2_109 q1_10 q2_110) (by decide) hl.1 (Nat.le_of_ble_eq_true rfl) dX11_refuse_4 (fun H locs hP hD hS => ?_)
  obtain ⟨b2, h⟩ := bnd_e h
  refine va_ti hx hb (hT.2 _ _ G.2.2.2.2.2.2.2.2.2.2.1).2.2.2.2.1.2 hS b2 rfl dX11_refuse_7 ?_
  have htab := dX11_refuse_8
  by_cases c3 : (swF.getD (([0, 1, 2, 3, 4, 5] : List Int32).getD p1.toNatClampNeg 0).toNatClampNeg 0) = 1
  · replace h := it_t c3 h
    refine g_tabk (off := 36) (tgt := 44) hx hb 1 c3 htab (by decide +kernel) (by decide +kernel) (by decide) ?_
    exact gx_throwW (cE := 1) (E := "java/lang/IllegalArgumentException") (XW := xw1) hlt hSX rfl (by decide) rfl xg1 xl1 xo1 (by decide +kernel) q2_111 q1_23 (List.mem_of_getElem? (i := 13) rfl) rfl G hnt hP hD hS h hl.1 dX11_refuse_44 dX11_refuse_47 dX11_refuse_48 dX11_refuse_51 dX11_refuse_54 (by decide) (Nat.le_of_ble_eq_true rfl)
  replace h := it_f c3 h
  by_cases c4 : (swF.getD (([0, 1, 2, 3, 4, 5] : List Int32).getD p1.toNatClampNeg 0).toNatClampNeg 0) = 2
  · replace h := it_t c4 h
    refine g_tabk (off := 47) (tgt := 55) hx hb 2 c4 htab (by decide +kernel) (by decide +kernel) (by decide) ?_
    exact gx_throwW (cE := 2) (E := "java/lang/IndexOutOfBoundsException") (XW := xw2) hlt hSX rfl (by decide) rfl xg2 xl2 xo2 (by decide +kernel) q2_182 q1_19 (List.mem_of_getElem? (i := 14) rfl) rfl G hnt hP hD hS h hl.1 dX11_refuse_55 dX11_refuse_58 dX11_refuse_59 dX11_refuse_62 dX11_refuse_65 (by decide) (Nat.le_of_ble_eq_true rfl)
  replace h := it_f c4 h
  by_cases c5 : (swF.getD (([0, 1, 2, 3, 4, 5] : List Int32).getD p1.toNatClampNeg 0).toNatClampNeg 0) = 3
  · replace h := it_t c5 h
    refine g_tabk (off := 58) (tgt := 66) hx hb 3 c5 htab (by decide +kernel) (by decide +kernel) (by decide) ?_
    exact gx_throwNW (cE := 3) (E := "java/util/NoSuchElementException") (XW := xw3) hlt hSX rfl (by decide) rfl rfl xg3 xl3 xo3 (by decide +kernel) q2_198 q1_24 (List.mem_of_getElem? (i := 15) rfl) rfl G hnt hP hD hS h hl.1 dX11_refuse_66 dX11_refuse_69 dX11_refuse_70 dX11_refuse_73 dX11_refuse_76 (by decide) (Nat.le_of_ble_eq_true rfl)
  replace h := it_f c5 h
  by_cases c6 : (swF.getD (([0, 1, 2, 3, 4, 5] : List Int32).getD p1.toNatClampNeg 0).toNatClampNeg 0) = 4
  · replace h := it_t c6 h
    refine g_tabk (off := 69) (tgt := 77) hx hb 4 c6 htab (by decide +kernel) (by decide +kernel) (by decide) ?_
    exact gx_throwW (cE := 4) (E := "java/lang/IllegalStateException") (XW := xw4) hlt hSX rfl (by decide) rfl xg4 xl4 xo4 (by decide +kernel) q2_214 q1_25 (List.mem_of_getElem? (i := 16) rfl) rfl G hnt hP hD hS h hl.1 dX11_refuse_77 dX11_refuse_80 dX11_refuse_81 dX11_refuse_84 dX11_refuse_87 (by decide) (Nat.le_of_ble_eq_true rfl)
  replace h := it_f c6 h
  by_cases c7 : (swF.getD (([0, 1, 2, 3, 4, 5] : List Int32).getD p1.toNatClampNeg 0).toNatClampNeg 0) = 5
  · replace h := it_t c7 h
    refine g_tabk (off := 80) (tgt := 88) hx hb 5 c7 htab (by decide +kernel) (by decide +kernel) (by decide) ?_
    exact gx_throwW (cE := 5) (E := "java/lang/UnsupportedOperationException") (XW := xw5) hlt hSX rfl (by decide) rfl xg5 xl5 xo5 (by decide +kernel) q2_230 q1_26 (List.mem_of_getElem? (i := 17) rfl) rfl G hnt hP hD hS h hl.1 dX11_refuse_88 dX11_refuse_91 dX11_refuse_92 dX11_refuse_95 dX11_refuse_98 (by decide) (Nat.le_of_ble_eq_true rfl)
  replace h := it_f c7 h
  refine g_tabd (tgt := 99) hx hb [1, 2, 3, 4, 5] (List.forall_mem_cons.mpr ⟨fun q => c3 (i32_eqi q), List.forall_mem_cons.mpr ⟨fun q => c4 (i32_eqi q), List.forall_mem_cons.mpr ⟨fun q => c5 (i32_eqi q), List.forall_mem_cons.mpr ⟨fun q => c6 (i32_eqi q), List.forall_mem_cons.mpr ⟨fun q => c7 (i32_eqi q), List.forall_mem_nil _⟩⟩⟩⟩⟩) htab (by decide +kernel) (by decide +kernel) (by decide) ?_
  exact gx_retv G hP hD hS h (by decide) dX11_refuse_99
noncomputable def fX11_setGear (nF : Nat) (p1 : Int32) (p2 : Int32) (s0 : St) : Option ((Nat × Int32) × St) :=
  OB (fX6_faultOfGear p1 p2 s0) fun r1 s2 =>
  BND r1 6 <|
  OX (fX11_refuse r1 s2) 0 fun r5 s6 =>
  OB (fX3_push nF 0 s6) fun r8 s9 =>
  OB (fX6_changeGear 0 p1 p2 s9) fun r11 s12 =>
  some ((0, r11), s12)
set_option maxHeartbeats 4000000 in
set_option maxRecDepth 100000 in
theorem mX11_setGear (l : Launch) (hlt : l.stackTraces = false) (D : va_G) (cA : Nat → ClassId) (ad adF adW tt a : Nat → Nat) (fr : va_W) (ST : gST) (hT : STE ad adF adW tt ST) (hSX : STX ST) (nF : Nat) (p1 : Int32) (p2 : Int32) (s0 : St) (cR : Nat) (r : Int32) (s' : St) (h : fX11_setGear nF p1 p2 s0 = some ((cR, r), s')) : gMetX l yX11_setGear cX11_setGear 3 (some .int) 2 7 D (TYS cA) ST (wc cA ad a fr s0) [.ref (a 209), .int p1, .int p2] (fun A => gQxi D (TYS cA) A (wc cA ad a fr) cR r s') (fun A => gXC D (TYS cA) A (wc cA ad a fr) cR s') := by
  refine g_ofWX hT.1 (by decide +kernel) (Nat.le_of_ble_eq_true rfl) ?_
  intro p e s m args below meth c ls A G hnt hP hD hl
  have G : GC p s m args meth c cX11_setGear 3 RX11 (some .int) A D (TYS cA) ST := G
  have hx := G.1
  have hb := G.2.1
  have hS : va_S A s.heap s.heap [] := va_S.rf
  have hl : lv_has ls 3 [(0, .ref (a 209)), (1, .int p1), (2, .int p2)] := hl
  unfold fX11_setGear at h
  refine lv_iload_n hx hb dX11_setGear_0 rfl (lv_at hl 1 rfl) ?_
  refine lv_iload_n hx hb dX11_setGear_1 rfl (lv_at hl 2 rfl) ?_
  obtain ⟨r1, s2, g3, h⟩ := ob_e h
  refine gg_callSXe (nA := 2) (mX6_faultOfGear l D cA ad adF adW tt a fr ST hT p1 p2 s0 r1 s2 g3) G hP hD hS (g_goodSX q2_85 q2_86 q1_2 q2_87) (by decide +kernel) (by decide) rfl hl.1 [] rfl (Nat.le_of_ble_eq_true rfl) dX11_setGear_2 (fun H locs hP hD hS => ?_)
  obtain ⟨b4, h⟩ := bnd_e h
  rw [re_some _ (fun q => b4 (Or.inl q))]
  obtain ⟨cr5, r5, s6, g7, h⟩ := ox_e h
  refine gx_callSXv (nA := 1) (mX11_refuse l hlt D cA ad adF adW tt a fr ST hT hSX r1 s2 cr5 r5 s6 g7) G h hnt hP hD hS (g_goodSX q2_100 q2_101 q1_1 q2_102) (by decide +kernel) (by decide) rfl hl.1 [] rfl (Nat.le_of_ble_eq_true rfl) dX11_setGear_5 (fun h H locs hP hD hS => ?_)
  refine lv_aload_n hx hb dX11_setGear_8 rfl (lv_at hl 0 rfl) ?_
  refine gfX11_29 G hP dX11_setGear_9 ?_
  refine lv_aload_n hx hb dX11_setGear_12 rfl (lv_at hl 0 rfl) ?_
  refine gfX11_10 G hP dX11_setGear_13 ?_
  obtain ⟨r8, s9, g10, h⟩ := ob_e h
  refine gg_callVv (nA := 1) (mX3_push l D cA ad adF adW tt a fr ST hT nF 0 isM_0 s6 r8 s9 g10) G hP hD hS (g_good q3_6 q3_7 q3_8 q1_6 q3_9) (by decide +kernel) (by decide) (by decide) sc_210 rfl rfl hl.1 [] rfl (Nat.le_of_ble_eq_true rfl) dX11_setGear_16 (fun H locs hP hD hS => ?_)
  refine lv_aload_n hx hb dX11_setGear_19 rfl (lv_at hl 0 rfl) ?_
  refine gfX11_10 G hP dX11_setGear_20 ?_
  refine lv_iload_n hx hb dX11_setGear_23 rfl (lv_at hl 1 rfl) ?_
  refine lv_iload_n hx hb dX11_setGear_24 rfl (lv_at hl 2 rfl) ?_
  obtain ⟨r11, s12, g13, h⟩ := ob_e h
  refine gg_callVi (nA := 2) (mX6_changeGear l D cA ad adF adW tt a fr ST hT 0 isM_0 p1 p2 s9 r11 s12 g13) G hP hD hS (g_good q3_38 q3_39 q3_40 q1_2 q3_41) (by decide +kernel) (by decide) (ltM_0 isM_0) (sM_0 isM_0) rfl rfl hl.1 [] rfl (Nat.le_of_ble_eq_true rfl) dX11_setGear_25 (fun H locs hP hD hS => ?_)
  exact gx_reti G hP hD hS h rfl (by decide) dX11_setGear_28
noncomputable def fX11_setMesh (nF : Nat) (p1 : Int32) (p2 : Int32) (s0 : St) : Option ((Nat × Int32) × St) :=
  OB (fX6_faultOfMesh p1 p2 s0) fun r1 s2 =>
  BND r1 6 <|
  OX (fX11_refuse r1 s2) 0 fun r5 s6 =>
  OB (fX3_push nF 0 s6) fun r8 s9 =>
  OB (fX6_changeMesh 0 p1 p2 s9) fun r11 s12 =>
  some ((0, r11), s12)
set_option maxHeartbeats 4000000 in
set_option maxRecDepth 100000 in
theorem mX11_setMesh (l : Launch) (hlt : l.stackTraces = false) (D : va_G) (cA : Nat → ClassId) (ad adF adW tt a : Nat → Nat) (fr : va_W) (ST : gST) (hT : STE ad adF adW tt ST) (hSX : STX ST) (nF : Nat) (p1 : Int32) (p2 : Int32) (s0 : St) (cR : Nat) (r : Int32) (s' : St) (h : fX11_setMesh nF p1 p2 s0 = some ((cR, r), s')) : gMetX l yX11_setMesh cX11_setMesh 3 (some .int) 2 7 D (TYS cA) ST (wc cA ad a fr s0) [.ref (a 209), .int p1, .int p2] (fun A => gQxi D (TYS cA) A (wc cA ad a fr) cR r s') (fun A => gXC D (TYS cA) A (wc cA ad a fr) cR s') := by
  refine g_ofWX hT.1 (by decide +kernel) (Nat.le_of_ble_eq_true rfl) ?_
  intro p e s m args below meth c ls A G hnt hP hD hl
  have G : GC p s m args meth c cX11_setMesh 3 RX11 (some .int) A D (TYS cA) ST := G
  have hx := G.1
  have hb := G.2.1
  have hS : va_S A s.heap s.heap [] := va_S.rf
  have hl : lv_has ls 3 [(0, .ref (a 209)), (1, .int p1), (2, .int p2)] := hl
  unfold fX11_setMesh at h
  refine lv_iload_n hx hb dX11_setMesh_0 rfl (lv_at hl 1 rfl) ?_
  refine lv_iload_n hx hb dX11_setMesh_1 rfl (lv_at hl 2 rfl) ?_
  obtain ⟨r1, s2, g3, h⟩ := ob_e h
  refine gg_callSXe (nA := 2) (mX6_faultOfMesh l D cA ad adF adW tt a fr ST hT p1 p2 s0 r1 s2 g3) G hP hD hS (g_goodSX q3_46 q3_47 q1_2 q3_48) (by decide +kernel) (by decide) rfl hl.1 [] rfl (Nat.le_of_ble_eq_true rfl) dX11_setMesh_2 (fun H locs hP hD hS => ?_)
  obtain ⟨b4, h⟩ := bnd_e h
  rw [re_some _ (fun q => b4 (Or.inl q))]
  obtain ⟨cr5, r5, s6, g7, h⟩ := ox_e h
  refine gx_callSXv (nA := 1) (mX11_refuse l hlt D cA ad adF adW tt a fr ST hT hSX r1 s2 cr5 r5 s6 g7) G h hnt hP hD hS (g_goodSX q2_100 q2_101 q1_1 q2_102) (by decide +kernel) (by decide) rfl hl.1 [] rfl (Nat.le_of_ble_eq_true rfl) dX11_setMesh_5 (fun h H locs hP hD hS => ?_)
  refine lv_aload_n hx hb dX11_setMesh_8 rfl (lv_at hl 0 rfl) ?_
  refine gfX11_29 G hP dX11_setMesh_9 ?_
  refine lv_aload_n hx hb dX11_setMesh_12 rfl (lv_at hl 0 rfl) ?_
  refine gfX11_10 G hP dX11_setMesh_13 ?_
  obtain ⟨r8, s9, g10, h⟩ := ob_e h
  refine gg_callVv (nA := 1) (mX3_push l D cA ad adF adW tt a fr ST hT nF 0 isM_0 s6 r8 s9 g10) G hP hD hS (g_good q3_6 q3_7 q3_8 q1_6 q3_9) (by decide +kernel) (by decide) (by decide) sc_210 rfl rfl hl.1 [] rfl (Nat.le_of_ble_eq_true rfl) dX11_setMesh_16 (fun H locs hP hD hS => ?_)
  refine lv_aload_n hx hb dX11_setMesh_19 rfl (lv_at hl 0 rfl) ?_
  refine gfX11_10 G hP dX11_setMesh_20 ?_
  refine lv_iload_n hx hb dX11_setMesh_23 rfl (lv_at hl 1 rfl) ?_
  refine lv_iload_n hx hb dX11_setMesh_24 rfl (lv_at hl 2 rfl) ?_
  obtain ⟨r11, s12, g13, h⟩ := ob_e h
  refine gg_callVi (nA := 2) (mX6_changeMesh l D cA ad adF adW tt a fr ST hT 0 isM_0 p1 p2 s9 r11 s12 g13) G hP hD hS (g_good q3_52 q3_53 q3_54 q1_2 q3_55) (by decide +kernel) (by decide) (ltM_0 isM_0) (sM_0 isM_0) rfl rfl hl.1 [] rfl (Nat.le_of_ble_eq_true rfl) dX11_setMesh_25 (fun H locs hP hD hS => ?_)
  exact gx_reti G hP hD hS h rfl (by decide) dX11_setMesh_28
noncomputable def fX11_clearWheel (nF : Nat) (p1 : Int32) (s0 : St) : Option ((Nat × Int32) × St) :=
  OB (fX6_faultOfClearing p1 s0) fun r1 s2 =>
  BND r1 6 <|
  OX (fX11_refuse r1 s2) 0 fun r5 s6 =>
  OB (fX3_push nF 0 s6) fun r8 s9 =>
  OB (fX6_clear 0 p1 s9) fun r11 s12 =>
  some ((0, r11), s12)
set_option maxHeartbeats 4000000 in
set_option maxRecDepth 100000 in
theorem mX11_clearWheel (l : Launch) (hlt : l.stackTraces = false) (D : va_G) (cA : Nat → ClassId) (ad adF adW tt a : Nat → Nat) (fr : va_W) (ST : gST) (hT : STE ad adF adW tt ST) (hSX : STX ST) (nF : Nat) (p1 : Int32) (s0 : St) (cR : Nat) (r : Int32) (s' : St) (h : fX11_clearWheel nF p1 s0 = some ((cR, r), s')) : gMetX l yX11_clearWheel cX11_clearWheel 2 (some .int) 2 7 D (TYS cA) ST (wc cA ad a fr s0) [.ref (a 209), .int p1] (fun A => gQxi D (TYS cA) A (wc cA ad a fr) cR r s') (fun A => gXC D (TYS cA) A (wc cA ad a fr) cR s') := by
  refine g_ofWX hT.1 (by decide +kernel) (Nat.le_of_ble_eq_true rfl) ?_
  intro p e s m args below meth c ls A G hnt hP hD hl
  have G : GC p s m args meth c cX11_clearWheel 2 RX11 (some .int) A D (TYS cA) ST := G
  have hx := G.1
  have hb := G.2.1
  have hS : va_S A s.heap s.heap [] := va_S.rf
  have hl : lv_has ls 2 [(0, .ref (a 209)), (1, .int p1)] := hl
  unfold fX11_clearWheel at h
  refine lv_iload_n hx hb dX11_clearWheel_0 rfl (lv_at hl 1 rfl) ?_
  obtain ⟨r1, s2, g3, h⟩ := ob_e h
  refine gg_callSXe (nA := 1) (mX6_faultOfClearing l D cA ad adF adW tt a fr ST hT p1 s0 r1 s2 g3) G hP hD hS (g_goodSX q3_60 q3_61 q1_2 q3_62) (by decide +kernel) (by decide) rfl hl.1 [] rfl (Nat.le_of_ble_eq_true rfl) dX11_clearWheel_1 (fun H locs hP hD hS => ?_)
  obtain ⟨b4, h⟩ := bnd_e h
  rw [re_some _ (fun q => b4 (Or.inl q))]
  obtain ⟨cr5, r5, s6, g7, h⟩ := ox_e h
  refine gx_callSXv (nA := 1) (mX11_refuse l hlt D cA ad adF adW tt a fr ST hT hSX r1 s2 cr5 r5 s6 g7) G h hnt hP hD hS (g_goodSX q2_100 q2_101 q1_1 q2_102) (by decide +kernel) (by decide) rfl hl.1 [] rfl (Nat.le_of_ble_eq_true rfl) dX11_clearWheel_4 (fun h H locs hP hD hS => ?_)
  refine lv_aload_n hx hb dX11_clearWheel_7 rfl (lv_at hl 0 rfl) ?_
  refine gfX11_29 G hP dX11_clearWheel_8 ?_
  refine lv_aload_n hx hb dX11_clearWheel_11 rfl (lv_at hl 0 rfl) ?_
  refine gfX11_10 G hP dX11_clearWheel_12 ?_
  obtain ⟨r8, s9, g10, h⟩ := ob_e h
  refine gg_callVv (nA := 1) (mX3_push l D cA ad adF adW tt a fr ST hT nF 0 isM_0 s6 r8 s9 g10) G hP hD hS (g_good q3_6 q3_7 q3_8 q1_6 q3_9) (by decide +kernel) (by decide) (by decide) sc_210 rfl rfl hl.1 [] rfl (Nat.le_of_ble_eq_true rfl) dX11_clearWheel_15 (fun H locs hP hD hS => ?_)
  refine lv_aload_n hx hb dX11_clearWheel_18 rfl (lv_at hl 0 rfl) ?_
  refine gfX11_10 G hP dX11_clearWheel_19 ?_
  refine lv_iload_n hx hb dX11_clearWheel_22 rfl (lv_at hl 1 rfl) ?_
  obtain ⟨r11, s12, g13, h⟩ := ob_e h
  refine gg_callVi (nA := 1) (mX6_clear l D cA ad adF adW tt a fr ST hT 0 isM_0 p1 s9 r11 s12 g13) G hP hD hS (g_good q3_63 q3_64 q3_65 q1_2 q3_66) (by decide +kernel) (by decide) (ltM_0 isM_0) (sM_0 isM_0) rfl rfl hl.1 [] rfl (Nat.le_of_ble_eq_true rfl) dX11_clearWheel_23 (fun H locs hP hD hS => ?_)
  exact gx_reti G hP hD hS h rfl (by decide) dX11_clearWheel_26
noncomputable def fX11_releaseNoise (nF : Nat) (p1 : Int32) (s0 : St) : Option ((Nat × Int32) × St) :=
  OB (fX6_faultOfReleasing 0 p1 s0) fun r1 s2 =>
  BND r1 6 <|
  OX (fX11_refuse r1 s2) 0 fun r5 s6 =>
  OB (fX3_push nF 0 s6) fun r8 s9 =>
  OB (fX6_release 0 p1 s9) fun r11 s12 =>
  some ((0, r11), s12)
set_option maxHeartbeats 4000000 in
set_option maxRecDepth 100000 in
theorem mX11_releaseNoise (l : Launch) (hlt : l.stackTraces = false) (D : va_G) (cA : Nat → ClassId) (ad adF adW tt a : Nat → Nat) (fr : va_W) (ST : gST) (hT : STE ad adF adW tt ST) (hSX : STX ST) (nF : Nat) (p1 : Int32) (s0 : St) (cR : Nat) (r : Int32) (s' : St) (h : fX11_releaseNoise nF p1 s0 = some ((cR, r), s')) : gMetX l yX11_releaseNoise cX11_releaseNoise 2 (some .int) 2 7 D (TYS cA) ST (wc cA ad a fr s0) [.ref (a 209), .int p1] (fun A => gQxi D (TYS cA) A (wc cA ad a fr) cR r s') (fun A => gXC D (TYS cA) A (wc cA ad a fr) cR s') := by
  refine g_ofWX hT.1 (by decide +kernel) (Nat.le_of_ble_eq_true rfl) ?_
  intro p e s m args below meth c ls A G hnt hP hD hl
  have G : GC p s m args meth c cX11_releaseNoise 2 RX11 (some .int) A D (TYS cA) ST := G
  have hx := G.1
  have hb := G.2.1
  have hS : va_S A s.heap s.heap [] := va_S.rf
  have hl : lv_has ls 2 [(0, .ref (a 209)), (1, .int p1)] := hl
  unfold fX11_releaseNoise at h
  refine lv_aload_n hx hb dX11_releaseNoise_0 rfl (lv_at hl 0 rfl) ?_
  refine gfX11_10 G hP dX11_releaseNoise_1 ?_
  refine lv_iload_n hx hb dX11_releaseNoise_4 rfl (lv_at hl 1 rfl) ?_
  obtain ⟨r1, s2, g3, h⟩ := ob_e h
  refine gg_callVe (nA := 1) (mX6_faultOfReleasing l D cA ad adF adW tt a fr ST hT 0 isM_0 p1 s0 r1 s2 g3) G hP hD hS (g_good q3_71 q3_72 q3_73 q1_2 q3_74) (by decide +kernel) (by decide) (ltM_0 isM_0) (sM_0 isM_0) rfl rfl hl.1 [] rfl (Nat.le_of_ble_eq_true rfl) dX11_releaseNoise_5 (fun H locs hP hD hS => ?_)
  obtain ⟨b4, h⟩ := bnd_e h
  rw [re_some _ (fun q => b4 (Or.inl q))]
  obtain ⟨cr5, r5, s6, g7, h⟩ := ox_e h
  refine gx_callSXv (nA := 1) (mX11_refuse l hlt D cA ad adF adW tt a fr ST hT hSX r1 s2 cr5 r5 s6 g7) G h hnt hP hD hS (g_goodSX q2_100 q2_101 q1_1 q2_102) (by decide +kernel) (by decide) rfl hl.1 [] rfl (Nat.le_of_ble_eq_true rfl) dX11_releaseNoise_8 (fun h H locs hP hD hS => ?_)
  refine lv_aload_n hx hb dX11_releaseNoise_11 rfl (lv_at hl 0 rfl) ?_
  refine gfX11_29 G hP dX11_releaseNoise_12 ?_
  refine lv_aload_n hx hb dX11_releaseNoise_15 rfl (lv_at hl 0 rfl) ?_
  refine gfX11_10 G hP dX11_releaseNoise_16 ?_
  obtain ⟨r8, s9, g10, h⟩ := ob_e h
  refine gg_callVv (nA := 1) (mX3_push l D cA ad adF adW tt a fr ST hT nF 0 isM_0 s6 r8 s9 g10) G hP hD hS (g_good q3_6 q3_7 q3_8 q1_6 q3_9) (by decide +kernel) (by decide) (by decide) sc_210 rfl rfl hl.1 [] rfl (Nat.le_of_ble_eq_true rfl) dX11_releaseNoise_19 (fun H locs hP hD hS => ?_)
  refine lv_aload_n hx hb dX11_releaseNoise_22 rfl (lv_at hl 0 rfl) ?_
  refine gfX11_10 G hP dX11_releaseNoise_23 ?_
  refine lv_iload_n hx hb dX11_releaseNoise_26 rfl (lv_at hl 1 rfl) ?_
  obtain ⟨r11, s12, g13, h⟩ := ob_e h
  refine gg_callVi (nA := 1) (mX6_release l D cA ad adF adW tt a fr ST hT 0 isM_0 p1 s9 r11 s12 g13) G hP hD hS (g_good q3_87 q3_88 q3_89 q1_2 q3_90) (by decide +kernel) (by decide) (ltM_0 isM_0) (sM_0 isM_0) rfl rfl hl.1 [] rfl (Nat.le_of_ble_eq_true rfl) dX11_releaseNoise_27 (fun H locs hP hD hS => ?_)
  exact gx_reti G hP hD hS h rfl (by decide) dX11_releaseNoise_30
noncomputable def fX11_advance (nF : Nat) (p1 : Int32) (s0 : St) : Option ((Nat × Int32) × St) :=
  OB (fX6_faultOfAdvancing p1 s0) fun r1 s2 =>
  BND r1 6 <|
  OX (fX11_refuse r1 s2) 0 fun r5 s6 =>
  OB (fX3_push nF 0 s6) fun r8 s9 =>
  OB (fX6_pass nF 0 p1 s9) fun r11 s12 =>
  some ((0, r11), s12)
set_option maxHeartbeats 4000000 in
set_option maxRecDepth 100000 in
theorem mX11_advance (l : Launch) (hlt : l.stackTraces = false) (D : va_G) (cA : Nat → ClassId) (ad adF adW tt a : Nat → Nat) (fr : va_W) (ST : gST) (hT : STE ad adF adW tt ST) (hSX : STX ST) (nF : Nat) (p1 : Int32) (s0 : St) (cR : Nat) (r : Int32) (s' : St) (h : fX11_advance nF p1 s0 = some ((cR, r), s')) : gMetX l yX11_advance cX11_advance 2 (some .int) 2 7 D (TYS cA) ST (wc cA ad a fr s0) [.ref (a 209), .int p1] (fun A => gQxi D (TYS cA) A (wc cA ad a fr) cR r s') (fun A => gXC D (TYS cA) A (wc cA ad a fr) cR s') := by
  refine g_ofWX hT.1 (by decide +kernel) (Nat.le_of_ble_eq_true rfl) ?_
  intro p e s m args below meth c ls A G hnt hP hD hl
  have G : GC p s m args meth c cX11_advance 2 RX11 (some .int) A D (TYS cA) ST := G
  have hx := G.1
  have hb := G.2.1
  have hS : va_S A s.heap s.heap [] := va_S.rf
  have hl : lv_has ls 2 [(0, .ref (a 209)), (1, .int p1)] := hl
  unfold fX11_advance at h
  refine lv_iload_n hx hb dX11_advance_0 rfl (lv_at hl 1 rfl) ?_
  obtain ⟨r1, s2, g3, h⟩ := ob_e h
  refine gg_callSXe (nA := 1) (mX6_faultOfAdvancing l D cA ad adF adW tt a fr ST hT p1 s0 r1 s2 g3) G hP hD hS (g_goodSX q3_107 q3_108 q1_2 q3_109) (by decide +kernel) (by decide) rfl hl.1 [] rfl (Nat.le_of_ble_eq_true rfl) dX11_advance_1 (fun H locs hP hD hS => ?_)
  obtain ⟨b4, h⟩ := bnd_e h
  rw [re_some _ (fun q => b4 (Or.inl q))]
  obtain ⟨cr5, r5, s6, g7, h⟩ := ox_e h
  refine gx_callSXv (nA := 1) (mX11_refuse l hlt D cA ad adF adW tt a fr ST hT hSX r1 s2 cr5 r5 s6 g7) G h hnt hP hD hS (g_goodSX q2_100 q2_101 q1_1 q2_102) (by decide +kernel) (by decide) rfl hl.1 [] rfl (Nat.le_of_ble_eq_true rfl) dX11_advance_4 (fun h H locs hP hD hS => ?_)
  refine lv_aload_n hx hb dX11_advance_7 rfl (lv_at hl 0 rfl) ?_
  refine gfX11_29 G hP dX11_advance_8 ?_
  refine lv_aload_n hx hb dX11_advance_11 rfl (lv_at hl 0 rfl) ?_
  refine gfX11_10 G hP dX11_advance_12 ?_
  obtain ⟨r8, s9, g10, h⟩ := ob_e h
  refine gg_callVv (nA := 1) (mX3_push l D cA ad adF adW tt a fr ST hT nF 0 isM_0 s6 r8 s9 g10) G hP hD hS (g_good q3_6 q3_7 q3_8 q1_6 q3_9) (by decide +kernel) (by decide) (by decide) sc_210 rfl rfl hl.1 [] rfl (Nat.le_of_ble_eq_true rfl) dX11_advance_15 (fun H locs hP hD hS => ?_)
  refine lv_aload_n hx hb dX11_advance_18 rfl (lv_at hl 0 rfl) ?_
  refine gfX11_10 G hP dX11_advance_19 ?_
  refine lv_iload_n hx hb dX11_advance_22 rfl (lv_at hl 1 rfl) ?_
  obtain ⟨r11, s12, g13, h⟩ := ob_e h
  refine gg_callVi (nA := 1) (mX6_pass l D cA ad adF adW tt a fr ST hT nF 0 isM_0 p1 s9 r11 s12 g13) G hP hD hS (g_good q3_110 q3_111 q3_112 q1_2 q3_113) (by decide +kernel) (by decide) (ltM_0 isM_0) (sM_0 isM_0) rfl rfl hl.1 [] rfl (Nat.le_of_ble_eq_true rfl) dX11_advance_23 (fun H locs hP hD hS => ?_)
  exact gx_reti G hP hD hS h rfl (by decide) dX11_advance_26
noncomputable def fX11_waitingAt (nF : Nat) (p1 : Int32) (s0 : St) : Option ((Nat × Int32) × St) :=
  OB (fX11_slotAtRank nF p1 s0) fun r1 s2 =>
  if r1 = (-1) then
    some ((3, 0), s2)
  else
    BND r1 15 <|
    some ((0, s2 ((0 + 1) + 1) r1.toNatClampNeg), s2)
set_option maxHeartbeats 4000000 in
set_option maxRecDepth 100000 in
theorem mX11_waitingAt (l : Launch) (hlt : l.stackTraces = false) (D : va_G) (cA : Nat → ClassId) (ad adF adW tt a : Nat → Nat) (fr : va_W) (ST : gST) (hT : STE ad adF adW tt ST) (hSX : STX ST) (nF : Nat) (p1 : Int32) (s0 : St) (cR : Nat) (r : Int32) (s' : St) (h : fX11_waitingAt nF p1 s0 = some ((cR, r), s')) : gMetX l yX11_waitingAt cX11_waitingAt 3 (some .int) 2 6 D (TYS cA) ST (wc cA ad a fr s0) [.ref (a 209), .int p1] (fun A => gQxi D (TYS cA) A (wc cA ad a fr) cR r s') (fun A => gXC D (TYS cA) A (wc cA ad a fr) cR s') := by
  refine g_ofWX hT.1 (by decide +kernel) (Nat.le_of_ble_eq_true rfl) ?_
  intro p e s m args below meth c ls A G hnt hP hD hl
  have G : GC p s m args meth c cX11_waitingAt 3 RX11 (some .int) A D (TYS cA) ST := G
  have hx := G.1
  have hb := G.2.1
  have hS : va_S A s.heap s.heap [] := va_S.rf
  have hl : lv_has ls 3 [(0, .ref (a 209)), (1, .int p1)] := hl
  unfold fX11_waitingAt at h
  refine lv_aload_n hx hb dX11_waitingAt_0 rfl (lv_at hl 0 rfl) ?_
  refine lv_iload_n hx hb dX11_waitingAt_1 rfl (lv_at hl 1 rfl) ?_
  obtain ⟨r1, s2, g3, h⟩ := ob_e h
  refine gg_callVi (nA := 1) (mX11_slotAtRank l D cA ad adF adW tt a fr ST hT nF p1 s0 r1 s2 g3) G hP hD hS (g_good q3_165 q3_167 qs_4 q1_1 q3_168) (by decide +kernel) (by decide) (by decide) sc_209 rfl rfl hl.1 [] rfl (Nat.le_of_ble_eq_true rfl) dX11_waitingAt_2 (fun H locs hP hD hS => ?_)
  refine lv_istore_n (lv' := [(2, .int r1), (0, .ref (a 209)), (1, .int p1)]) hx hb dX11_waitingAt_5 rfl hl (by decide) rfl (fun ls hl => ?_)
  refine lv_iload_n hx hb dX11_waitingAt_6 rfl (lv_at hl 0 rfl) ?_
  refine lv_iconst (v := (-1)) hx hb dX11_waitingAt_7 (by decide) ?_
  refine lv_icmp_ne (tgt := 21) hx hb dX11_waitingAt_8 (by decide) (fun c4 => ?_) (fun c4 => ?_)
  · replace h := it_f c4 h
    refine lv_aload_n hx hb dX11_waitingAt_21 rfl (lv_at hl 1 rfl) ?_
    refine gfX11_10 G hP dX11_waitingAt_22 ?_
    refine gfX11_126 isM_0 G hP dX11_waitingAt_25 ?_
    refine gfX11_145 (mN isM_0) G hP dX11_waitingAt_28 ?_
    refine lv_iload_n hx hb dX11_waitingAt_31 rfl (lv_at hl 0 rfl) ?_
    obtain ⟨b5, h⟩ := bnd_e h
    refine g_ald (t := 0) (ty := .int) (Or.inl rfl) G hP ((0 + 1) + 1) (ltN_1 (mN isM_0)) (sN_1 (mN isM_0)) rfl b5 dX11_waitingAt_32 ?_
    exact gx_reti G hP hD hS h rfl (by decide) dX11_waitingAt_33
  · replace h := it_t c4 h
    exact gx_throwN (cE := 3) (E := "java/util/NoSuchElementException") (XW := xw3) hlt hSX rfl (by decide) rfl rfl xg3 xl3 xo3 (by decide +kernel) q2_198 q1_24 (List.mem_of_getElem? (i := 0) rfl) rfl G hnt hP hD hS h hl.1 dX11_waitingAt_11 dX11_waitingAt_14 dX11_waitingAt_15 dX11_waitingAt_17 dX11_waitingAt_20 (by decide) (Nat.le_of_ble_eq_true rfl)
noncomputable def fX11_requireNoise (nF : Nat) (p1 : Int32) (s0 : St) : Option ((Nat × Int32) × St) :=
  OB (fX7_slotOf nF (0 + 1) p1 s0) fun r1 s2 =>
  if r1 = (-1) then
    some ((3, 0), s2)
  else
    some ((0, r1), s2)
set_option maxHeartbeats 4000000 in
set_option maxRecDepth 100000 in
theorem mX11_requireNoise (l : Launch) (hlt : l.stackTraces = false) (D : va_G) (cA : Nat → ClassId) (ad adF adW tt a : Nat → Nat) (fr : va_W) (ST : gST) (hT : STE ad adF adW tt ST) (hSX : STX ST) (nF : Nat) (p1 : Int32) (s0 : St) (cR : Nat) (r : Int32) (s' : St) (h : fX11_requireNoise nF p1 s0 = some ((cR, r), s')) : gMetX l yX11_requireNoise cX11_requireNoise 3 (some .int) 1 6 D (TYS cA) ST (wc cA ad a fr s0) [.ref (a 209), .int p1] (fun A => gQxi D (TYS cA) A (wc cA ad a fr) cR r s') (fun A => gXC D (TYS cA) A (wc cA ad a fr) cR s') := by
  refine g_ofWX hT.1 (by decide +kernel) (Nat.le_of_ble_eq_true rfl) ?_
  intro p e s m args below meth c ls A G hnt hP hD hl
  have G : GC p s m args meth c cX11_requireNoise 3 RX11 (some .int) A D (TYS cA) ST := G
  have hx := G.1
  have hb := G.2.1
  have hS : va_S A s.heap s.heap [] := va_S.rf
  have hl : lv_has ls 3 [(0, .ref (a 209)), (1, .int p1)] := hl
  unfold fX11_requireNoise at h
  refine lv_aload_n hx hb dX11_requireNoise_0 rfl (lv_at hl 0 rfl) ?_
  refine gfX11_10 G hP dX11_requireNoise_1 ?_
  refine gfX11_126 isM_0 G hP dX11_requireNoise_4 ?_
  refine lv_iload_n hx hb dX11_requireNoise_7 rfl (lv_at hl 1 rfl) ?_
  obtain ⟨r1, s2, g3, h⟩ := ob_e h
  refine gg_callVi (nA := 1) (mX7_slotOf l D cA ad adF adW tt a fr ST hT nF (0 + 1) (mN isM_0) p1 s0 r1 s2 g3) G hP hD hS (g_good q3_188 q3_189 q3_190 q1_3 q3_191) (by decide +kernel) (by decide) (ltN_0 (mN isM_0)) (sN_0 (mN isM_0)) rfl rfl hl.1 [] rfl (Nat.le_of_ble_eq_true rfl) dX11_requireNoise_8 (fun H locs hP hD hS => ?_)
  refine lv_istore_n (lv' := [(2, .int r1), (0, .ref (a 209)), (1, .int p1)]) hx hb dX11_requireNoise_11 rfl hl (by decide) rfl (fun ls hl => ?_)
  refine lv_iload_n hx hb dX11_requireNoise_12 rfl (lv_at hl 0 rfl) ?_
  refine lv_iconst (v := (-1)) hx hb dX11_requireNoise_13 (by decide) ?_
  refine lv_icmp_ne (tgt := 28) hx hb dX11_requireNoise_14 (by decide) (fun c4 => ?_) (fun c4 => ?_)
  · replace h := it_f c4 h
    refine lv_iload_n hx hb dX11_requireNoise_28 rfl (lv_at hl 0 rfl) ?_
    exact gx_reti G hP hD hS h rfl (by decide) dX11_requireNoise_29
  · replace h := it_t c4 h
    exact gx_throwNW (cE := 3) (E := "java/util/NoSuchElementException") (XW := xw3) hlt hSX rfl (by decide) rfl rfl xg3 xl3 xo3 (by decide +kernel) q2_198 q1_24 (List.mem_of_getElem? (i := 15) rfl) rfl G hnt hP hD hS h hl.1 dX11_requireNoise_17 dX11_requireNoise_20 dX11_requireNoise_21 dX11_requireNoise_24 dX11_requireNoise_27 (by decide) (Nat.le_of_ble_eq_true rfl)
noncomputable def fX11_rankOf (nF : Nat) (p1 : Int32) (s0 : St) : Option ((Nat × Int32) × St) :=
  OX (fX11_requireNoise nF p1 s0) 0 fun r1 s2 =>
  OB (fX7_isWaitingSlot r1 s2) fun r4 s5 =>
  if r4 = 0 then
    some ((4, 0), s5)
  else
    OB (fX7_countBefore nF (0 + 1) r1 s5) fun r8 s9 =>
    some ((0, r8), s9)
set_option maxHeartbeats 4000000 in
set_option maxRecDepth 100000 in
theorem mX11_rankOf (l : Launch) (hlt : l.stackTraces = false) (D : va_G) (cA : Nat → ClassId) (ad adF adW tt a : Nat → Nat) (fr : va_W) (ST : gST) (hT : STE ad adF adW tt ST) (hSX : STX ST) (nF : Nat) (p1 : Int32) (s0 : St) (cR : Nat) (r : Int32) (s' : St) (h : fX11_rankOf nF p1 s0 = some ((cR, r), s')) : gMetX l yX11_rankOf cX11_rankOf 3 (some .int) 2 7 D (TYS cA) ST (wc cA ad a fr s0) [.ref (a 209), .int p1] (fun A => gQxi D (TYS cA) A (wc cA ad a fr) cR r s') (fun A => gXC D (TYS cA) A (wc cA ad a fr) cR s') := by
  refine g_ofWX hT.1 (by decide +kernel) (Nat.le_of_ble_eq_true rfl) ?_
  intro p e s m args below meth c ls A G hnt hP hD hl
  have G : GC p s m args meth c cX11_rankOf 3 RX11 (some .int) A D (TYS cA) ST := G
  have hx := G.1
  have hb := G.2.1
  have hS : va_S A s.heap s.heap [] := va_S.rf
  have hl : lv_has ls 3 [(0, .ref (a 209)), (1, .int p1)] := hl
  unfold fX11_rankOf at h
  refine lv_aload_n hx hb dX11_rankOf_0 rfl (lv_at hl 0 rfl) ?_
  refine lv_iload_n hx hb dX11_rankOf_1 rfl (lv_at hl 1 rfl) ?_
  obtain ⟨cr1, r1, s2, g3, h⟩ := ox_e h
  refine gx_callVi (nA := 1) (mX11_requireNoise l hlt D cA ad adF adW tt a fr ST hT hSX nF p1 s0 cr1 r1 s2 g3) G h hnt hP hD hS (g_good q3_184 q3_186 qs_5 q1_1 q3_187) (by decide +kernel) (by decide) (by decide) sc_209 rfl rfl hl.1 [] rfl (Nat.le_of_ble_eq_true rfl) dX11_rankOf_2 (fun h H locs hP hD hS => ?_)
  refine lv_istore_n (lv' := [(2, .int r1), (0, .ref (a 209)), (1, .int p1)]) hx hb dX11_rankOf_5 rfl hl (by decide) rfl (fun ls hl => ?_)
  refine lv_iload_n hx hb dX11_rankOf_6 rfl (lv_at hl 0 rfl) ?_
  obtain ⟨r4, s5, g6, h⟩ := ob_e h
  refine gg_callSXi (nA := 1) (mX7_isWaitingSlot l D cA ad adF adW tt a fr ST hT r1 s2 r4 s5 g6) G hP hD hS (g_goodSX q3_192 q3_193 q1_3 q3_194) (by decide +kernel) (by decide) rfl hl.1 [] rfl (Nat.le_of_ble_eq_true rfl) dX11_rankOf_7 (fun H locs hP hD hS => ?_)
  refine lv_if_ne (tgt := 23) hx hb dX11_rankOf_10 (by decide) (fun c7 => ?_) (fun c7 => ?_)
  · replace h := it_f c7 h
    refine lv_aload_n hx hb dX11_rankOf_23 rfl (lv_at hl 1 rfl) ?_
    refine gfX11_10 G hP dX11_rankOf_24 ?_
    refine gfX11_126 isM_0 G hP dX11_rankOf_27 ?_
    refine lv_iload_n hx hb dX11_rankOf_30 rfl (lv_at hl 0 rfl) ?_
    obtain ⟨r8, s9, g10, h⟩ := ob_e h
    refine gg_callVi (nA := 1) (mX7_countBefore l D cA ad adF adW tt a fr ST hT nF (0 + 1) (mN isM_0) r1 s5 r8 s9 g10) G hP hD hS (g_good q3_196 q3_197 q3_198 q1_3 q3_199) (by decide +kernel) (by decide) (ltN_0 (mN isM_0)) (sN_0 (mN isM_0)) rfl rfl hl.1 [] rfl (Nat.le_of_ble_eq_true rfl) dX11_rankOf_31 (fun H locs hP hD hS => ?_)
    exact gx_reti G hP hD hS h rfl (by decide) dX11_rankOf_34
  · replace h := it_t c7 h
    exact gx_throw (cE := 4) (E := "java/lang/IllegalStateException") (XW := xw4) hlt hSX rfl (by decide) rfl xg4 xl4 xo4 (by decide +kernel) q2_214 q1_25 (List.mem_of_getElem? (i := 1) rfl) rfl G hnt hP hD hS h hl.1 dX11_rankOf_13 dX11_rankOf_16 dX11_rankOf_17 dX11_rankOf_19 dX11_rankOf_22 (by decide) (Nat.le_of_ble_eq_true rfl)
noncomputable def fX11_amount (nF : Nat) (p1 : Int32) (s0 : St) : Option ((Nat × Int32) × St) :=
  OX (fX11_requireNoise nF p1 s0) 0 fun r1 s2 =>
  BND r1 15 <|
  some ((0, s2 ((0 + 1) + 4) r1.toNatClampNeg), s2)
set_option maxHeartbeats 4000000 in
set_option maxRecDepth 100000 in
theorem mX11_amount (l : Launch) (hlt : l.stackTraces = false) (D : va_G) (cA : Nat → ClassId) (ad adF adW tt a : Nat → Nat) (fr : va_W) (ST : gST) (hT : STE ad adF adW tt ST) (hSX : STX ST) (nF : Nat) (p1 : Int32) (s0 : St) (cR : Nat) (r : Int32) (s' : St) (h : fX11_amount nF p1 s0 = some ((cR, r), s')) : gMetX l yX11_amount cX11_amount 2 (some .int) 2 7 D (TYS cA) ST (wc cA ad a fr s0) [.ref (a 209), .int p1] (fun A => gQxi D (TYS cA) A (wc cA ad a fr) cR r s') (fun A => gXC D (TYS cA) A (wc cA ad a fr) cR s') := by
  refine g_ofWX hT.1 (by decide +kernel) (Nat.le_of_ble_eq_true rfl) ?_
  intro p e s m args below meth c ls A G hnt hP hD hl
  have G : GC p s m args meth c cX11_amount 2 RX11 (some .int) A D (TYS cA) ST := G
  have hx := G.1
  have hb := G.2.1
  have hS : va_S A s.heap s.heap [] := va_S.rf
  have hl : lv_has ls 2 [(0, .ref (a 209)), (1, .int p1)] := hl
  unfold fX11_amount at h
  refine lv_aload_n hx hb dX11_amount_0 rfl (lv_at hl 0 rfl) ?_
  refine gfX11_10 G hP dX11_amount_1 ?_
  refine gfX11_126 isM_0 G hP dX11_amount_4 ?_
  refine gfX11_173 (mN isM_0) G hP dX11_amount_7 ?_
  refine lv_aload_n hx hb dX11_amount_10 rfl (lv_at hl 0 rfl) ?_
  refine lv_iload_n hx hb dX11_amount_11 rfl (lv_at hl 1 rfl) ?_
  obtain ⟨cr1, r1, s2, g3, h⟩ := ox_e h
  refine gx_callVi (nA := 1) (mX11_requireNoise l hlt D cA ad adF adW tt a fr ST hT hSX nF p1 s0 cr1 r1 s2 g3) G h hnt hP hD hS (g_good q3_184 q3_186 qs_5 q1_1 q3_187) (by decide +kernel) (by decide) (by decide) sc_209 rfl rfl hl.1 [.ref (a ((0 + 1) + 4))] rfl (Nat.le_of_ble_eq_true rfl) dX11_amount_12 (fun h H locs hP hD hS => ?_)
  obtain ⟨b4, h⟩ := bnd_e h
  refine g_ald (t := 0) (ty := .int) (Or.inl rfl) G hP ((0 + 1) + 4) (ltN_4 (mN isM_0)) (sN_4 (mN isM_0)) rfl b4 dX11_amount_15 ?_
  exact gx_reti G hP hD hS h rfl (by decide) dX11_amount_16
noncomputable def fX11_isWaiting (nF : Nat) (p1 : Int32) (s0 : St) : Option ((Nat × Int32) × St) :=
  OX (fX11_requireNoise nF p1 s0) 0 fun r1 s2 =>
  OB (fX7_isWaitingSlot r1 s2) fun r4 s5 =>
  BL r4 <|
  some ((0, r4), s5)
set_option maxHeartbeats 4000000 in
set_option maxRecDepth 100000 in
theorem mX11_isWaiting (l : Launch) (hlt : l.stackTraces = false) (D : va_G) (cA : Nat → ClassId) (ad adF adW tt a : Nat → Nat) (fr : va_W) (ST : gST) (hT : STE ad adF adW tt ST) (hSX : STX ST) (nF : Nat) (p1 : Int32) (s0 : St) (cR : Nat) (r : Int32) (s' : St) (h : fX11_isWaiting nF p1 s0 = some ((cR, r), s')) : gMetX l yX11_isWaiting cX11_isWaiting 2 (some .boolean) 2 7 D (TYS cA) ST (wc cA ad a fr s0) [.ref (a 209), .int p1] (fun A => gQxi D (TYS cA) A (wc cA ad a fr) cR r s') (fun A => gXC D (TYS cA) A (wc cA ad a fr) cR s') := by
  refine g_ofWX hT.1 (by decide +kernel) (Nat.le_of_ble_eq_true rfl) ?_
  intro p e s m args below meth c ls A G hnt hP hD hl
  have G : GC p s m args meth c cX11_isWaiting 2 RX11 (some .boolean) A D (TYS cA) ST := G
  have hx := G.1
  have hb := G.2.1
  have hS : va_S A s.heap s.heap [] := va_S.rf
  have hl : lv_has ls 2 [(0, .ref (a 209)), (1, .int p1)] := hl
  unfold fX11_isWaiting at h
  refine lv_aload_n hx hb dX11_isWaiting_0 rfl (lv_at hl 0 rfl) ?_
  refine lv_iload_n hx hb dX11_isWaiting_1 rfl (lv_at hl 1 rfl) ?_
  obtain ⟨cr1, r1, s2, g3, h⟩ := ox_e h
  refine gx_callVi (nA := 1) (mX11_requireNoise l hlt D cA ad adF adW tt a fr ST hT hSX nF p1 s0 cr1 r1 s2 g3) G h hnt hP hD hS (g_good q3_184 q3_186 qs_5 q1_1 q3_187) (by decide +kernel) (by decide) (by decide) sc_209 rfl rfl hl.1 [] rfl (Nat.le_of_ble_eq_true rfl) dX11_isWaiting_2 (fun h H locs hP hD hS => ?_)
  obtain ⟨r4, s5, g6, h⟩ := ob_e h
  refine gg_callSXi (nA := 1) (mX7_isWaitingSlot l D cA ad adF adW tt a fr ST hT r1 s2 r4 s5 g6) G hP hD hS (g_goodSX q3_192 q3_193 q1_3 q3_194) (by decide +kernel) (by decide) rfl hl.1 [] rfl (Nat.le_of_ble_eq_true rfl) dX11_isWaiting_5 (fun H locs hP hD hS => ?_)
  obtain ⟨b7, h⟩ := bl_e h
  exact gx_reti G hP hD hS h (bl_n b7) (by decide) dX11_isWaiting_8
noncomputable def fX11_wheelOf (nF : Nat) (p1 : Int32) (s0 : St) : Option ((Nat × Int32) × St) :=
  OX (fX11_requireNoise nF p1 s0) 0 fun r1 s2 =>
  OB (fX7_isWaitingSlot r1 s2) fun r4 s5 =>
  if r4 = 0 then
    OB (fX7_wheelOfSlot r1 s5) fun r8 s9 =>
    some ((0, r8), s9)
  else
    some ((3, 0), s5)
set_option maxHeartbeats 4000000 in
set_option maxRecDepth 100000 in
theorem mX11_wheelOf (l : Launch) (hlt : l.stackTraces = false) (D : va_G) (cA : Nat → ClassId) (ad adF adW tt a : Nat → Nat) (fr : va_W) (ST : gST) (hT : STE ad adF adW tt ST) (hSX : STX ST) (nF : Nat) (p1 : Int32) (s0 : St) (cR : Nat) (r : Int32) (s' : St) (h : fX11_wheelOf nF p1 s0 = some ((cR, r), s')) : gMetX l yX11_wheelOf cX11_wheelOf 3 (some .int) 2 7 D (TYS cA) ST (wc cA ad a fr s0) [.ref (a 209), .int p1] (fun A => gQxi D (TYS cA) A (wc cA ad a fr) cR r s') (fun A => gXC D (TYS cA) A (wc cA ad a fr) cR s') := by
  refine g_ofWX hT.1 (by decide +kernel) (Nat.le_of_ble_eq_true rfl) ?_
  intro p e s m args below meth c ls A G hnt hP hD hl
  have G : GC p s m args meth c cX11_wheelOf 3 RX11 (some .int) A D (TYS cA) ST := G
  have hx := G.1
  have hb := G.2.1
  have hS : va_S A s.heap s.heap [] := va_S.rf
  have hl : lv_has ls 3 [(0, .ref (a 209)), (1, .int p1)] := hl
  unfold fX11_wheelOf at h
  refine lv_aload_n hx hb dX11_wheelOf_0 rfl (lv_at hl 0 rfl) ?_
  refine lv_iload_n hx hb dX11_wheelOf_1 rfl (lv_at hl 1 rfl) ?_
  obtain ⟨cr1, r1, s2, g3, h⟩ := ox_e h
  refine gx_callVi (nA := 1) (mX11_requireNoise l hlt D cA ad adF adW tt a fr ST hT hSX nF p1 s0 cr1 r1 s2 g3) G h hnt hP hD hS (g_good q3_184 q3_186 qs_5 q1_1 q3_187) (by decide +kernel) (by decide) (by decide) sc_209 rfl rfl hl.1 [] rfl (Nat.le_of_ble_eq_true rfl) dX11_wheelOf_2 (fun h H locs hP hD hS => ?_)
  refine lv_istore_n (lv' := [(2, .int r1), (0, .ref (a 209)), (1, .int p1)]) hx hb dX11_wheelOf_5 rfl hl (by decide) rfl (fun ls hl => ?_)
  refine lv_iload_n hx hb dX11_wheelOf_6 rfl (lv_at hl 0 rfl) ?_
  obtain ⟨r4, s5, g6, h⟩ := ob_e h
  refine gg_callSXi (nA := 1) (mX7_isWaitingSlot l D cA ad adF adW tt a fr ST hT r1 s2 r4 s5 g6) G hP hD hS (g_goodSX q3_192 q3_193 q1_3 q3_194) (by decide +kernel) (by decide) rfl hl.1 [] rfl (Nat.le_of_ble_eq_true rfl) dX11_wheelOf_7 (fun H locs hP hD hS => ?_)
  refine lv_if_eq (tgt := 23) hx hb dX11_wheelOf_10 (by decide) (fun c7 => ?_) (fun c7 => ?_)
  · replace h := it_t c7 h
    refine lv_iload_n hx hb dX11_wheelOf_23 rfl (lv_at hl 0 rfl) ?_
    obtain ⟨r8, s9, g10, h⟩ := ob_e h
    refine gg_callSXi (nA := 1) (mX7_wheelOfSlot l D cA ad adF adW tt a fr ST hT r1 s5 r8 s9 g10) G hP hD hS (g_goodSX q3_217 q3_218 q1_3 q3_219) (by decide +kernel) (by decide) rfl hl.1 [] rfl (Nat.le_of_ble_eq_true rfl) dX11_wheelOf_24 (fun H locs hP hD hS => ?_)
    exact gx_reti G hP hD hS h rfl (by decide) dX11_wheelOf_27
  · replace h := it_f c7 h
    exact gx_throwN (cE := 3) (E := "java/util/NoSuchElementException") (XW := xw3) hlt hSX rfl (by decide) rfl rfl xg3 xl3 xo3 (by decide +kernel) q2_198 q1_24 (List.mem_of_getElem? (i := 2) rfl) rfl G hnt hP hD hS h hl.1 dX11_wheelOf_13 dX11_wheelOf_16 dX11_wheelOf_17 dX11_wheelOf_19 dX11_wheelOf_22 (by decide) (Nat.le_of_ble_eq_true rfl)
noncomputable def fX11_requireWheel (p1 : Int32) (s0 : St) : Option ((Nat × Int32) × St) :=
  OB (fX6_isWheel p1 s0) fun r1 s2 =>
  if r1 = 0 then
    some ((2, 0), s2)
  else
    some ((0, 0), s2)
set_option maxHeartbeats 4000000 in
set_option maxRecDepth 100000 in
theorem mX11_requireWheel (l : Launch) (hlt : l.stackTraces = false) (D : va_G) (cA : Nat → ClassId) (ad adF adW tt a : Nat → Nat) (fr : va_W) (ST : gST) (hT : STE ad adF adW tt ST) (hSX : STX ST) (p1 : Int32) (s0 : St) (cR : Nat) (r : Int32) (s' : St) (h : fX11_requireWheel p1 s0 = some ((cR, r), s')) : gMetX l yX11_requireWheel cX11_requireWheel 1 none 1 6 D (TYS cA) ST (wc cA ad a fr s0) [.int p1] (fun A => gQxv D (TYS cA) A (wc cA ad a fr) cR s') (fun A => gXC D (TYS cA) A (wc cA ad a fr) cR s') := by
  refine g_ofWX hT.1 (by decide +kernel) (Nat.le_of_ble_eq_true rfl) ?_
  intro p e s m args below meth c ls A G hnt hP hD hl
  have G : GC p s m args meth c cX11_requireWheel 1 RX11 none A D (TYS cA) ST := G
  have hx := G.1
  have hb := G.2.1
  have hS : va_S A s.heap s.heap [] := va_S.rf
  have hl : lv_has ls 1 [(0, .int p1)] := hl
  unfold fX11_requireWheel at h
  refine lv_iload_n hx hb dX11_requireWheel_0 rfl (lv_at hl 0 rfl) ?_
  obtain ⟨r1, s2, g3, h⟩ := ob_e h
  refine gg_callSXi (nA := 1) (mX6_isWheel l D cA ad adF adW tt a fr ST hT p1 s0 r1 s2 g3) G hP hD hS (g_goodSX q3_227 q2_89 q1_2 q2_90) (by decide +kernel) (by decide) rfl hl.1 [] rfl (Nat.le_of_ble_eq_true rfl) dX11_requireWheel_1 (fun H locs hP hD hS => ?_)
  refine lv_if_ne (tgt := 18) hx hb dX11_requireWheel_4 (by decide) (fun c4 => ?_) (fun c4 => ?_)
  · replace h := it_f c4 h
    exact gx_retv G hP hD hS h (by decide) dX11_requireWheel_18
  · replace h := it_t c4 h
    exact gx_throwW (cE := 2) (E := "java/lang/IndexOutOfBoundsException") (XW := xw2) hlt hSX rfl (by decide) rfl xg2 xl2 xo2 (by decide +kernel) q2_182 q1_19 (List.mem_of_getElem? (i := 14) rfl) rfl G hnt hP hD hS h hl.1 dX11_requireWheel_7 dX11_requireWheel_10 dX11_requireWheel_11 dX11_requireWheel_14 dX11_requireWheel_17 (by decide) (Nat.le_of_ble_eq_true rfl)
noncomputable def fX11_noiseOn (p1 : Int32) (s0 : St) : Option ((Nat × Int32) × St) :=
  OX (fX11_requireWheel p1 s0) 0 fun r1 s2 =>
  OB (fX7_isHeld (0 + 1) p1 s2) fun r4 s5 =>
  if r4 = 0 then
    some ((3, 0), s5)
  else
    OB (fX7_slotOn p1 s5) fun r8 s9 =>
    BND r8 15 <|
    some ((0, s9 ((0 + 1) + 1) r8.toNatClampNeg), s9)
set_option maxHeartbeats 4000000 in
set_option maxRecDepth 100000 in
theorem mX11_noiseOn (l : Launch) (hlt : l.stackTraces = false) (D : va_G) (cA : Nat → ClassId) (ad adF adW tt a : Nat → Nat) (fr : va_W) (ST : gST) (hT : STE ad adF adW tt ST) (hSX : STX ST) (p1 : Int32) (s0 : St) (cR : Nat) (r : Int32) (s' : St) (h : fX11_noiseOn p1 s0 = some ((cR, r), s')) : gMetX l yX11_noiseOn cX11_noiseOn 2 (some .int) 2 7 D (TYS cA) ST (wc cA ad a fr s0) [.ref (a 209), .int p1] (fun A => gQxi D (TYS cA) A (wc cA ad a fr) cR r s') (fun A => gXC D (TYS cA) A (wc cA ad a fr) cR s') := by
  refine g_ofWX hT.1 (by decide +kernel) (Nat.le_of_ble_eq_true rfl) ?_
  intro p e s m args below meth c ls A G hnt hP hD hl
  have G : GC p s m args meth c cX11_noiseOn 2 RX11 (some .int) A D (TYS cA) ST := G
  have hx := G.1
  have hb := G.2.1
  have hS : va_S A s.heap s.heap [] := va_S.rf
  have hl : lv_has ls 2 [(0, .ref (a 209)), (1, .int p1)] := hl
  unfold fX11_noiseOn at h
  refine lv_iload_n hx hb dX11_noiseOn_0 rfl (lv_at hl 1 rfl) ?_
  obtain ⟨cr1, r1, s2, g3, h⟩ := ox_e h
  refine gx_callSXv (nA := 1) (mX11_requireWheel l hlt D cA ad adF adW tt a fr ST hT hSX p1 s0 cr1 r1 s2 g3) G h hnt hP hD hS (g_goodSX q3_224 q3_225 q1_1 q3_226) (by decide +kernel) (by decide) rfl hl.1 [] rfl (Nat.le_of_ble_eq_true rfl) dX11_noiseOn_1 (fun h H locs hP hD hS => ?_)
  refine lv_aload_n hx hb dX11_noiseOn_4 rfl (lv_at hl 0 rfl) ?_
  refine gfX11_10 G hP dX11_noiseOn_5 ?_
  refine gfX11_126 isM_0 G hP dX11_noiseOn_8 ?_
  refine lv_iload_n hx hb dX11_noiseOn_11 rfl (lv_at hl 1 rfl) ?_
  obtain ⟨r4, s5, g6, h⟩ := ob_e h
  refine gg_callVi (nA := 1) (mX7_isHeld l D cA ad adF adW tt a fr ST hT (0 + 1) (mN isM_0) p1 s2 r4 s5 g6) G hP hD hS (g_good q3_228 q3_76 q3_77 q1_3 q3_78) (by decide +kernel) (by decide) (ltN_0 (mN isM_0)) (sN_0 (mN isM_0)) rfl rfl hl.1 [] rfl (Nat.le_of_ble_eq_true rfl) dX11_noiseOn_12 (fun H locs hP hD hS => ?_)
  refine lv_if_ne (tgt := 28) hx hb dX11_noiseOn_15 (by decide) (fun c7 => ?_) (fun c7 => ?_)
  · replace h := it_f c7 h
    refine lv_aload_n hx hb dX11_noiseOn_28 rfl (lv_at hl 0 rfl) ?_
    refine gfX11_10 G hP dX11_noiseOn_29 ?_
    refine gfX11_126 isM_0 G hP dX11_noiseOn_32 ?_
    refine gfX11_145 (mN isM_0) G hP dX11_noiseOn_35 ?_
    refine lv_iload_n hx hb dX11_noiseOn_38 rfl (lv_at hl 1 rfl) ?_
    obtain ⟨r8, s9, g10, h⟩ := ob_e h
    refine gg_callSXi (nA := 1) (mX7_slotOn l D cA ad adF adW tt a fr ST hT p1 s5 r8 s9 g10) G hP hD hS (g_goodSX q3_230 q3_97 q1_3 q3_98) (by decide +kernel) (by decide) rfl hl.1 [.ref (a ((0 + 1) + 1))] rfl (Nat.le_of_ble_eq_true rfl) dX11_noiseOn_39 (fun H locs hP hD hS => ?_)
    obtain ⟨b11, h⟩ := bnd_e h
    refine g_ald (t := 0) (ty := .int) (Or.inl rfl) G hP ((0 + 1) + 1) (ltN_1 (mN isM_0)) (sN_1 (mN isM_0)) rfl b11 dX11_noiseOn_42 ?_
    exact gx_reti G hP hD hS h rfl (by decide) dX11_noiseOn_43
  · replace h := it_t c7 h
    exact gx_throwN (cE := 3) (E := "java/util/NoSuchElementException") (XW := xw3) hlt hSX rfl (by decide) rfl rfl xg3 xl3 xo3 (by decide +kernel) q2_198 q1_24 (List.mem_of_getElem? (i := 3) rfl) rfl G hnt hP hD hS h hl.1 dX11_noiseOn_18 dX11_noiseOn_21 dX11_noiseOn_22 dX11_noiseOn_24 dX11_noiseOn_27 (by decide) (Nat.le_of_ble_eq_true rfl)
noncomputable def fX11_gear (p1 : Int32) (s0 : St) : Option ((Nat × Int32) × St) :=
  OX (fX11_requireWheel p1 s0) 0 fun r1 s2 =>
  BND p1 3 <|
  some ((0, s2 (0 + 16) p1.toNatClampNeg), s2)
set_option maxHeartbeats 4000000 in
set_option maxRecDepth 100000 in
theorem mX11_gear (l : Launch) (hlt : l.stackTraces = false) (D : va_G) (cA : Nat → ClassId) (ad adF adW tt a : Nat → Nat) (fr : va_W) (ST : gST) (hT : STE ad adF adW tt ST) (hSX : STX ST) (p1 : Int32) (s0 : St) (cR : Nat) (r : Int32) (s' : St) (h : fX11_gear p1 s0 = some ((cR, r), s')) : gMetX l yX11_gear cX11_gear 2 (some .int) 2 7 D (TYS cA) ST (wc cA ad a fr s0) [.ref (a 209), .int p1] (fun A => gQxi D (TYS cA) A (wc cA ad a fr) cR r s') (fun A => gXC D (TYS cA) A (wc cA ad a fr) cR s') := by
  refine g_ofWX hT.1 (by decide +kernel) (Nat.le_of_ble_eq_true rfl) ?_
  intro p e s m args below meth c ls A G hnt hP hD hl
  have G : GC p s m args meth c cX11_gear 2 RX11 (some .int) A D (TYS cA) ST := G
  have hx := G.1
  have hb := G.2.1
  have hS : va_S A s.heap s.heap [] := va_S.rf
  have hl : lv_has ls 2 [(0, .ref (a 209)), (1, .int p1)] := hl
  unfold fX11_gear at h
  refine lv_iload_n hx hb dX11_gear_0 rfl (lv_at hl 1 rfl) ?_
  obtain ⟨cr1, r1, s2, g3, h⟩ := ox_e h
  refine gx_callSXv (nA := 1) (mX11_requireWheel l hlt D cA ad adF adW tt a fr ST hT hSX p1 s0 cr1 r1 s2 g3) G h hnt hP hD hS (g_goodSX q3_224 q3_225 q1_1 q3_226) (by decide +kernel) (by decide) rfl hl.1 [] rfl (Nat.le_of_ble_eq_true rfl) dX11_gear_1 (fun h H locs hP hD hS => ?_)
  refine lv_aload_n hx hb dX11_gear_4 rfl (lv_at hl 0 rfl) ?_
  refine gfX11_10 G hP dX11_gear_5 ?_
  refine gfX11_193 isM_0 G hP dX11_gear_8 ?_
  refine lv_iload_n hx hb dX11_gear_11 rfl (lv_at hl 1 rfl) ?_
  obtain ⟨b4, h⟩ := bnd_e h
  refine g_ald (t := 0) (ty := .int) (Or.inl rfl) G hP (0 + 16) (ltM_16 isM_0) (sM_16 isM_0) rfl b4 dX11_gear_12 ?_
  exact gx_reti G hP hD hS h rfl (by decide) dX11_gear_13
noncomputable def fX11_wear (p1 : Int32) (s0 : St) : Option ((Nat × Int32) × St) :=
  OX (fX11_requireWheel p1 s0) 0 fun r1 s2 =>
  BND p1 3 <|
  some ((0, s2 (0 + 17) p1.toNatClampNeg), s2)
set_option maxHeartbeats 4000000 in
set_option maxRecDepth 100000 in
theorem mX11_wear (l : Launch) (hlt : l.stackTraces = false) (D : va_G) (cA : Nat → ClassId) (ad adF adW tt a : Nat → Nat) (fr : va_W) (ST : gST) (hT : STE ad adF adW tt ST) (hSX : STX ST) (p1 : Int32) (s0 : St) (cR : Nat) (r : Int32) (s' : St) (h : fX11_wear p1 s0 = some ((cR, r), s')) : gMetX l yX11_wear cX11_wear 2 (some .int) 2 7 D (TYS cA) ST (wc cA ad a fr s0) [.ref (a 209), .int p1] (fun A => gQxi D (TYS cA) A (wc cA ad a fr) cR r s') (fun A => gXC D (TYS cA) A (wc cA ad a fr) cR s') := by
  refine g_ofWX hT.1 (by decide +kernel) (Nat.le_of_ble_eq_true rfl) ?_
  intro p e s m args below meth c ls A G hnt hP hD hl
  have G : GC p s m args meth c cX11_wear 2 RX11 (some .int) A D (TYS cA) ST := G
  have hx := G.1
  have hb := G.2.1
  have hS : va_S A s.heap s.heap [] := va_S.rf
  have hl : lv_has ls 2 [(0, .ref (a 209)), (1, .int p1)] := hl
  unfold fX11_wear at h
  refine lv_iload_n hx hb dX11_wear_0 rfl (lv_at hl 1 rfl) ?_
  obtain ⟨cr1, r1, s2, g3, h⟩ := ox_e h
  refine gx_callSXv (nA := 1) (mX11_requireWheel l hlt D cA ad adF adW tt a fr ST hT hSX p1 s0 cr1 r1 s2 g3) G h hnt hP hD hS (g_goodSX q3_224 q3_225 q1_1 q3_226) (by decide +kernel) (by decide) rfl hl.1 [] rfl (Nat.le_of_ble_eq_true rfl) dX11_wear_1 (fun h H locs hP hD hS => ?_)
  refine lv_aload_n hx hb dX11_wear_4 rfl (lv_at hl 0 rfl) ?_
  refine gfX11_10 G hP dX11_wear_5 ?_
  refine gfX11_196 isM_0 G hP dX11_wear_8 ?_
  refine lv_iload_n hx hb dX11_wear_11 rfl (lv_at hl 1 rfl) ?_
  obtain ⟨b4, h⟩ := bnd_e h
  refine g_ald (t := 0) (ty := .int) (Or.inl rfl) G hP (0 + 17) (ltM_17 isM_0) (sM_17 isM_0) rfl b4 dX11_wear_12 ?_
  exact gx_reti G hP hD hS h rfl (by decide) dX11_wear_13
noncomputable def fX11_isJammed (p1 : Int32) (s0 : St) : Option ((Nat × Int32) × St) :=
  OX (fX11_requireWheel p1 s0) 0 fun r1 s2 =>
  OB (fX6_isStuck 0 p1 s2) fun r4 s5 =>
  BL r4 <|
  some ((0, r4), s5)
set_option maxHeartbeats 4000000 in
set_option maxRecDepth 100000 in
theorem mX11_isJammed (l : Launch) (hlt : l.stackTraces = false) (D : va_G) (cA : Nat → ClassId) (ad adF adW tt a : Nat → Nat) (fr : va_W) (ST : gST) (hT : STE ad adF adW tt ST) (hSX : STX ST) (p1 : Int32) (s0 : St) (cR : Nat) (r : Int32) (s' : St) (h : fX11_isJammed p1 s0 = some ((cR, r), s')) : gMetX l yX11_isJammed cX11_isJammed 2 (some .boolean) 2 7 D (TYS cA) ST (wc cA ad a fr s0) [.ref (a 209), .int p1] (fun A => gQxi D (TYS cA) A (wc cA ad a fr) cR r s') (fun A => gXC D (TYS cA) A (wc cA ad a fr) cR s') := by
  refine g_ofWX hT.1 (by decide +kernel) (Nat.le_of_ble_eq_true rfl) ?_
  intro p e s m args below meth c ls A G hnt hP hD hl
  have G : GC p s m args meth c cX11_isJammed 2 RX11 (some .boolean) A D (TYS cA) ST := G
  have hx := G.1
  have hb := G.2.1
  have hS : va_S A s.heap s.heap [] := va_S.rf
  have hl : lv_has ls 2 [(0, .ref (a 209)), (1, .int p1)] := hl
  unfold fX11_isJammed at h
  refine lv_iload_n hx hb dX11_isJammed_0 rfl (lv_at hl 1 rfl) ?_
  obtain ⟨cr1, r1, s2, g3, h⟩ := ox_e h
  refine gx_callSXv (nA := 1) (mX11_requireWheel l hlt D cA ad adF adW tt a fr ST hT hSX p1 s0 cr1 r1 s2 g3) G h hnt hP hD hS (g_goodSX q3_224 q3_225 q1_1 q3_226) (by decide +kernel) (by decide) rfl hl.1 [] rfl (Nat.le_of_ble_eq_true rfl) dX11_isJammed_1 (fun h H locs hP hD hS => ?_)
  refine lv_aload_n hx hb dX11_isJammed_4 rfl (lv_at hl 0 rfl) ?_
  refine gfX11_10 G hP dX11_isJammed_5 ?_
  refine lv_iload_n hx hb dX11_isJammed_8 rfl (lv_at hl 1 rfl) ?_
  obtain ⟨r4, s5, g6, h⟩ := ob_e h
  refine gg_callVi (nA := 1) (mX6_isStuck l D cA ad adF adW tt a fr ST hT 0 isM_0 p1 s2 r4 s5 g6) G hP hD hS (g_good q4_3 q3_115 q3_116 q1_2 q3_117) (by decide +kernel) (by decide) (ltM_0 isM_0) (sM_0 isM_0) rfl rfl hl.1 [] rfl (Nat.le_of_ble_eq_true rfl) dX11_isJammed_9 (fun H locs hP hD hS => ?_)
  obtain ⟨b7, h⟩ := bl_e h
  exact gx_reti G hP hD hS h (bl_n b7) (by decide) dX11_isJammed_12
noncomputable def fX11_requireBand (p1 : Int32) (s0 : St) : Option ((Nat × Int32) × St) :=
  OB (fX6_isBand p1 s0) fun r1 s2 =>
  if r1 = 0 then
    some ((1, 0), s2)
  else
    some ((0, 0), s2)
set_option maxHeartbeats 4000000 in
set_option maxRecDepth 100000 in
theorem mX11_requireBand (l : Launch) (hlt : l.stackTraces = false) (D : va_G) (cA : Nat → ClassId) (ad adF adW tt a : Nat → Nat) (fr : va_W) (ST : gST) (hT : STE ad adF adW tt ST) (hSX : STX ST) (p1 : Int32) (s0 : St) (cR : Nat) (r : Int32) (s' : St) (h : fX11_requireBand p1 s0 = some ((cR, r), s')) : gMetX l yX11_requireBand cX11_requireBand 1 none 1 6 D (TYS cA) ST (wc cA ad a fr s0) [.int p1] (fun A => gQxv D (TYS cA) A (wc cA ad a fr) cR s') (fun A => gXC D (TYS cA) A (wc cA ad a fr) cR s') := by
  refine g_ofWX hT.1 (by decide +kernel) (Nat.le_of_ble_eq_true rfl) ?_
  intro p e s m args below meth c ls A G hnt hP hD hl
  have G : GC p s m args meth c cX11_requireBand 1 RX11 none A D (TYS cA) ST := G
  have hx := G.1
  have hb := G.2.1
  have hS : va_S A s.heap s.heap [] := va_S.rf
  have hl : lv_has ls 1 [(0, .int p1)] := hl
  unfold fX11_requireBand at h
  refine lv_iload_n hx hb dX11_requireBand_0 rfl (lv_at hl 0 rfl) ?_
  obtain ⟨r1, s2, g3, h⟩ := ob_e h
  refine gg_callSXi (nA := 1) (mX6_isBand l D cA ad adF adW tt a fr ST hT p1 s0 r1 s2 g3) G hP hD hS (g_goodSX q4_11 q3_50 q1_2 q3_51) (by decide +kernel) (by decide) rfl hl.1 [] rfl (Nat.le_of_ble_eq_true rfl) dX11_requireBand_1 (fun H locs hP hD hS => ?_)
  refine lv_if_ne (tgt := 18) hx hb dX11_requireBand_4 (by decide) (fun c4 => ?_) (fun c4 => ?_)
  · replace h := it_f c4 h
    exact gx_retv G hP hD hS h (by decide) dX11_requireBand_18
  · replace h := it_t c4 h
    exact gx_throwW (cE := 1) (E := "java/lang/IllegalArgumentException") (XW := xw1) hlt hSX rfl (by decide) rfl xg1 xl1 xo1 (by decide +kernel) q2_111 q1_23 (List.mem_of_getElem? (i := 18) rfl) rfl G hnt hP hD hS h hl.1 dX11_requireBand_7 dX11_requireBand_10 dX11_requireBand_11 dX11_requireBand_14 dX11_requireBand_17 (by decide) (Nat.le_of_ble_eq_true rfl)
noncomputable def fX11_mesh (p1 : Int32) (s0 : St) : Option ((Nat × Int32) × St) :=
  OX (fX11_requireBand p1 s0) 0 fun r1 s2 =>
  BND p1 8 <|
  some ((0, s2 (0 + 18) p1.toNatClampNeg), s2)
set_option maxHeartbeats 4000000 in
set_option maxRecDepth 100000 in
theorem mX11_mesh (l : Launch) (hlt : l.stackTraces = false) (D : va_G) (cA : Nat → ClassId) (ad adF adW tt a : Nat → Nat) (fr : va_W) (ST : gST) (hT : STE ad adF adW tt ST) (hSX : STX ST) (p1 : Int32) (s0 : St) (cR : Nat) (r : Int32) (s' : St) (h : fX11_mesh p1 s0 = some ((cR, r), s')) : gMetX l yX11_mesh cX11_mesh 2 (some .int) 2 7 D (TYS cA) ST (wc cA ad a fr s0) [.ref (a 209), .int p1] (fun A => gQxi D (TYS cA) A (wc cA ad a fr) cR r s') (fun A => gXC D (TYS cA) A (wc cA ad a fr) cR s') := by
  refine g_ofWX hT.1 (by decide +kernel) (Nat.le_of_ble_eq_true rfl) ?_
  intro p e s m args below meth c ls A G hnt hP hD hl
  have G : GC p s m args meth c cX11_mesh 2 RX11 (some .int) A D (TYS cA) ST := G
  have hx := G.1
  have hb := G.2.1
  have hS : va_S A s.heap s.heap [] := va_S.rf
  have hl : lv_has ls 2 [(0, .ref (a 209)), (1, .int p1)] := hl
  unfold fX11_mesh at h
  refine lv_iload_n hx hb dX11_mesh_0 rfl (lv_at hl 1 rfl) ?_
  obtain ⟨cr1, r1, s2, g3, h⟩ := ox_e h
  refine gx_callSXv (nA := 1) (mX11_requireBand l hlt D cA ad adF adW tt a fr ST hT hSX p1 s0 cr1 r1 s2 g3) G h hnt hP hD hS (g_goodSX q4_8 q4_9 q1_1 q4_10) (by decide +kernel) (by decide) rfl hl.1 [] rfl (Nat.le_of_ble_eq_true rfl) dX11_mesh_1 (fun h H locs hP hD hS => ?_)
  refine lv_aload_n hx hb dX11_mesh_4 rfl (lv_at hl 0 rfl) ?_
  refine gfX11_10 G hP dX11_mesh_5 ?_
  refine gfX11_205 isM_0 G hP dX11_mesh_8 ?_
  refine lv_iload_n hx hb dX11_mesh_11 rfl (lv_at hl 1 rfl) ?_
  obtain ⟨b4, h⟩ := bnd_e h
  refine g_ald (t := 0) (ty := .int) (Or.inl rfl) G hP (0 + 18) (ltM_18 isM_0) (sM_18 isM_0) rfl b4 dX11_mesh_12 ?_
  exact gx_reti G hP hD hS h rfl (by decide) dX11_mesh_13
noncomputable def fX11_requireGrade (p1 : Int32) (s0 : St) : Option ((Nat × Int32) × St) :=
  OB (fX6_isGrade p1 s0) fun r1 s2 =>
  if r1 = 0 then
    some ((1, 0), s2)
  else
    some ((0, 0), s2)
set_option maxHeartbeats 4000000 in
set_option maxRecDepth 100000 in
theorem mX11_requireGrade (l : Launch) (hlt : l.stackTraces = false) (D : va_G) (cA : Nat → ClassId) (ad adF adW tt a : Nat → Nat) (fr : va_W) (ST : gST) (hT : STE ad adF adW tt ST) (hSX : STX ST) (p1 : Int32) (s0 : St) (cR : Nat) (r : Int32) (s' : St) (h : fX11_requireGrade p1 s0 = some ((cR, r), s')) : gMetX l yX11_requireGrade cX11_requireGrade 1 none 1 6 D (TYS cA) ST (wc cA ad a fr s0) [.int p1] (fun A => gQxv D (TYS cA) A (wc cA ad a fr) cR s') (fun A => gXC D (TYS cA) A (wc cA ad a fr) cR s') := by
  refine g_ofWX hT.1 (by decide +kernel) (Nat.le_of_ble_eq_true rfl) ?_
  intro p e s m args below meth c ls A G hnt hP hD hl
  have G : GC p s m args meth c cX11_requireGrade 1 RX11 none A D (TYS cA) ST := G
  have hx := G.1
  have hb := G.2.1
  have hS : va_S A s.heap s.heap [] := va_S.rf
  have hl : lv_has ls 1 [(0, .int p1)] := hl
  unfold fX11_requireGrade at h
  refine lv_iload_n hx hb dX11_requireGrade_0 rfl (lv_at hl 0 rfl) ?_
  obtain ⟨r1, s2, g3, h⟩ := ob_e h
  refine gg_callSXi (nA := 1) (mX6_isGrade l D cA ad adF adW tt a fr ST hT p1 s0 r1 s2 g3) G hP hD hS (g_goodSX q4_20 q4_21 q1_2 q4_22) (by decide +kernel) (by decide) rfl hl.1 [] rfl (Nat.le_of_ble_eq_true rfl) dX11_requireGrade_1 (fun H locs hP hD hS => ?_)
  refine lv_if_ne (tgt := 18) hx hb dX11_requireGrade_4 (by decide) (fun c4 => ?_) (fun c4 => ?_)
  · replace h := it_f c4 h
    exact gx_retv G hP hD hS h (by decide) dX11_requireGrade_18
  · replace h := it_t c4 h
    exact gx_throwW (cE := 1) (E := "java/lang/IllegalArgumentException") (XW := xw1) hlt hSX rfl (by decide) rfl xg1 xl1 xo1 (by decide +kernel) q2_111 q1_23 (List.mem_of_getElem? (i := 19) rfl) rfl G hnt hP hD hS h hl.1 dX11_requireGrade_7 dX11_requireGrade_10 dX11_requireGrade_11 dX11_requireGrade_14 dX11_requireGrade_17 (by decide) (Nat.le_of_ble_eq_true rfl)
noncomputable def fX11_flour (p1 : Int32) (s0 : St) : Option ((Nat × Int32) × St) :=
  OX (fX11_requireGrade p1 s0) 0 fun r1 s2 =>
  BND p1 4 <|
  some ((0, s2 ((0 + 7) + 1) p1.toNatClampNeg), s2)
set_option maxHeartbeats 4000000 in
set_option maxRecDepth 100000 in
theorem mX11_flour (l : Launch) (hlt : l.stackTraces = false) (D : va_G) (cA : Nat → ClassId) (ad adF adW tt a : Nat → Nat) (fr : va_W) (ST : gST) (hT : STE ad adF adW tt ST) (hSX : STX ST) (p1 : Int32) (s0 : St) (cR : Nat) (r : Int32) (s' : St) (h : fX11_flour p1 s0 = some ((cR, r), s')) : gMetX l yX11_flour cX11_flour 2 (some .int) 2 7 D (TYS cA) ST (wc cA ad a fr s0) [.ref (a 209), .int p1] (fun A => gQxi D (TYS cA) A (wc cA ad a fr) cR r s') (fun A => gXC D (TYS cA) A (wc cA ad a fr) cR s') := by
  refine g_ofWX hT.1 (by decide +kernel) (Nat.le_of_ble_eq_true rfl) ?_
  intro p e s m args below meth c ls A G hnt hP hD hl
  have G : GC p s m args meth c cX11_flour 2 RX11 (some .int) A D (TYS cA) ST := G
  have hx := G.1
  have hb := G.2.1
  have hS : va_S A s.heap s.heap [] := va_S.rf
  have hl : lv_has ls 2 [(0, .ref (a 209)), (1, .int p1)] := hl
  unfold fX11_flour at h
  refine lv_iload_n hx hb dX11_flour_0 rfl (lv_at hl 1 rfl) ?_
  obtain ⟨cr1, r1, s2, g3, h⟩ := ox_e h
  refine gx_callSXv (nA := 1) (mX11_requireGrade l hlt D cA ad adF adW tt a fr ST hT hSX p1 s0 cr1 r1 s2 g3) G h hnt hP hD hS (g_goodSX q4_17 q4_18 q1_1 q4_19) (by decide +kernel) (by decide) rfl hl.1 [] rfl (Nat.le_of_ble_eq_true rfl) dX11_flour_1 (fun h H locs hP hD hS => ?_)
  refine lv_aload_n hx hb dX11_flour_4 rfl (lv_at hl 0 rfl) ?_
  refine gfX11_10 G hP dX11_flour_5 ?_
  refine gfX11_208 isM_0 G hP dX11_flour_8 ?_
  refine gfX11_225 (mS isM_0) G hP dX11_flour_11 ?_
  refine lv_iload_n hx hb dX11_flour_14 rfl (lv_at hl 1 rfl) ?_
  obtain ⟨b4, h⟩ := bnd_e h
  refine g_ald (t := 0) (ty := .int) (Or.inl rfl) G hP ((0 + 7) + 1) (ltS_1 (mS isM_0)) (sS_1 (mS isM_0)) rfl b4 dX11_flour_15 ?_
  exact gx_reti G hP hD hS h rfl (by decide) dX11_flour_16
noncomputable def fX11_flourByRecords (nF : Nat) (p1 : Int32) (s0 : St) : Option ((Nat × Int32) × St) :=
  OX (fX11_requireGrade p1 s0) 0 fun r1 s2 =>
  OB (fX9_recordedLessShipped nF (0 + 7) p1 s2) fun r4 s5 =>
  some ((0, r4), s5)
set_option maxHeartbeats 4000000 in
set_option maxRecDepth 100000 in
theorem mX11_flourByRecords (l : Launch) (hlt : l.stackTraces = false) (D : va_G) (cA : Nat → ClassId) (ad adF adW tt a : Nat → Nat) (fr : va_W) (ST : gST) (hT : STE ad adF adW tt ST) (hSX : STX ST) (nF : Nat) (p1 : Int32) (s0 : St) (cR : Nat) (r : Int32) (s' : St) (h : fX11_flourByRecords nF p1 s0 = some ((cR, r), s')) : gMetX l yX11_flourByRecords cX11_flourByRecords 2 (some .int) 2 7 D (TYS cA) ST (wc cA ad a fr s0) [.ref (a 209), .int p1] (fun A => gQxi D (TYS cA) A (wc cA ad a fr) cR r s') (fun A => gXC D (TYS cA) A (wc cA ad a fr) cR s') := by
  refine g_ofWX hT.1 (by decide +kernel) (Nat.le_of_ble_eq_true rfl) ?_
  intro p e s m args below meth c ls A G hnt hP hD hl
  have G : GC p s m args meth c cX11_flourByRecords 2 RX11 (some .int) A D (TYS cA) ST := G
  have hx := G.1
  have hb := G.2.1
  have hS : va_S A s.heap s.heap [] := va_S.rf
  have hl : lv_has ls 2 [(0, .ref (a 209)), (1, .int p1)] := hl
  unfold fX11_flourByRecords at h
  refine lv_iload_n hx hb dX11_flourByRecords_0 rfl (lv_at hl 1 rfl) ?_
  obtain ⟨cr1, r1, s2, g3, h⟩ := ox_e h
  refine gx_callSXv (nA := 1) (mX11_requireGrade l hlt D cA ad adF adW tt a fr ST hT hSX p1 s0 cr1 r1 s2 g3) G h hnt hP hD hS (g_goodSX q4_17 q4_18 q1_1 q4_19) (by decide +kernel) (by decide) rfl hl.1 [] rfl (Nat.le_of_ble_eq_true rfl) dX11_flourByRecords_1 (fun h H locs hP hD hS => ?_)
  refine lv_aload_n hx hb dX11_flourByRecords_4 rfl (lv_at hl 0 rfl) ?_
  refine gfX11_10 G hP dX11_flourByRecords_5 ?_
  refine gfX11_208 isM_0 G hP dX11_flourByRecords_8 ?_
  refine lv_iload_n hx hb dX11_flourByRecords_11 rfl (lv_at hl 1 rfl) ?_
  obtain ⟨r4, s5, g6, h⟩ := ob_e h
  refine gg_callVi (nA := 1) (mX9_recordedLessShipped l D cA ad adF adW tt a fr ST hT nF (0 + 7) (mS isM_0) p1 s2 r4 s5 g6) G hP hD hS (g_good q4_28 q4_29 q4_30 q1_4 q4_31) (by decide +kernel) (by decide) (ltS_0 (mS isM_0)) (sS_0 (mS isM_0)) rfl rfl hl.1 [] rfl (Nat.le_of_ble_eq_true rfl) dX11_flourByRecords_12 (fun H locs hP hD hS => ?_)
  exact gx_reti G hP hD hS h rfl (by decide) dX11_flourByRecords_15
noncomputable def fX11_recorded (p1 : Int32) (p2 : Int32) (s0 : St) : Option ((Nat × Int32) × St) :=
  OX (fX11_requireBand p1 s0) 0 fun r1 s2 =>
  OX (fX11_requireGrade p2 s2) 0 fun r4 s5 =>
  OB (fX9_row p1 p2 s5) fun r7 s8 =>
  BND r7 32 <|
  some ((0, s8 ((0 + 7) + 3) r7.toNatClampNeg), s8)
set_option maxHeartbeats 4000000 in
set_option maxRecDepth 100000 in
theorem mX11_recorded (l : Launch) (hlt : l.stackTraces = false) (D : va_G) (cA : Nat → ClassId) (ad adF adW tt a : Nat → Nat) (fr : va_W) (ST : gST) (hT : STE ad adF adW tt ST) (hSX : STX ST) (p1 : Int32) (p2 : Int32) (s0 : St) (cR : Nat) (r : Int32) (s' : St) (h : fX11_recorded p1 p2 s0 = some ((cR, r), s')) : gMetX l yX11_recorded cX11_recorded 3 (some .int) 2 7 D (TYS cA) ST (wc cA ad a fr s0) [.ref (a 209), .int p1, .int p2] (fun A => gQxi D (TYS cA) A (wc cA ad a fr) cR r s') (fun A => gXC D (TYS cA) A (wc cA ad a fr) cR s') := by
  refine g_ofWX hT.1 (by decide +kernel) (Nat.le_of_ble_eq_true rfl) ?_
  intro p e s m args below meth c ls A G hnt hP hD hl
  have G : GC p s m args meth c cX11_recorded 3 RX11 (some .int) A D (TYS cA) ST := G
  have hx := G.1
  have hb := G.2.1
  have hS : va_S A s.heap s.heap [] := va_S.rf
  have hl : lv_has ls 3 [(0, .ref (a 209)), (1, .int p1), (2, .int p2)] := hl
  unfold fX11_recorded at h
  refine lv_iload_n hx hb dX11_recorded_0 rfl (lv_at hl 1 rfl) ?_
  obtain ⟨cr1, r1, s2, g3, h⟩ := ox_e h
  refine gx_callSXv (nA := 1) (mX11_requireBand l hlt D cA ad adF adW tt a fr ST hT hSX p1 s0 cr1 r1 s2 g3) G h hnt hP hD hS (g_goodSX q4_8 q4_9 q1_1 q4_10) (by decide +kernel) (by decide) rfl hl.1 [] rfl (Nat.le_of_ble_eq_true rfl) dX11_recorded_1 (fun h H locs hP hD hS => ?_)
  refine lv_iload_n hx hb dX11_recorded_4 rfl (lv_at hl 2 rfl) ?_
  obtain ⟨cr4, r4, s5, g6, h⟩ := ox_e h
  refine gx_callSXv (nA := 1) (mX11_requireGrade l hlt D cA ad adF adW tt a fr ST hT hSX p2 s2 cr4 r4 s5 g6) G h hnt hP hD hS (g_goodSX q4_17 q4_18 q1_1 q4_19) (by decide +kernel) (by decide) rfl hl.1 [] rfl (Nat.le_of_ble_eq_true rfl) dX11_recorded_5 (fun h H locs hP hD hS => ?_)
  refine lv_aload_n hx hb dX11_recorded_8 rfl (lv_at hl 0 rfl) ?_
  refine gfX11_10 G hP dX11_recorded_9 ?_
  refine gfX11_208 isM_0 G hP dX11_recorded_12 ?_
  refine gfX11_240 (mS isM_0) G hP dX11_recorded_15 ?_
  refine lv_iload_n hx hb dX11_recorded_18 rfl (lv_at hl 1 rfl) ?_
  refine lv_iload_n hx hb dX11_recorded_19 rfl (lv_at hl 2 rfl) ?_
  obtain ⟨r7, s8, g9, h⟩ := ob_e h
  refine gg_callSXi (nA := 2) (mX9_row l D cA ad adF adW tt a fr ST hT p1 p2 s5 r7 s8 g9) G hP hD hS (g_goodSX q4_36 q3_146 q1_4 q3_147) (by decide +kernel) (by decide) rfl hl.1 [.ref (a ((0 + 7) + 3))] rfl (Nat.le_of_ble_eq_true rfl) dX11_recorded_20 (fun H locs hP hD hS => ?_)
  obtain ⟨b10, h⟩ := bnd_e h
  refine g_ald (t := 0) (ty := .int) (Or.inl rfl) G hP ((0 + 7) + 3) (ltS_3 (mS isM_0)) (sS_3 (mS isM_0)) rfl b10 dX11_recorded_23 ?_
  exact gx_reti G hP hD hS h rfl (by decide) dX11_recorded_24
noncomputable def fX11_requireSteps (p1 : Int32) (s0 : St) : Option ((Nat × Int32) × St) :=
  if p1 = (-1) then
    some ((3, 0), s0)
  else
    some ((0, p1), s0)
set_option maxHeartbeats 4000000 in
set_option maxRecDepth 100000 in
theorem mX11_requireSteps (l : Launch) (hlt : l.stackTraces = false) (D : va_G) (cA : Nat → ClassId) (ad adF adW tt a : Nat → Nat) (fr : va_W) (ST : gST) (hT : STE ad adF adW tt ST) (hSX : STX ST) (p1 : Int32) (s0 : St) (cR : Nat) (r : Int32) (s' : St) (h : fX11_requireSteps p1 s0 = some ((cR, r), s')) : gMetX l yX11_requireSteps cX11_requireSteps 1 (some .int) 1 6 D (TYS cA) ST (wc cA ad a fr s0) [.int p1] (fun A => gQxi D (TYS cA) A (wc cA ad a fr) cR r s') (fun A => gXC D (TYS cA) A (wc cA ad a fr) cR s') := by
  refine g_ofWX hT.1 (by decide +kernel) (Nat.le_of_ble_eq_true rfl) ?_
  intro p e s m args below meth c ls A G hnt hP hD hl
  have G : GC p s m args meth c cX11_requireSteps 1 RX11 (some .int) A D (TYS cA) ST := G
  have hx := G.1
  have hb := G.2.1
  have hS : va_S A s.heap s.heap [] := va_S.rf
  have hl : lv_has ls 1 [(0, .int p1)] := hl
  unfold fX11_requireSteps at h
  refine lv_iload_n hx hb dX11_requireSteps_0 rfl (lv_at hl 0 rfl) ?_
  refine lv_iconst (v := (-1)) hx hb dX11_requireSteps_1 (by decide) ?_
  refine lv_icmp_ne (tgt := 16) hx hb dX11_requireSteps_2 (by decide) (fun c1 => ?_) (fun c1 => ?_)
  · replace h := it_f c1 h
    refine lv_iload_n hx hb dX11_requireSteps_16 rfl (lv_at hl 0 rfl) ?_
    exact gx_reti G hP hD hS h rfl (by decide) dX11_requireSteps_17
  · replace h := it_t c1 h
    exact gx_throwNW (cE := 3) (E := "java/util/NoSuchElementException") (XW := xw3) hlt hSX rfl (by decide) rfl rfl xg3 xl3 xo3 (by decide +kernel) q2_198 q1_24 (List.mem_of_getElem? (i := 21) rfl) rfl G hnt hP hD hS h hl.1 dX11_requireSteps_5 dX11_requireSteps_8 dX11_requireSteps_9 dX11_requireSteps_12 dX11_requireSteps_15 (by decide) (Nat.le_of_ble_eq_true rfl)
noncomputable def fX11_stepsUntilJam (nF : Nat) (p1 : Int32) (s0 : St) : Option ((Nat × Int32) × St) :=
  OX (fX11_requireWheel p1 s0) 0 fun r1 s2 =>
  OB (fX11_simulateJam nF p1 s2) fun r4 s5 =>
  OX (fX11_requireSteps r4 s5) 0 fun r7 s8 =>
  some ((0, r7), s8)
set_option maxHeartbeats 4000000 in
set_option maxRecDepth 100000 in
theorem mX11_stepsUntilJam (l : Launch) (hlt : l.stackTraces = false) (D : va_G) (cA : Nat → ClassId) (ad adF adW tt a : Nat → Nat) (fr : va_W) (ST : gST) (hT : STE ad adF adW tt ST) (hSX : STX ST) (nF : Nat) (p1 : Int32) (s0 : St) (cR : Nat) (r : Int32) (s' : St) (h : fX11_stepsUntilJam nF p1 s0 = some ((cR, r), s')) : gMetX l yX11_stepsUntilJam cX11_stepsUntilJam 2 (some .int) 2 7 D (TYS cA) ST (wc cA ad a fr s0) [.ref (a 209), .int p1] (fun A => gQxi D (TYS cA) A (wc cA ad a fr) cR r s') (fun A => gXC D (TYS cA) A (wc cA ad a fr) cR s') := by
  refine g_ofWX hT.1 (by decide +kernel) (Nat.le_of_ble_eq_true rfl) ?_
  intro p e s m args below meth c ls A G hnt hP hD hl
  have G : GC p s m args meth c cX11_stepsUntilJam 2 RX11 (some .int) A D (TYS cA) ST := G
  have hx := G.1
  have hb := G.2.1
  have hS : va_S A s.heap s.heap [] := va_S.rf
  have hl : lv_has ls 2 [(0, .ref (a 209)), (1, .int p1)] := hl
  unfold fX11_stepsUntilJam at h
  refine lv_iload_n hx hb dX11_stepsUntilJam_0 rfl (lv_at hl 1 rfl) ?_
  obtain ⟨cr1, r1, s2, g3, h⟩ := ox_e h
  refine gx_callSXv (nA := 1) (mX11_requireWheel l hlt D cA ad adF adW tt a fr ST hT hSX p1 s0 cr1 r1 s2 g3) G h hnt hP hD hS (g_goodSX q3_224 q3_225 q1_1 q3_226) (by decide +kernel) (by decide) rfl hl.1 [] rfl (Nat.le_of_ble_eq_true rfl) dX11_stepsUntilJam_1 (fun h H locs hP hD hS => ?_)
  refine lv_aload_n hx hb dX11_stepsUntilJam_4 rfl (lv_at hl 0 rfl) ?_
  refine lv_iload_n hx hb dX11_stepsUntilJam_5 rfl (lv_at hl 1 rfl) ?_
  obtain ⟨r4, s5, g6, h⟩ := ob_e h
  refine gg_callVi (nA := 1) (mX11_simulateJam l D cA ad adF adW tt a fr ST hT nF p1 s2 r4 s5 g6) G hP hD hS (g_good q4_61 q4_63 qs_6 q1_1 q4_64) (by decide +kernel) (by decide) (by decide) sc_209 rfl rfl hl.1 [] rfl (Nat.le_of_ble_eq_true rfl) dX11_stepsUntilJam_6 (fun H locs hP hD hS => ?_)
  obtain ⟨cr7, r7, s8, g9, h⟩ := ox_e h
  refine gx_callSXi (nA := 1) (mX11_requireSteps l hlt D cA ad adF adW tt a fr ST hT hSX r4 s5 cr7 r7 s8 g9) G h hnt hP hD hS (g_goodSX q4_66 q4_67 q1_1 q4_68) (by decide +kernel) (by decide) rfl hl.1 [] rfl (Nat.le_of_ble_eq_true rfl) dX11_stepsUntilJam_9 (fun h H locs hP hD hS => ?_)
  exact gx_reti G hP hD hS h rfl (by decide) dX11_stepsUntilJam_12
noncomputable def fX11_groundWithin (nF : Nat) (p1 : Int32) (s0 : St) : Option ((Nat × Int32) × St) :=
  if p1 < 0 then
    some ((1, 0), s0)
  else
    if p1 ≤ 60 then
      OB (fX6_copyFrom nF 19 0 s0) fun r3 s4 =>
      OB (fX6_pass nF 19 p1 s4) fun r6 s7 =>
      some ((0, r6), s7)
    else
      some ((1, 0), s0)
set_option maxHeartbeats 4000000 in
set_option maxRecDepth 100000 in
theorem mX11_groundWithin (l : Launch) (hlt : l.stackTraces = false) (D : va_G) (cA : Nat → ClassId) (ad adF adW tt a : Nat → Nat) (fr : va_W) (ST : gST) (hT : STE ad adF adW tt ST) (hSX : STX ST) (nF : Nat) (p1 : Int32) (s0 : St) (cR : Nat) (r : Int32) (s' : St) (h : fX11_groundWithin nF p1 s0 = some ((cR, r), s')) : gMetX l yX11_groundWithin cX11_groundWithin 2 (some .int) 2 6 D (TYS cA) ST (wc cA ad a fr s0) [.ref (a 209), .int p1] (fun A => gQxi D (TYS cA) A (wc cA ad a fr) cR r s') (fun A => gXC D (TYS cA) A (wc cA ad a fr) cR s') := by
  refine g_ofWX hT.1 (by decide +kernel) (Nat.le_of_ble_eq_true rfl) ?_
  intro p e s m args below meth c ls A G hnt hP hD hl
  have G : GC p s m args meth c cX11_groundWithin 2 RX11 (some .int) A D (TYS cA) ST := G
  have hx := G.1
  have hb := G.2.1
  have hS : va_S A s.heap s.heap [] := va_S.rf
  have hl : lv_has ls 2 [(0, .ref (a 209)), (1, .int p1)] := hl
  unfold fX11_groundWithin at h
  refine lv_iload_n hx hb dX11_groundWithin_0 rfl (lv_at hl 1 rfl) ?_
  refine lv_if_lt (tgt := 10) hx hb dX11_groundWithin_1 (by decide) (fun c1 => ?_) (fun c1 => ?_)
  · replace h := it_t c1 h
    exact gx_throwW (cE := 1) (E := "java/lang/IllegalArgumentException") (XW := xw1) hlt hSX rfl (by decide) rfl xg1 xl1 xo1 (by decide +kernel) q2_111 q1_23 (List.mem_of_getElem? (i := 4) rfl) rfl G hnt hP hD hS h hl.1 dX11_groundWithin_10 dX11_groundWithin_13 dX11_groundWithin_14 dX11_groundWithin_17 dX11_groundWithin_20 (by decide) (Nat.le_of_ble_eq_true rfl)
  · replace h := it_f c1 h
    refine lv_iload_n hx hb dX11_groundWithin_4 rfl (lv_at hl 1 rfl) ?_
    refine lv_bipush (v := 60) hx hb dX11_groundWithin_5 (by decide) ?_
    refine lv_icmp_le (tgt := 21) hx hb dX11_groundWithin_7 (by decide) (fun c2 => ?_) (fun c2 => ?_)
    · replace h := it_t c2 h
      refine lv_aload_n hx hb dX11_groundWithin_21 rfl (lv_at hl 0 rfl) ?_
      refine gfX11_16 G hP dX11_groundWithin_22 ?_
      refine lv_aload_n hx hb dX11_groundWithin_25 rfl (lv_at hl 0 rfl) ?_
      refine gfX11_10 G hP dX11_groundWithin_26 ?_
      obtain ⟨r3, s4, g5, h⟩ := ob_e h
      refine gg_callVv (nA := 1) (mX6_copyFrom l D cA ad adF adW tt a fr ST hT nF 19 0 isM_19 isM_0 s0 r3 s4 g5) G hP hD hS (g_good q4_65 q3_11 q3_12 q1_2 q3_13) (by decide +kernel) (by decide) (ltM_0 isM_19) (sM_0 isM_19) rfl rfl hl.1 [] rfl (Nat.le_of_ble_eq_true rfl) dX11_groundWithin_29 (fun H locs hP hD hS => ?_)
      refine lv_aload_n hx hb dX11_groundWithin_32 rfl (lv_at hl 0 rfl) ?_
      refine gfX11_16 G hP dX11_groundWithin_33 ?_
      refine lv_iload_n hx hb dX11_groundWithin_36 rfl (lv_at hl 1 rfl) ?_
      obtain ⟨r6, s7, g8, h⟩ := ob_e h
      refine gg_callVi (nA := 1) (mX6_pass l D cA ad adF adW tt a fr ST hT nF 19 isM_19 p1 s4 r6 s7 g8) G hP hD hS (g_good q3_110 q3_111 q3_112 q1_2 q3_113) (by decide +kernel) (by decide) (ltM_0 isM_19) (sM_0 isM_19) rfl rfl hl.1 [] rfl (Nat.le_of_ble_eq_true rfl) dX11_groundWithin_37 (fun H locs hP hD hS => ?_)
      exact gx_reti G hP hD hS h rfl (by decide) dX11_groundWithin_40
    · replace h := it_f c2 h
      exact gx_throwW (cE := 1) (E := "java/lang/IllegalArgumentException") (XW := xw1) hlt hSX rfl (by decide) rfl xg1 xl1 xo1 (by decide +kernel) q2_111 q1_23 (List.mem_of_getElem? (i := 4) rfl) rfl G hnt hP hD hS h hl.1 dX11_groundWithin_10 dX11_groundWithin_13 dX11_groundWithin_14 dX11_groundWithin_17 dX11_groundWithin_20 (by decide) (Nat.le_of_ble_eq_true rfl)
noncomputable def fX11_requireEntry (p1 : Int32) (s0 : St) : Option ((Nat × Int32) × St) :=
  OB (fX5_rowOf (0 + 12) p1 s0) fun r1 s2 =>
  if r1 = (-1) then
    some ((3, 0), s2)
  else
    some ((0, r1), s2)
set_option maxHeartbeats 4000000 in
set_option maxRecDepth 100000 in
theorem mX11_requireEntry (l : Launch) (hlt : l.stackTraces = false) (D : va_G) (cA : Nat → ClassId) (ad adF adW tt a : Nat → Nat) (fr : va_W) (ST : gST) (hT : STE ad adF adW tt ST) (hSX : STX ST) (p1 : Int32) (s0 : St) (cR : Nat) (r : Int32) (s' : St) (h : fX11_requireEntry p1 s0 = some ((cR, r), s')) : gMetX l yX11_requireEntry cX11_requireEntry 3 (some .int) 1 6 D (TYS cA) ST (wc cA ad a fr s0) [.ref (a 209), .int p1] (fun A => gQxi D (TYS cA) A (wc cA ad a fr) cR r s') (fun A => gXC D (TYS cA) A (wc cA ad a fr) cR s') := by
  refine g_ofWX hT.1 (by decide +kernel) (Nat.le_of_ble_eq_true rfl) ?_
  intro p e s m args below meth c ls A G hnt hP hD hl
  have G : GC p s m args meth c cX11_requireEntry 3 RX11 (some .int) A D (TYS cA) ST := G
  have hx := G.1
  have hb := G.2.1
  have hS : va_S A s.heap s.heap [] := va_S.rf
  have hl : lv_has ls 3 [(0, .ref (a 209)), (1, .int p1)] := hl
  unfold fX11_requireEntry at h
  refine lv_aload_n hx hb dX11_requireEntry_0 rfl (lv_at hl 0 rfl) ?_
  refine gfX11_10 G hP dX11_requireEntry_1 ?_
  refine gfX11_278 isM_0 G hP dX11_requireEntry_4 ?_
  refine lv_iload_n hx hb dX11_requireEntry_7 rfl (lv_at hl 1 rfl) ?_
  obtain ⟨r1, s2, g3, h⟩ := ob_e h
  refine gg_callVi (nA := 1) (mX5_rowOf l D cA ad adF adW tt a fr ST hT (0 + 12) (mL isM_0) p1 s0 r1 s2 g3) G hP hD hS (g_good q4_87 q4_88 q4_89 q1_5 q4_90) (by decide +kernel) (by decide) (ltL_0 (mL isM_0)) (sL_0 (mL isM_0)) rfl rfl hl.1 [] rfl (Nat.le_of_ble_eq_true rfl) dX11_requireEntry_8 (fun H locs hP hD hS => ?_)
  refine lv_istore_n (lv' := [(2, .int r1), (0, .ref (a 209)), (1, .int p1)]) hx hb dX11_requireEntry_11 rfl hl (by decide) rfl (fun ls hl => ?_)
  refine lv_iload_n hx hb dX11_requireEntry_12 rfl (lv_at hl 0 rfl) ?_
  refine lv_iconst (v := (-1)) hx hb dX11_requireEntry_13 (by decide) ?_
  refine lv_icmp_ne (tgt := 28) hx hb dX11_requireEntry_14 (by decide) (fun c4 => ?_) (fun c4 => ?_)
  · replace h := it_f c4 h
    refine lv_iload_n hx hb dX11_requireEntry_28 rfl (lv_at hl 0 rfl) ?_
    exact gx_reti G hP hD hS h rfl (by decide) dX11_requireEntry_29
  · replace h := it_t c4 h
    exact gx_throwNW (cE := 3) (E := "java/util/NoSuchElementException") (XW := xw3) hlt hSX rfl (by decide) rfl rfl xg3 xl3 xo3 (by decide +kernel) q2_198 q1_24 (List.mem_of_getElem? (i := 20) rfl) rfl G hnt hP hD hS h hl.1 dX11_requireEntry_17 dX11_requireEntry_20 dX11_requireEntry_21 dX11_requireEntry_24 dX11_requireEntry_27 (by decide) (Nat.le_of_ble_eq_true rfl)
noncomputable def fX11_doneNumber (p1 : Int32) (s0 : St) : Option ((Nat × Int32) × St) :=
  OX (fX11_requireEntry p1 s0) 0 fun r1 s2 =>
  BND r1 8 <|
  some ((0, s2 ((0 + 12) + 1) r1.toNatClampNeg), s2)
set_option maxHeartbeats 4000000 in
set_option maxRecDepth 100000 in
theorem mX11_doneNumber (l : Launch) (hlt : l.stackTraces = false) (D : va_G) (cA : Nat → ClassId) (ad adF adW tt a : Nat → Nat) (fr : va_W) (ST : gST) (hT : STE ad adF adW tt ST) (hSX : STX ST) (p1 : Int32) (s0 : St) (cR : Nat) (r : Int32) (s' : St) (h : fX11_doneNumber p1 s0 = some ((cR, r), s')) : gMetX l yX11_doneNumber cX11_doneNumber 2 (some .int) 2 7 D (TYS cA) ST (wc cA ad a fr s0) [.ref (a 209), .int p1] (fun A => gQxi D (TYS cA) A (wc cA ad a fr) cR r s') (fun A => gXC D (TYS cA) A (wc cA ad a fr) cR s') := by
  refine g_ofWX hT.1 (by decide +kernel) (Nat.le_of_ble_eq_true rfl) ?_
  intro p e s m args below meth c ls A G hnt hP hD hl
  have G : GC p s m args meth c cX11_doneNumber 2 RX11 (some .int) A D (TYS cA) ST := G
  have hx := G.1
  have hb := G.2.1
  have hS : va_S A s.heap s.heap [] := va_S.rf
  have hl : lv_has ls 2 [(0, .ref (a 209)), (1, .int p1)] := hl
  unfold fX11_doneNumber at h
  refine lv_aload_n hx hb dX11_doneNumber_0 rfl (lv_at hl 0 rfl) ?_
  refine gfX11_10 G hP dX11_doneNumber_1 ?_
  refine gfX11_278 isM_0 G hP dX11_doneNumber_4 ?_
  refine gfX11_287 (mL isM_0) G hP dX11_doneNumber_7 ?_
  refine lv_aload_n hx hb dX11_doneNumber_10 rfl (lv_at hl 0 rfl) ?_
  refine lv_iload_n hx hb dX11_doneNumber_11 rfl (lv_at hl 1 rfl) ?_
  obtain ⟨cr1, r1, s2, g3, h⟩ := ox_e h
  refine gx_callVi (nA := 1) (mX11_requireEntry l hlt D cA ad adF adW tt a fr ST hT hSX p1 s0 cr1 r1 s2 g3) G h hnt hP hD hS (g_good q4_83 q4_85 qs_7 q1_1 q4_86) (by decide +kernel) (by decide) (by decide) sc_209 rfl rfl hl.1 [.ref (a ((0 + 12) + 1))] rfl (Nat.le_of_ble_eq_true rfl) dX11_doneNumber_12 (fun h H locs hP hD hS => ?_)
  obtain ⟨b4, h⟩ := bnd_e h
  refine g_ald (t := 0) (ty := .int) (Or.inl rfl) G hP ((0 + 12) + 1) (ltL_1 (mL isM_0)) (sL_1 (mL isM_0)) rfl b4 dX11_doneNumber_15 ?_
  exact gx_reti G hP hD hS h rfl (by decide) dX11_doneNumber_16
noncomputable def fX11_doneWheel (p1 : Int32) (s0 : St) : Option ((Nat × Int32) × St) :=
  OX (fX11_requireEntry p1 s0) 0 fun r1 s2 =>
  BND r1 8 <|
  some ((0, s2 ((0 + 12) + 2) r1.toNatClampNeg), s2)
set_option maxHeartbeats 4000000 in
set_option maxRecDepth 100000 in
theorem mX11_doneWheel (l : Launch) (hlt : l.stackTraces = false) (D : va_G) (cA : Nat → ClassId) (ad adF adW tt a : Nat → Nat) (fr : va_W) (ST : gST) (hT : STE ad adF adW tt ST) (hSX : STX ST) (p1 : Int32) (s0 : St) (cR : Nat) (r : Int32) (s' : St) (h : fX11_doneWheel p1 s0 = some ((cR, r), s')) : gMetX l yX11_doneWheel cX11_doneWheel 2 (some .int) 2 7 D (TYS cA) ST (wc cA ad a fr s0) [.ref (a 209), .int p1] (fun A => gQxi D (TYS cA) A (wc cA ad a fr) cR r s') (fun A => gXC D (TYS cA) A (wc cA ad a fr) cR s') := by
  refine g_ofWX hT.1 (by decide +kernel) (Nat.le_of_ble_eq_true rfl) ?_
  intro p e s m args below meth c ls A G hnt hP hD hl
  have G : GC p s m args meth c cX11_doneWheel 2 RX11 (some .int) A D (TYS cA) ST := G
  have hx := G.1
  have hb := G.2.1
  have hS : va_S A s.heap s.heap [] := va_S.rf
  have hl : lv_has ls 2 [(0, .ref (a 209)), (1, .int p1)] := hl
  unfold fX11_doneWheel at h
  refine lv_aload_n hx hb dX11_doneWheel_0 rfl (lv_at hl 0 rfl) ?_
  refine gfX11_10 G hP dX11_doneWheel_1 ?_
  refine gfX11_278 isM_0 G hP dX11_doneWheel_4 ?_
  refine gfX11_291 (mL isM_0) G hP dX11_doneWheel_7 ?_
  refine lv_aload_n hx hb dX11_doneWheel_10 rfl (lv_at hl 0 rfl) ?_
  refine lv_iload_n hx hb dX11_doneWheel_11 rfl (lv_at hl 1 rfl) ?_
  obtain ⟨cr1, r1, s2, g3, h⟩ := ox_e h
  refine gx_callVi (nA := 1) (mX11_requireEntry l hlt D cA ad adF adW tt a fr ST hT hSX p1 s0 cr1 r1 s2 g3) G h hnt hP hD hS (g_good q4_83 q4_85 qs_7 q1_1 q4_86) (by decide +kernel) (by decide) (by decide) sc_209 rfl rfl hl.1 [.ref (a ((0 + 12) + 2))] rfl (Nat.le_of_ble_eq_true rfl) dX11_doneWheel_12 (fun h H locs hP hD hS => ?_)
  obtain ⟨b4, h⟩ := bnd_e h
  refine g_ald (t := 0) (ty := .int) (Or.inl rfl) G hP ((0 + 12) + 2) (ltL_2 (mL isM_0)) (sL_2 (mL isM_0)) rfl b4 dX11_doneWheel_15 ?_
  exact gx_reti G hP hD hS h rfl (by decide) dX11_doneWheel_16
noncomputable def fX11_doneTime (p1 : Int32) (s0 : St) : Option ((Nat × Int32) × St) :=
  OX (fX11_requireEntry p1 s0) 0 fun r1 s2 =>
  BND r1 8 <|
  some ((0, s2 ((0 + 12) + 3) r1.toNatClampNeg), s2)
set_option maxHeartbeats 4000000 in
set_option maxRecDepth 100000 in
theorem mX11_doneTime (l : Launch) (hlt : l.stackTraces = false) (D : va_G) (cA : Nat → ClassId) (ad adF adW tt a : Nat → Nat) (fr : va_W) (ST : gST) (hT : STE ad adF adW tt ST) (hSX : STX ST) (p1 : Int32) (s0 : St) (cR : Nat) (r : Int32) (s' : St) (h : fX11_doneTime p1 s0 = some ((cR, r), s')) : gMetX l yX11_doneTime cX11_doneTime 2 (some .int) 2 7 D (TYS cA) ST (wc cA ad a fr s0) [.ref (a 209), .int p1] (fun A => gQxi D (TYS cA) A (wc cA ad a fr) cR r s') (fun A => gXC D (TYS cA) A (wc cA ad a fr) cR s') := by
  refine g_ofWX hT.1 (by decide +kernel) (Nat.le_of_ble_eq_true rfl) ?_
  intro p e s m args below meth c ls A G hnt hP hD hl
  have G : GC p s m args meth c cX11_doneTime 2 RX11 (some .int) A D (TYS cA) ST := G
  have hx := G.1
  have hb := G.2.1
  have hS : va_S A s.heap s.heap [] := va_S.rf
  have hl : lv_has ls 2 [(0, .ref (a 209)), (1, .int p1)] := hl
  unfold fX11_doneTime at h
  refine lv_aload_n hx hb dX11_doneTime_0 rfl (lv_at hl 0 rfl) ?_
  refine gfX11_10 G hP dX11_doneTime_1 ?_
  refine gfX11_278 isM_0 G hP dX11_doneTime_4 ?_
  refine gfX11_294 (mL isM_0) G hP dX11_doneTime_7 ?_
  refine lv_aload_n hx hb dX11_doneTime_10 rfl (lv_at hl 0 rfl) ?_
  refine lv_iload_n hx hb dX11_doneTime_11 rfl (lv_at hl 1 rfl) ?_
  obtain ⟨cr1, r1, s2, g3, h⟩ := ox_e h
  refine gx_callVi (nA := 1) (mX11_requireEntry l hlt D cA ad adF adW tt a fr ST hT hSX p1 s0 cr1 r1 s2 g3) G h hnt hP hD hS (g_good q4_83 q4_85 qs_7 q1_1 q4_86) (by decide +kernel) (by decide) (by decide) sc_209 rfl rfl hl.1 [.ref (a ((0 + 12) + 3))] rfl (Nat.le_of_ble_eq_true rfl) dX11_doneTime_12 (fun h H locs hP hD hS => ?_)
  obtain ⟨b4, h⟩ := bnd_e h
  refine g_ald (t := 0) (ty := .int) (Or.inl rfl) G hP ((0 + 12) + 3) (ltL_3 (mL isM_0)) (sL_3 (mL isM_0)) rfl b4 dX11_doneTime_15 ?_
  exact gx_reti G hP hD hS h rfl (by decide) dX11_doneTime_16
noncomputable def fX11_wheelByWear_L2b (nF : Nat) (K2 : Int32 → Int32 → St → Option ((Nat × Int32) × St)) (x1 : Int32) (x2 : Int32) (s1 : St) : Option ((Nat × Int32) × St) :=
  if 3 ≤ x2 then
    some ((3, 0), s1)
  else
    OB (fX6_countWheelsBefore nF 0 x2 s1) fun r2 s3 =>
    if r2 = x1 then
      some ((0, x2), s3)
    else
      LET (x2 + 1) fun y6 =>
      K2 x1 y6 s3
noncomputable def fX11_wheelByWear_L2 (nF : Nat) : Nat → Int32 → Int32 → St → Option ((Nat × Int32) × St) := fun k_ => Nat.rec (fun _ _ _ => none) (fun _ K => fX11_wheelByWear_L2b nF K) k_
theorem fX11_wheelByWear_L2_s (nF : Nat) (k_ : Nat) : fX11_wheelByWear_L2 nF (k_ + 1) = fX11_wheelByWear_L2b nF (fX11_wheelByWear_L2 nF k_) := rfl
noncomputable def fX11_wheelByWear (nF : Nat) (p1 : Int32) (s0 : St) : Option ((Nat × Int32) × St) :=
  fX11_wheelByWear_L2 nF nF p1 0 s0
set_option maxHeartbeats 4000000 in
set_option maxRecDepth 100000 in
theorem mX11_wheelByWear (l : Launch) (hlt : l.stackTraces = false) (D : va_G) (cA : Nat → ClassId) (ad adF adW tt a : Nat → Nat) (fr : va_W) (ST : gST) (hT : STE ad adF adW tt ST) (hSX : STX ST) (nF : Nat) (p1 : Int32) (s0 : St) (cR : Nat) (r : Int32) (s' : St) (h : fX11_wheelByWear nF p1 s0 = some ((cR, r), s')) : gMetX l yX11_wheelByWear cX11_wheelByWear 3 (some .int) 2 6 D (TYS cA) ST (wc cA ad a fr s0) [.ref (a 209), .int p1] (fun A => gQxi D (TYS cA) A (wc cA ad a fr) cR r s') (fun A => gXC D (TYS cA) A (wc cA ad a fr) cR s') := by
  refine g_ofWX hT.1 (by decide +kernel) (Nat.le_of_ble_eq_true rfl) ?_
  intro p e s m args below meth c ls A G hnt hP hD hl
  have G : GC p s m args meth c cX11_wheelByWear 3 RX11 (some .int) A D (TYS cA) ST := G
  have hx := G.1
  have hb := G.2.1
  have hS : va_S A s.heap s.heap [] := va_S.rf
  have hl : lv_has ls 3 [(0, .ref (a 209)), (1, .int p1)] := hl
  have hB2 : ∀ (K2 : Int32 → Int32 → St → Option ((Nat × Int32) × St)), (∀ (x1 : Int32) (x2 : Int32) (s1 : St), K2 x1 x2 s1 = some ((cR, r), s') → ∀ (H : Heap) (locs : List Loc) (ls : Array Slot), va_P D vwCl (wc cA ad a fr s1) H → va_D A (wc cA ad a fr s1) → va_S A s.heap H locs → lv_has ls 3 [(0, .ref (a 209)), (1, .int x1), (2, .int x2)] → W p l e (RMX 2 6) s m args below meth c H locs 0 0 (vx_MQ below (gQxi D (TYS cA) A (wc cA ad a fr) cR r s') (gXC D (TYS cA) A (wc cA ad a fr) cR s') args s 2 (6 * 2) A) (F0 m 2 ls [])) → ∀ (x1 : Int32) (x2 : Int32) (s1 : St), fX11_wheelByWear_L2b nF K2 x1 x2 s1 = some ((cR, r), s') → ∀ (H : Heap) (locs : List Loc) (ls : Array Slot), va_P D vwCl (wc cA ad a fr s1) H → va_D A (wc cA ad a fr s1) → va_S A s.heap H locs → lv_has ls 3 [(0, .ref (a 209)), (1, .int x1), (2, .int x2)] → W p l e (RMX 2 6) s m args below meth c H locs 0 0 (vx_MQ below (gQxi D (TYS cA) A (wc cA ad a fr) cR r s') (gXC D (TYS cA) A (wc cA ad a fr) cR s') args s 2 (6 * 2) A) (F0 m 2 ls []) := by
    intro K2 hK2 x1 x2 s1 h H locs ls hP hD hS hl
    unfold fX11_wheelByWear_L2b at h
    refine lv_iload_n hx hb dX11_wheelByWear_2 rfl (lv_at hl 2 rfl) ?_
    refine lv_iconst (v := 3) hx hb dX11_wheelByWear_3 (by decide) ?_
    refine lv_icmp_ge (tgt := 27) hx hb dX11_wheelByWear_4 (by decide) (fun c1 => ?_) (fun c1 => ?_)
    · replace h := it_t c1 h
      exact gx_throwN (cE := 3) (E := "java/util/NoSuchElementException") (XW := xw3) hlt hSX rfl (by decide) rfl rfl xg3 xl3 xo3 (by decide +kernel) q2_198 q1_24 (List.mem_of_getElem? (i := 0) rfl) rfl G hnt hP hD hS h hl.1 dX11_wheelByWear_27 dX11_wheelByWear_30 dX11_wheelByWear_31 dX11_wheelByWear_33 dX11_wheelByWear_36 (by decide) (Nat.le_of_ble_eq_true rfl)
    · replace h := it_f c1 h
      refine lv_aload_n hx hb dX11_wheelByWear_7 rfl (lv_at hl 0 rfl) ?_
      refine gfX11_10 G hP dX11_wheelByWear_8 ?_
      refine lv_iload_n hx hb dX11_wheelByWear_11 rfl (lv_at hl 2 rfl) ?_
      obtain ⟨r2, s3, g4, h⟩ := ob_e h
      refine gg_callVi (nA := 1) (mX6_countWheelsBefore l D cA ad adF adW tt a fr ST hT nF 0 isM_0 x2 s1 r2 s3 g4) G hP hD hS (g_good q4_104 q4_105 q4_106 q1_2 q4_107) (by decide +kernel) (by decide) (ltM_0 isM_0) (sM_0 isM_0) rfl rfl hl.1 [] rfl (Nat.le_of_ble_eq_true rfl) dX11_wheelByWear_12 (fun H locs hP hD hS => ?_)
      refine lv_iload_n hx hb dX11_wheelByWear_15 rfl (lv_at hl 1 rfl) ?_
      refine lv_icmp_ne (tgt := 21) hx hb dX11_wheelByWear_16 (by decide) (fun c5 => ?_) (fun c5 => ?_)
      · replace h := it_f c5 h
        obtain ⟨y6, ey6⟩ : ∃ y : Int32, y = x2 + 1 := ⟨_, rfl⟩
        replace h := let_e ey6 h
        refine lv_iinc (v := y6) (lv' := [(2, .int y6), (0, .ref (a 209)), (1, .int x1)]) hx hb dX11_wheelByWear_21 hl (k := 2) rfl (by rw [ey6]; rfl) (by decide) rfl (fun ls hl => ?_)
        refine lv_goto (tgt := 2) hx hb dX11_wheelByWear_24 (by decide) ?_
        exact hK2 x1 y6 s3 h _ _ ls hP hD hS (lv_sub hl [1, 2, 0] rfl)
      · replace h := it_t c5 h
        refine lv_iload_n hx hb dX11_wheelByWear_19 rfl (lv_at hl 2 rfl) ?_
        exact gx_reti G hP hD hS h rfl (by decide) dX11_wheelByWear_20
  have hL2 : ∀ k_ : Nat, ∀ (x1 : Int32) (x2 : Int32) (s1 : St), fX11_wheelByWear_L2 nF k_ x1 x2 s1 = some ((cR, r), s') → ∀ (H : Heap) (locs : List Loc) (ls : Array Slot), va_P D vwCl (wc cA ad a fr s1) H → va_D A (wc cA ad a fr s1) → va_S A s.heap H locs → lv_has ls 3 [(0, .ref (a 209)), (1, .int x1), (2, .int x2)] → W p l e (RMX 2 6) s m args below meth c H locs 0 0 (vx_MQ below (gQxi D (TYS cA) A (wc cA ad a fr) cR r s') (gXC D (TYS cA) A (wc cA ad a fr) cR s') args s 2 (6 * 2) A) (F0 m 2 ls []) := by
    intro k_
    induction k_ with
    | zero => intro x1 x2 s1 h; cases h
    | succ k_ ih => exact hB2 (fX11_wheelByWear_L2 nF k_) ih
  unfold fX11_wheelByWear at h
  refine lv_iconst (v := 0) hx hb dX11_wheelByWear_0 (by decide) ?_
  refine lv_istore_n (lv' := [(2, .int 0), (0, .ref (a 209)), (1, .int p1)]) hx hb dX11_wheelByWear_1 rfl hl (by decide) rfl (fun ls hl => ?_)
  exact hL2 nF p1 0 s0 h _ _ ls hP hD hS (lv_sub hl [1, 2, 0] rfl)
noncomputable def fX11_bandByGrains_L2b (nF : Nat) (K2 : Int32 → Int32 → St → Option ((Nat × Int32) × St)) (x1 : Int32) (x2 : Int32) (s1 : St) : Option ((Nat × Int32) × St) :=
  if 8 ≤ x2 then
    some ((3, 0), s1)
  else
    OB (fX6_countBandsBefore nF 0 x2 s1) fun r2 s3 =>
    if r2 = x1 then
      some ((0, x2), s3)
    else
      LET (x2 + 1) fun y6 =>
      K2 x1 y6 s3
noncomputable def fX11_bandByGrains_L2 (nF : Nat) : Nat → Int32 → Int32 → St → Option ((Nat × Int32) × St) := fun k_ => Nat.rec (fun _ _ _ => none) (fun _ K => fX11_bandByGrains_L2b nF K) k_
theorem fX11_bandByGrains_L2_s (nF : Nat) (k_ : Nat) : fX11_bandByGrains_L2 nF (k_ + 1) = fX11_bandByGrains_L2b nF (fX11_bandByGrains_L2 nF k_) := rfl
noncomputable def fX11_bandByGrains (nF : Nat) (p1 : Int32) (s0 : St) : Option ((Nat × Int32) × St) :=
  fX11_bandByGrains_L2 nF nF p1 0 s0
set_option maxHeartbeats 4000000 in
set_option maxRecDepth 100000 in
theorem mX11_bandByGrains (l : Launch) (hlt : l.stackTraces = false) (D : va_G) (cA : Nat → ClassId) (ad adF adW tt a : Nat → Nat) (fr : va_W) (ST : gST) (hT : STE ad adF adW tt ST) (hSX : STX ST) (nF : Nat) (p1 : Int32) (s0 : St) (cR : Nat) (r : Int32) (s' : St) (h : fX11_bandByGrains nF p1 s0 = some ((cR, r), s')) : gMetX l yX11_bandByGrains cX11_bandByGrains 3 (some .int) 2 6 D (TYS cA) ST (wc cA ad a fr s0) [.ref (a 209), .int p1] (fun A => gQxi D (TYS cA) A (wc cA ad a fr) cR r s') (fun A => gXC D (TYS cA) A (wc cA ad a fr) cR s') := by
  refine g_ofWX hT.1 (by decide +kernel) (Nat.le_of_ble_eq_true rfl) ?_
  intro p e s m args below meth c ls A G hnt hP hD hl
  have G : GC p s m args meth c cX11_bandByGrains 3 RX11 (some .int) A D (TYS cA) ST := G
  have hx := G.1
  have hb := G.2.1
  have hS : va_S A s.heap s.heap [] := va_S.rf
  have hl : lv_has ls 3 [(0, .ref (a 209)), (1, .int p1)] := hl
  have hB2 : ∀ (K2 : Int32 → Int32 → St → Option ((Nat × Int32) × St)), (∀ (x1 : Int32) (x2 : Int32) (s1 : St), K2 x1 x2 s1 = some ((cR, r), s') → ∀ (H : Heap) (locs : List Loc) (ls : Array Slot), va_P D vwCl (wc cA ad a fr s1) H → va_D A (wc cA ad a fr s1) → va_S A s.heap H locs → lv_has ls 3 [(0, .ref (a 209)), (1, .int x1), (2, .int x2)] → W p l e (RMX 2 6) s m args below meth c H locs 0 0 (vx_MQ below (gQxi D (TYS cA) A (wc cA ad a fr) cR r s') (gXC D (TYS cA) A (wc cA ad a fr) cR s') args s 2 (6 * 2) A) (F0 m 2 ls [])) → ∀ (x1 : Int32) (x2 : Int32) (s1 : St), fX11_bandByGrains_L2b nF K2 x1 x2 s1 = some ((cR, r), s') → ∀ (H : Heap) (locs : List Loc) (ls : Array Slot), va_P D vwCl (wc cA ad a fr s1) H → va_D A (wc cA ad a fr s1) → va_S A s.heap H locs → lv_has ls 3 [(0, .ref (a 209)), (1, .int x1), (2, .int x2)] → W p l e (RMX 2 6) s m args below meth c H locs 0 0 (vx_MQ below (gQxi D (TYS cA) A (wc cA ad a fr) cR r s') (gXC D (TYS cA) A (wc cA ad a fr) cR s') args s 2 (6 * 2) A) (F0 m 2 ls []) := by
    intro K2 hK2 x1 x2 s1 h H locs ls hP hD hS hl
    unfold fX11_bandByGrains_L2b at h
    refine lv_iload_n hx hb dX11_bandByGrains_2 rfl (lv_at hl 2 rfl) ?_
    refine lv_bipush (v := 8) hx hb dX11_bandByGrains_3 (by decide) ?_
    refine lv_icmp_ge (tgt := 28) hx hb dX11_bandByGrains_5 (by decide) (fun c1 => ?_) (fun c1 => ?_)
    · replace h := it_t c1 h
      exact gx_throwN (cE := 3) (E := "java/util/NoSuchElementException") (XW := xw3) hlt hSX rfl (by decide) rfl rfl xg3 xl3 xo3 (by decide +kernel) q2_198 q1_24 (List.mem_of_getElem? (i := 0) rfl) rfl G hnt hP hD hS h hl.1 dX11_bandByGrains_28 dX11_bandByGrains_31 dX11_bandByGrains_32 dX11_bandByGrains_34 dX11_bandByGrains_37 (by decide) (Nat.le_of_ble_eq_true rfl)
    · replace h := it_f c1 h
      refine lv_aload_n hx hb dX11_bandByGrains_8 rfl (lv_at hl 0 rfl) ?_
      refine gfX11_10 G hP dX11_bandByGrains_9 ?_
      refine lv_iload_n hx hb dX11_bandByGrains_12 rfl (lv_at hl 2 rfl) ?_
      obtain ⟨r2, s3, g4, h⟩ := ob_e h
      refine gg_callVi (nA := 1) (mX6_countBandsBefore l D cA ad adF adW tt a fr ST hT nF 0 isM_0 x2 s1 r2 s3 g4) G hP hD hS (g_good q4_116 q4_117 q4_118 q1_2 q4_119) (by decide +kernel) (by decide) (ltM_0 isM_0) (sM_0 isM_0) rfl rfl hl.1 [] rfl (Nat.le_of_ble_eq_true rfl) dX11_bandByGrains_13 (fun H locs hP hD hS => ?_)
      refine lv_iload_n hx hb dX11_bandByGrains_16 rfl (lv_at hl 1 rfl) ?_
      refine lv_icmp_ne (tgt := 22) hx hb dX11_bandByGrains_17 (by decide) (fun c5 => ?_) (fun c5 => ?_)
      · replace h := it_f c5 h
        obtain ⟨y6, ey6⟩ : ∃ y : Int32, y = x2 + 1 := ⟨_, rfl⟩
        replace h := let_e ey6 h
        refine lv_iinc (v := y6) (lv' := [(2, .int y6), (0, .ref (a 209)), (1, .int x1)]) hx hb dX11_bandByGrains_22 hl (k := 2) rfl (by rw [ey6]; rfl) (by decide) rfl (fun ls hl => ?_)
        refine lv_goto (tgt := 2) hx hb dX11_bandByGrains_25 (by decide) ?_
        exact hK2 x1 y6 s3 h _ _ ls hP hD hS (lv_sub hl [1, 2, 0] rfl)
      · replace h := it_t c5 h
        refine lv_iload_n hx hb dX11_bandByGrains_20 rfl (lv_at hl 2 rfl) ?_
        exact gx_reti G hP hD hS h rfl (by decide) dX11_bandByGrains_21
  have hL2 : ∀ k_ : Nat, ∀ (x1 : Int32) (x2 : Int32) (s1 : St), fX11_bandByGrains_L2 nF k_ x1 x2 s1 = some ((cR, r), s') → ∀ (H : Heap) (locs : List Loc) (ls : Array Slot), va_P D vwCl (wc cA ad a fr s1) H → va_D A (wc cA ad a fr s1) → va_S A s.heap H locs → lv_has ls 3 [(0, .ref (a 209)), (1, .int x1), (2, .int x2)] → W p l e (RMX 2 6) s m args below meth c H locs 0 0 (vx_MQ below (gQxi D (TYS cA) A (wc cA ad a fr) cR r s') (gXC D (TYS cA) A (wc cA ad a fr) cR s') args s 2 (6 * 2) A) (F0 m 2 ls []) := by
    intro k_
    induction k_ with
    | zero => intro x1 x2 s1 h; cases h
    | succ k_ ih => exact hB2 (fX11_bandByGrains_L2 nF k_) ih
  unfold fX11_bandByGrains at h
  refine lv_iconst (v := 0) hx hb dX11_bandByGrains_0 (by decide) ?_
  refine lv_istore_n (lv' := [(2, .int 0), (0, .ref (a 209)), (1, .int p1)]) hx hb dX11_bandByGrains_1 rfl hl (by decide) rfl (fun ls hl => ?_)
  exact hL2 nF p1 0 s0 h _ _ ls hP hD hS (lv_sub hl [1, 2, 0] rfl)
noncomputable def fX11_meanLoudness (nF : Nat) (s0 : St) : Option ((Nat × UInt64) × St) :=
  LET (s0 (0 + 1) 5) fun y1 =>
  if 0 < y1 then
    OB (fX7_waitingLoudness nF (0 + 1) s0) fun r3 s4 =>
    ND (FP.ddiv (FP.i2d r3) (FP.i2d y1)) <|
    some ((0, FP.ddiv (FP.i2d r3) (FP.i2d y1)), s4)
  else
    some ((6, 0), s0)
set_option maxHeartbeats 4000000 in
set_option maxRecDepth 100000 in
theorem mX11_meanLoudness (l : Launch) (hlt : l.stackTraces = false) (D : va_G) (cA : Nat → ClassId) (ad adF adW tt a : Nat → Nat) (fr : va_W) (ST : gST) (hT : STE ad adF adW tt ST) (hSX : STX ST) (nF : Nat) (s0 : St) (cR : Nat) (r : UInt64) (s' : St) (h : fX11_meanLoudness nF s0 = some ((cR, r), s')) : gMetX l yX11_meanLoudness cX11_meanLoudness 2 (some .double) 2 6 D (TYS cA) ST (wc cA ad a fr s0) [.ref (a 209)] (fun A => gQxd D (TYS cA) A (wc cA ad a fr) cR r s') (fun A => gXC D (TYS cA) A (wc cA ad a fr) cR s') := by
  refine g_ofWX hT.1 (by decide +kernel) (Nat.le_of_ble_eq_true rfl) ?_
  intro p e s m args below meth c ls A G hnt hP hD hl
  have G : GC p s m args meth c cX11_meanLoudness 2 RX11 (some .double) A D (TYS cA) ST := G
  have hx := G.1
  have hb := G.2.1
  have hS : va_S A s.heap s.heap [] := va_S.rf
  have hl : lv_has ls 2 [(0, .ref (a 209))] := hl
  unfold fX11_meanLoudness at h
  refine lv_aload_n hx hb dX11_meanLoudness_0 rfl (lv_at hl 0 rfl) ?_
  refine gfX11_10 G hP dX11_meanLoudness_1 ?_
  refine gfX11_126 isM_0 G hP dX11_meanLoudness_4 ?_
  refine gfX11_130 (mN isM_0) G hP dX11_meanLoudness_7 ?_
  refine lv_topi (fun y1 ey1 => ?_)
  replace h := let_e ey1 h
  refine lv_istore_n (lv' := [(1, .int y1), (0, .ref (a 209))]) hx hb dX11_meanLoudness_10 rfl hl (by decide) rfl (fun ls hl => ?_)
  refine lv_iload_n hx hb dX11_meanLoudness_11 rfl (lv_at hl 0 rfl) ?_
  refine lv_if_gt (tgt := 26) hx hb dX11_meanLoudness_12 (by decide) (fun c2 => ?_) (fun c2 => ?_)
  · replace h := it_t c2 h
    refine lv_aload_n hx hb dX11_meanLoudness_26 rfl (lv_at hl 1 rfl) ?_
    refine gfX11_10 G hP dX11_meanLoudness_27 ?_
    refine gfX11_126 isM_0 G hP dX11_meanLoudness_30 ?_
    obtain ⟨r3, s4, g5, h⟩ := ob_e h
    refine gg_callVi (nA := 0) (mX7_waitingLoudness l D cA ad adF adW tt a fr ST hT nF (0 + 1) (mN isM_0) s0 r3 s4 g5) G hP hD hS (g_good q4_148 q4_149 q4_150 q1_3 q4_151) (by decide +kernel) (by decide) (ltN_0 (mN isM_0)) (sN_0 (mN isM_0)) rfl rfl hl.1 [] rfl (Nat.le_of_ble_eq_true rfl) dX11_meanLoudness_33 (fun H locs hP hD hS => ?_)
    refine lv_i2d hx hb dX11_meanLoudness_36 ?_
    refine lv_iload_n hx hb dX11_meanLoudness_37 rfl (lv_at hl 0 rfl) ?_
    refine lv_i2d hx hb dX11_meanLoudness_38 ?_
    obtain ⟨b6, h⟩ := nd_e h
    refine lv_ddiv hx hb dX11_meanLoudness_39 b6 ?_
    exact gx_retd G hP hD hS h (by decide) dX11_meanLoudness_40
  · replace h := it_f c2 h
    exact gx_throwW (cE := 6) (E := "java/lang/ArithmeticException") (XW := xw6) hlt hSX rfl (by decide) rfl xg6 xl6 xo6 (by decide +kernel) q4_132 q1_39 (List.mem_of_getElem? (i := 5) rfl) rfl G hnt hP hD hS h hl.1 dX11_meanLoudness_15 dX11_meanLoudness_18 dX11_meanLoudness_19 dX11_meanLoudness_22 dX11_meanLoudness_25 (by decide) (Nat.le_of_ble_eq_true rfl)
noncomputable def fX11_failedCommand (s0 : St) : Option ((Nat × Int32) × St) :=
  if (s0 209 9) = (-1) then
    some ((3, 0), s0)
  else
    some ((0, s0 209 9), s0)
set_option maxHeartbeats 4000000 in
set_option maxRecDepth 100000 in
theorem mX11_failedCommand (l : Launch) (hlt : l.stackTraces = false) (D : va_G) (cA : Nat → ClassId) (ad adF adW tt a : Nat → Nat) (fr : va_W) (ST : gST) (hT : STE ad adF adW tt ST) (hSX : STX ST) (s0 : St) (cR : Nat) (r : Int32) (s' : St) (h : fX11_failedCommand s0 = some ((cR, r), s')) : gMetX l yX11_failedCommand cX11_failedCommand 1 (some .int) 2 6 D (TYS cA) ST (wc cA ad a fr s0) [.ref (a 209)] (fun A => gQxi D (TYS cA) A (wc cA ad a fr) cR r s') (fun A => gXC D (TYS cA) A (wc cA ad a fr) cR s') := by
  refine g_ofWX hT.1 (by decide +kernel) (Nat.le_of_ble_eq_true rfl) ?_
  intro p e s m args below meth c ls A G hnt hP hD hl
  have G : GC p s m args meth c cX11_failedCommand 1 RX11 (some .int) A D (TYS cA) ST := G
  have hx := G.1
  have hb := G.2.1
  have hS : va_S A s.heap s.heap [] := va_S.rf
  have hl : lv_has ls 1 [(0, .ref (a 209))] := hl
  unfold fX11_failedCommand at h
  refine lv_aload_n hx hb dX11_failedCommand_0 rfl (lv_at hl 0 rfl) ?_
  refine gfX11_58 G hP dX11_failedCommand_1 ?_
  refine lv_iconst (v := (-1)) hx hb dX11_failedCommand_4 (by decide) ?_
  refine lv_icmp_ne (tgt := 19) hx hb dX11_failedCommand_5 (by decide) (fun c1 => ?_) (fun c1 => ?_)
  · replace h := it_f c1 h
    refine lv_aload_n hx hb dX11_failedCommand_19 rfl (lv_at hl 0 rfl) ?_
    refine gfX11_58 G hP dX11_failedCommand_20 ?_
    exact gx_reti G hP hD hS h rfl (by decide) dX11_failedCommand_23
  · replace h := it_t c1 h
    exact gx_throwNW (cE := 3) (E := "java/util/NoSuchElementException") (XW := xw3) hlt hSX rfl (by decide) rfl rfl xg3 xl3 xo3 (by decide +kernel) q2_198 q1_24 (List.mem_of_getElem? (i := 10) rfl) rfl G hnt hP hD hS h hl.1 dX11_failedCommand_8 dX11_failedCommand_11 dX11_failedCommand_12 dX11_failedCommand_15 dX11_failedCommand_18 (by decide) (Nat.le_of_ble_eq_true rfl)
noncomputable def fX11_undo (nF : Nat) (s0 : St) : Option ((Nat × Int32) × St) :=
  if 0 < (s0 210 2) then
    OB (fX3_popInto nF 0 s0) fun r2 s3 =>
    some ((0, s3 210 2), s3)
  else
    some ((4, 0), s0)
set_option maxHeartbeats 4000000 in
set_option maxRecDepth 100000 in
theorem mX11_undo (l : Launch) (hlt : l.stackTraces = false) (D : va_G) (cA : Nat → ClassId) (ad adF adW tt a : Nat → Nat) (fr : va_W) (ST : gST) (hT : STE ad adF adW tt ST) (hSX : STX ST) (nF : Nat) (s0 : St) (cR : Nat) (r : Int32) (s' : St) (h : fX11_undo nF s0 = some ((cR, r), s')) : gMetX l yX11_undo cX11_undo 1 (some .int) 2 6 D (TYS cA) ST (wc cA ad a fr s0) [.ref (a 209)] (fun A => gQxi D (TYS cA) A (wc cA ad a fr) cR r s') (fun A => gXC D (TYS cA) A (wc cA ad a fr) cR s') := by
  refine g_ofWX hT.1 (by decide +kernel) (Nat.le_of_ble_eq_true rfl) ?_
  intro p e s m args below meth c ls A G hnt hP hD hl
  have G : GC p s m args meth c cX11_undo 1 RX11 (some .int) A D (TYS cA) ST := G
  have hx := G.1
  have hb := G.2.1
  have hS : va_S A s.heap s.heap [] := va_S.rf
  have hl : lv_has ls 1 [(0, .ref (a 209))] := hl
  unfold fX11_undo at h
  refine lv_aload_n hx hb dX11_undo_0 rfl (lv_at hl 0 rfl) ?_
  refine gfX11_29 G hP dX11_undo_1 ?_
  refine gfX11_379 G hP dX11_undo_4 ?_
  refine lv_if_gt (tgt := 21) hx hb dX11_undo_7 (by decide) (fun c1 => ?_) (fun c1 => ?_)
  · replace h := it_t c1 h
    refine lv_aload_n hx hb dX11_undo_21 rfl (lv_at hl 0 rfl) ?_
    refine gfX11_29 G hP dX11_undo_22 ?_
    refine lv_aload_n hx hb dX11_undo_25 rfl (lv_at hl 0 rfl) ?_
    refine gfX11_10 G hP dX11_undo_26 ?_
    obtain ⟨r2, s3, g4, h⟩ := ob_e h
    refine gg_callVv (nA := 1) (mX3_popInto l D cA ad adF adW tt a fr ST hT nF 0 isM_0 s0 r2 s3 g4) G hP hD hS (g_good q5_98 q5_99 q5_100 q1_6 q5_101) (by decide +kernel) (by decide) (by decide) sc_210 rfl rfl hl.1 [] rfl (Nat.le_of_ble_eq_true rfl) dX11_undo_29 (fun H locs hP hD hS => ?_)
    refine lv_aload_n hx hb dX11_undo_32 rfl (lv_at hl 0 rfl) ?_
    refine gfX11_29 G hP dX11_undo_33 ?_
    refine gfX11_379 G hP dX11_undo_36 ?_
    exact gx_reti G hP hD hS h rfl (by decide) dX11_undo_39
  · replace h := it_f c1 h
    exact gx_throwW (cE := 4) (E := "java/lang/IllegalStateException") (XW := xw4) hlt hSX rfl (by decide) rfl xg4 xl4 xo4 (by decide +kernel) q2_214 q1_25 (List.mem_of_getElem? (i := 11) rfl) rfl G hnt hP hD hS h hl.1 dX11_undo_10 dX11_undo_13 dX11_undo_14 dX11_undo_17 dX11_undo_20 (by decide) (Nat.le_of_ble_eq_true rfl)
noncomputable def fX11_restore (nF : Nat) (s0 : St) : Option ((Nat × Int32) × St) :=
  if (s0 209 3) = 0 then
    some ((4, 0), s0)
  else
    OB (fX6_copyFrom nF 0 38 s0) fun r2 s3 =>
    OB (fX3_forget s3) fun r5 s6 =>
    some ((0, s6 (0 + 1) 5), s6)
set_option maxHeartbeats 4000000 in
set_option maxRecDepth 100000 in
theorem mX11_restore (l : Launch) (hlt : l.stackTraces = false) (D : va_G) (cA : Nat → ClassId) (ad adF adW tt a : Nat → Nat) (fr : va_W) (ST : gST) (hT : STE ad adF adW tt ST) (hSX : STX ST) (nF : Nat) (s0 : St) (cR : Nat) (r : Int32) (s' : St) (h : fX11_restore nF s0 = some ((cR, r), s')) : gMetX l yX11_restore cX11_restore 1 (some .int) 2 6 D (TYS cA) ST (wc cA ad a fr s0) [.ref (a 209)] (fun A => gQxi D (TYS cA) A (wc cA ad a fr) cR r s') (fun A => gXC D (TYS cA) A (wc cA ad a fr) cR s') := by
  refine g_ofWX hT.1 (by decide +kernel) (Nat.le_of_ble_eq_true rfl) ?_
  intro p e s m args below meth c ls A G hnt hP hD hl
  have G : GC p s m args meth c cX11_restore 1 RX11 (some .int) A D (TYS cA) ST := G
  have hx := G.1
  have hb := G.2.1
  have hS : va_S A s.heap s.heap [] := va_S.rf
  have hl : lv_has ls 1 [(0, .ref (a 209))] := hl
  unfold fX11_restore at h
  refine lv_aload_n hx hb dX11_restore_0 rfl (lv_at hl 0 rfl) ?_
  refine gfX11_22 G hP dX11_restore_1 ?_
  refine lv_if_ne (tgt := 18) hx hb dX11_restore_4 (by decide) (fun c1 => ?_) (fun c1 => ?_)
  · replace h := it_f c1 h
    refine lv_aload_n hx hb dX11_restore_18 rfl (lv_at hl 0 rfl) ?_
    refine gfX11_10 G hP dX11_restore_19 ?_
    refine lv_aload_n hx hb dX11_restore_22 rfl (lv_at hl 0 rfl) ?_
    refine gfX11_19 G hP dX11_restore_23 ?_
    obtain ⟨r2, s3, g4, h⟩ := ob_e h
    refine gg_callVv (nA := 1) (mX6_copyFrom l D cA ad adF adW tt a fr ST hT nF 0 38 isM_0 isM_38 s0 r2 s3 g4) G hP hD hS (g_good q4_65 q3_11 q3_12 q1_2 q3_13) (by decide +kernel) (by decide) (ltM_0 isM_0) (sM_0 isM_0) rfl rfl hl.1 [] rfl (Nat.le_of_ble_eq_true rfl) dX11_restore_26 (fun H locs hP hD hS => ?_)
    refine lv_aload_n hx hb dX11_restore_29 rfl (lv_at hl 0 rfl) ?_
    refine gfX11_29 G hP dX11_restore_30 ?_
    obtain ⟨r5, s6, g7, h⟩ := ob_e h
    refine gg_callVv (nA := 0) (mX3_forget l D cA ad adF adW tt a fr ST hT s3 r5 s6 g7) G hP hD hS (g_good q5_111 q5_112 q5_113 q1_6 q5_114) (by decide +kernel) (by decide) (by decide) sc_210 rfl rfl hl.1 [] rfl (Nat.le_of_ble_eq_true rfl) dX11_restore_33 (fun H locs hP hD hS => ?_)
    refine lv_aload_n hx hb dX11_restore_36 rfl (lv_at hl 0 rfl) ?_
    refine gfX11_10 G hP dX11_restore_37 ?_
    refine gfX11_126 isM_0 G hP dX11_restore_40 ?_
    refine gfX11_130 (mN isM_0) G hP dX11_restore_43 ?_
    exact gx_reti G hP hD hS h rfl (by decide) dX11_restore_46
  · replace h := it_t c1 h
    exact gx_throwW (cE := 4) (E := "java/lang/IllegalStateException") (XW := xw4) hlt hSX rfl (by decide) rfl xg4 xl4 xo4 (by decide +kernel) q2_214 q1_25 (List.mem_of_getElem? (i := 12) rfl) rfl G hnt hP hD hS h hl.1 dX11_restore_7 dX11_restore_10 dX11_restore_11 dX11_restore_14 dX11_restore_17 (by decide) (Nat.le_of_ble_eq_true rfl)
noncomputable def fX11_type (p1 : Int32) (s0 : St) : Option ((Nat × Int32) × St) :=
  if p1 < 32 then
    some ((1, 0), s0)
  else
    if p1 ≤ 126 then
      OB (fX8_isFull s0) fun r3 s4 =>
      if r3 = 0 then
        OB (fX8_append p1 s4) fun r7 s8 =>
        some ((0, r7), s8)
      else
        some ((4, 0), s4)
    else
      some ((1, 0), s0)
set_option maxHeartbeats 4000000 in
set_option maxRecDepth 100000 in
theorem mX11_type (l : Launch) (hlt : l.stackTraces = false) (D : va_G) (cA : Nat → ClassId) (ad adF adW tt a : Nat → Nat) (fr : va_W) (ST : gST) (hT : STE ad adF adW tt ST) (hSX : STX ST) (p1 : Int32) (s0 : St) (cR : Nat) (r : Int32) (s' : St) (h : fX11_type p1 s0 = some ((cR, r), s')) : gMetX l yX11_type cX11_type 2 (some .int) 2 6 D (TYS cA) ST (wc cA ad a fr s0) [.ref (a 209), .int p1] (fun A => gQxi D (TYS cA) A (wc cA ad a fr) cR r s') (fun A => gXC D (TYS cA) A (wc cA ad a fr) cR s') := by
  refine g_ofWX hT.1 (by decide +kernel) (Nat.le_of_ble_eq_true rfl) ?_
  intro p e s m args below meth c ls A G hnt hP hD hl
  have G : GC p s m args meth c cX11_type 2 RX11 (some .int) A D (TYS cA) ST := G
  have hx := G.1
  have hb := G.2.1
  have hS : va_S A s.heap s.heap [] := va_S.rf
  have hl : lv_has ls 2 [(0, .ref (a 209)), (1, .int p1)] := hl
  unfold fX11_type at h
  refine lv_iload_n hx hb dX11_type_0 rfl (lv_at hl 1 rfl) ?_
  refine lv_bipush (v := 32) hx hb dX11_type_1 (by decide) ?_
  refine lv_icmp_lt (tgt := 12) hx hb dX11_type_3 (by decide) (fun c1 => ?_) (fun c1 => ?_)
  · replace h := it_t c1 h
    exact gx_throwW (cE := 1) (E := "java/lang/IllegalArgumentException") (XW := xw1) hlt hSX rfl (by decide) rfl xg1 xl1 xo1 (by decide +kernel) q2_111 q1_23 (List.mem_of_getElem? (i := 6) rfl) rfl G hnt hP hD hS h hl.1 dX11_type_12 dX11_type_15 dX11_type_16 dX11_type_19 dX11_type_22 (by decide) (Nat.le_of_ble_eq_true rfl)
  · replace h := it_f c1 h
    refine lv_iload_n hx hb dX11_type_6 rfl (lv_at hl 1 rfl) ?_
    refine lv_bipush (v := 126) hx hb dX11_type_7 (by decide) ?_
    refine lv_icmp_le (tgt := 23) hx hb dX11_type_9 (by decide) (fun c2 => ?_) (fun c2 => ?_)
    · replace h := it_t c2 h
      refine lv_aload_n hx hb dX11_type_23 rfl (lv_at hl 0 rfl) ?_
      refine gfX11_43 G hP dX11_type_24 ?_
      obtain ⟨r3, s4, g5, h⟩ := ob_e h
      refine gg_callVi (nA := 0) (mX8_isFull l D cA ad adF adW tt a fr ST hT s0 r3 s4 g5) G hP hD hS (g_good q5_128 q5_129 q5_130 q1_8 q5_131) (by decide +kernel) (by decide) (by decide) sc_214 rfl rfl hl.1 [] rfl (Nat.le_of_ble_eq_true rfl) dX11_type_27 (fun H locs hP hD hS => ?_)
      refine lv_if_eq (tgt := 44) hx hb dX11_type_30 (by decide) (fun c6 => ?_) (fun c6 => ?_)
      · replace h := it_t c6 h
        refine lv_aload_n hx hb dX11_type_44 rfl (lv_at hl 0 rfl) ?_
        refine gfX11_43 G hP dX11_type_45 ?_
        refine lv_iload_n hx hb dX11_type_48 rfl (lv_at hl 1 rfl) ?_
        obtain ⟨r7, s8, g9, h⟩ := ob_e h
        refine gg_callVi (nA := 1) (mX8_append l D cA ad adF adW tt a fr ST hT p1 s4 r7 s8 g9) G hP hD hS (g_good q5_133 q5_134 q5_135 q1_8 q5_136) (by decide +kernel) (by decide) (by decide) sc_214 rfl rfl hl.1 [] rfl (Nat.le_of_ble_eq_true rfl) dX11_type_49 (fun H locs hP hD hS => ?_)
        exact gx_reti G hP hD hS h rfl (by decide) dX11_type_52
      · replace h := it_f c6 h
        exact gx_throwW (cE := 4) (E := "java/lang/IllegalStateException") (XW := xw4) hlt hSX rfl (by decide) rfl xg4 xl4 xo4 (by decide +kernel) q2_214 q1_25 (List.mem_of_getElem? (i := 7) rfl) rfl G hnt hP hD hS h hl.1 dX11_type_33 dX11_type_36 dX11_type_37 dX11_type_40 dX11_type_43 (by decide) (Nat.le_of_ble_eq_true rfl)
    · replace h := it_f c2 h
      exact gx_throwW (cE := 1) (E := "java/lang/IllegalArgumentException") (XW := xw1) hlt hSX rfl (by decide) rfl xg1 xl1 xo1 (by decide +kernel) q2_111 q1_23 (List.mem_of_getElem? (i := 6) rfl) rfl G hnt hP hD hS h hl.1 dX11_type_12 dX11_type_15 dX11_type_16 dX11_type_19 dX11_type_22 (by decide) (Nat.le_of_ble_eq_true rfl)
noncomputable def fX11_addNoise (nF : Nat) (p1 : Int32) (p2 : Int32) (p3 : Int32) (s0 : St) : Option ((Nat × Int32) × St) :=
  OB (fX6_faultOfAdding 0 p1 p2 p3 s0) fun r1 s2 =>
  BND r1 6 <|
  OX (fX11_refuse r1 s2) 0 fun r5 s6 =>
  OB (fX3_push nF 0 s6) fun r8 s9 =>
  OB (fX6_add 0 p1 p2 p3 s9) fun r11 s12 =>
  some ((0, r11), s12)
set_option maxHeartbeats 4000000 in
set_option maxRecDepth 100000 in
theorem mX11_addNoise (l : Launch) (hlt : l.stackTraces = false) (D : va_G) (cA : Nat → ClassId) (ad adF adW tt a : Nat → Nat) (fr : va_W) (ST : gST) (hT : STE ad adF adW tt ST) (hSX : STX ST) (nF : Nat) (p1 : Int32) (p2 : Int32) (p3 : Int32) (s0 : St) (cR : Nat) (r : Int32) (s' : St) (h : fX11_addNoise nF p1 p2 p3 s0 = some ((cR, r), s')) : gMetX l yX11_addNoise cX11_addNoise 4 (some .int) 2 7 D (TYS cA) ST (wc cA ad a fr s0) [.ref (a 209), .int p1, .int p2, .int p3] (fun A => gQxi D (TYS cA) A (wc cA ad a fr) cR r s') (fun A => gXC D (TYS cA) A (wc cA ad a fr) cR s') := by
  refine g_ofWX hT.1 (by decide +kernel) (Nat.le_of_ble_eq_true rfl) ?_
  intro p e s m args below meth c ls A G hnt hP hD hl
  have G : GC p s m args meth c cX11_addNoise 4 RX11 (some .int) A D (TYS cA) ST := G
  have hx := G.1
  have hb := G.2.1
  have hS : va_S A s.heap s.heap [] := va_S.rf
  have hl : lv_has ls 4 [(0, .ref (a 209)), (1, .int p1), (2, .int p2), (3, .int p3)] := hl
  unfold fX11_addNoise at h
  refine lv_aload_n hx hb dX11_addNoise_0 rfl (lv_at hl 0 rfl) ?_
  refine gfX11_10 G hP dX11_addNoise_1 ?_
  refine lv_iload_n hx hb dX11_addNoise_4 rfl (lv_at hl 1 rfl) ?_
  refine lv_iload_n hx hb dX11_addNoise_5 rfl (lv_at hl 2 rfl) ?_
  refine lv_iload_n hx hb dX11_addNoise_6 rfl (lv_at hl 3 rfl) ?_
  obtain ⟨r1, s2, g3, h⟩ := ob_e h
  refine gg_callVe (nA := 3) (mX6_faultOfAdding l D cA ad adF adW tt a fr ST hT 0 isM_0 p1 p2 p3 s0 r1 s2 g3) G hP hD hS (g_good q5_41 q5_42 q5_43 q1_2 q5_44) (by decide +kernel) (by decide) (ltM_0 isM_0) (sM_0 isM_0) rfl rfl hl.1 [] rfl (Nat.le_of_ble_eq_true rfl) dX11_addNoise_7 (fun H locs hP hD hS => ?_)
  obtain ⟨b4, h⟩ := bnd_e h
  rw [re_some _ (fun q => b4 (Or.inl q))]
  obtain ⟨cr5, r5, s6, g7, h⟩ := ox_e h
  refine gx_callSXv (nA := 1) (mX11_refuse l hlt D cA ad adF adW tt a fr ST hT hSX r1 s2 cr5 r5 s6 g7) G h hnt hP hD hS (g_goodSX q2_100 q2_101 q1_1 q2_102) (by decide +kernel) (by decide) rfl hl.1 [] rfl (Nat.le_of_ble_eq_true rfl) dX11_addNoise_10 (fun h H locs hP hD hS => ?_)
  refine lv_aload_n hx hb dX11_addNoise_13 rfl (lv_at hl 0 rfl) ?_
  refine gfX11_29 G hP dX11_addNoise_14 ?_
  refine lv_aload_n hx hb dX11_addNoise_17 rfl (lv_at hl 0 rfl) ?_
  refine gfX11_10 G hP dX11_addNoise_18 ?_
  obtain ⟨r8, s9, g10, h⟩ := ob_e h
  refine gg_callVv (nA := 1) (mX3_push l D cA ad adF adW tt a fr ST hT nF 0 isM_0 s6 r8 s9 g10) G hP hD hS (g_good q3_6 q3_7 q3_8 q1_6 q3_9) (by decide +kernel) (by decide) (by decide) sc_210 rfl rfl hl.1 [] rfl (Nat.le_of_ble_eq_true rfl) dX11_addNoise_21 (fun H locs hP hD hS => ?_)
  refine lv_aload_n hx hb dX11_addNoise_24 rfl (lv_at hl 0 rfl) ?_
  refine gfX11_10 G hP dX11_addNoise_25 ?_
  refine lv_iload_n hx hb dX11_addNoise_28 rfl (lv_at hl 1 rfl) ?_
  refine lv_iload_n hx hb dX11_addNoise_29 rfl (lv_at hl 2 rfl) ?_
  refine lv_iload_n hx hb dX11_addNoise_30 rfl (lv_at hl 3 rfl) ?_
  obtain ⟨r11, s12, g13, h⟩ := ob_e h
  refine gg_callVi (nA := 3) (mX6_add l D cA ad adF adW tt a fr ST hT 0 isM_0 p1 p2 p3 s9 r11 s12 g13) G hP hD hS (g_good q5_66 q5_67 q5_68 q1_2 q5_69) (by decide +kernel) (by decide) (ltM_0 isM_0) (sM_0 isM_0) rfl rfl hl.1 [] rfl (Nat.le_of_ble_eq_true rfl) dX11_addNoise_31 (fun H locs hP hD hS => ?_)
  exact gx_reti G hP hD hS h rfl (by decide) dX11_addNoise_34
noncomputable def fX11_removeNoise (nF : Nat) (p1 : Int32) (s0 : St) : Option ((Nat × Int32) × St) :=
  OB (fX6_faultOfRemoving nF 0 p1 s0) fun r1 s2 =>
  BND r1 6 <|
  OX (fX11_refuse r1 s2) 0 fun r5 s6 =>
  OB (fX3_push nF 0 s6) fun r8 s9 =>
  OB (fX6_remove nF 0 p1 s9) fun r11 s12 =>
  some ((0, r11), s12)
set_option maxHeartbeats 4000000 in
set_option maxRecDepth 100000 in
theorem mX11_removeNoise (l : Launch) (hlt : l.stackTraces = false) (D : va_G) (cA : Nat → ClassId) (ad adF adW tt a : Nat → Nat) (fr : va_W) (ST : gST) (hT : STE ad adF adW tt ST) (hSX : STX ST) (nF : Nat) (p1 : Int32) (s0 : St) (cR : Nat) (r : Int32) (s' : St) (h : fX11_removeNoise nF p1 s0 = some ((cR, r), s')) : gMetX l yX11_removeNoise cX11_removeNoise 2 (some .int) 2 7 D (TYS cA) ST (wc cA ad a fr s0) [.ref (a 209), .int p1] (fun A => gQxi D (TYS cA) A (wc cA ad a fr) cR r s') (fun A => gXC D (TYS cA) A (wc cA ad a fr) cR s') := by
  refine g_ofWX hT.1 (by decide +kernel) (Nat.le_of_ble_eq_true rfl) ?_
  intro p e s m args below meth c ls A G hnt hP hD hl
  have G : GC p s m args meth c cX11_removeNoise 2 RX11 (some .int) A D (TYS cA) ST := G
  have hx := G.1
  have hb := G.2.1
  have hS : va_S A s.heap s.heap [] := va_S.rf
  have hl : lv_has ls 2 [(0, .ref (a 209)), (1, .int p1)] := hl
  unfold fX11_removeNoise at h
  refine lv_aload_n hx hb dX11_removeNoise_0 rfl (lv_at hl 0 rfl) ?_
  refine gfX11_10 G hP dX11_removeNoise_1 ?_
  refine lv_iload_n hx hb dX11_removeNoise_4 rfl (lv_at hl 1 rfl) ?_
  obtain ⟨r1, s2, g3, h⟩ := ob_e h
  refine gg_callVe (nA := 1) (mX6_faultOfRemoving l D cA ad adF adW tt a fr ST hT nF 0 isM_0 p1 s0 r1 s2 g3) G hP hD hS (g_good q5_45 q5_46 q5_47 q1_2 q5_48) (by decide +kernel) (by decide) (ltM_0 isM_0) (sM_0 isM_0) rfl rfl hl.1 [] rfl (Nat.le_of_ble_eq_true rfl) dX11_removeNoise_5 (fun H locs hP hD hS => ?_)
  obtain ⟨b4, h⟩ := bnd_e h
  rw [re_some _ (fun q => b4 (Or.inl q))]
  obtain ⟨cr5, r5, s6, g7, h⟩ := ox_e h
  refine gx_callSXv (nA := 1) (mX11_refuse l hlt D cA ad adF adW tt a fr ST hT hSX r1 s2 cr5 r5 s6 g7) G h hnt hP hD hS (g_goodSX q2_100 q2_101 q1_1 q2_102) (by decide +kernel) (by decide) rfl hl.1 [] rfl (Nat.le_of_ble_eq_true rfl) dX11_removeNoise_8 (fun h H locs hP hD hS => ?_)
  refine lv_aload_n hx hb dX11_removeNoise_11 rfl (lv_at hl 0 rfl) ?_
  refine gfX11_29 G hP dX11_removeNoise_12 ?_
  refine lv_aload_n hx hb dX11_removeNoise_15 rfl (lv_at hl 0 rfl) ?_
  refine gfX11_10 G hP dX11_removeNoise_16 ?_
  obtain ⟨r8, s9, g10, h⟩ := ob_e h
  refine gg_callVv (nA := 1) (mX3_push l D cA ad adF adW tt a fr ST hT nF 0 isM_0 s6 r8 s9 g10) G hP hD hS (g_good q3_6 q3_7 q3_8 q1_6 q3_9) (by decide +kernel) (by decide) (by decide) sc_210 rfl rfl hl.1 [] rfl (Nat.le_of_ble_eq_true rfl) dX11_removeNoise_19 (fun H locs hP hD hS => ?_)
  refine lv_aload_n hx hb dX11_removeNoise_22 rfl (lv_at hl 0 rfl) ?_
  refine gfX11_10 G hP dX11_removeNoise_23 ?_
  refine lv_iload_n hx hb dX11_removeNoise_26 rfl (lv_at hl 1 rfl) ?_
  obtain ⟨r11, s12, g13, h⟩ := ob_e h
  refine gg_callVi (nA := 1) (mX6_remove l D cA ad adF adW tt a fr ST hT nF 0 isM_0 p1 s9 r11 s12 g13) G hP hD hS (g_good q5_74 q5_75 q5_76 q1_2 q5_77) (by decide +kernel) (by decide) (ltM_0 isM_0) (sM_0 isM_0) rfl rfl hl.1 [] rfl (Nat.le_of_ble_eq_true rfl) dX11_removeNoise_27 (fun H locs hP hD hS => ?_)
  exact gx_reti G hP hD hS h rfl (by decide) dX11_removeNoise_30
noncomputable def fX11_shipSacks (nF : Nat) (p1 : Int32) (p2 : Int32) (s0 : St) : Option ((Nat × Int32) × St) :=
  OB (fX6_faultOfShipping 0 p1 p2 s0) fun r1 s2 =>
  BND r1 6 <|
  OX (fX11_refuse r1 s2) 0 fun r5 s6 =>
  OB (fX3_push nF 0 s6) fun r8 s9 =>
  OB (fX6_ship 0 p1 p2 s9) fun r11 s12 =>
  some ((0, r11), s12)
set_option maxHeartbeats 4000000 in
set_option maxRecDepth 100000 in
theorem mX11_shipSacks (l : Launch) (hlt : l.stackTraces = false) (D : va_G) (cA : Nat → ClassId) (ad adF adW tt a : Nat → Nat) (fr : va_W) (ST : gST) (hT : STE ad adF adW tt ST) (hSX : STX ST) (nF : Nat) (p1 : Int32) (p2 : Int32) (s0 : St) (cR : Nat) (r : Int32) (s' : St) (h : fX11_shipSacks nF p1 p2 s0 = some ((cR, r), s')) : gMetX l yX11_shipSacks cX11_shipSacks 3 (some .int) 2 7 D (TYS cA) ST (wc cA ad a fr s0) [.ref (a 209), .int p1, .int p2] (fun A => gQxi D (TYS cA) A (wc cA ad a fr) cR r s') (fun A => gXC D (TYS cA) A (wc cA ad a fr) cR s') := by
  refine g_ofWX hT.1 (by decide +kernel) (Nat.le_of_ble_eq_true rfl) ?_
  intro p e s m args below meth c ls A G hnt hP hD hl
  have G : GC p s m args meth c cX11_shipSacks 3 RX11 (some .int) A D (TYS cA) ST := G
  have hx := G.1
  have hb := G.2.1
  have hS : va_S A s.heap s.heap [] := va_S.rf
  have hl : lv_has ls 3 [(0, .ref (a 209)), (1, .int p1), (2, .int p2)] := hl
  unfold fX11_shipSacks at h
  refine lv_aload_n hx hb dX11_shipSacks_0 rfl (lv_at hl 0 rfl) ?_
  refine gfX11_10 G hP dX11_shipSacks_1 ?_
  refine lv_iload_n hx hb dX11_shipSacks_4 rfl (lv_at hl 1 rfl) ?_
  refine lv_iload_n hx hb dX11_shipSacks_5 rfl (lv_at hl 2 rfl) ?_
  obtain ⟨r1, s2, g3, h⟩ := ob_e h
  refine gg_callVe (nA := 2) (mX6_faultOfShipping l D cA ad adF adW tt a fr ST hT 0 isM_0 p1 p2 s0 r1 s2 g3) G hP hD hS (g_good q5_51 q5_52 q5_53 q1_2 q5_54) (by decide +kernel) (by decide) (ltM_0 isM_0) (sM_0 isM_0) rfl rfl hl.1 [] rfl (Nat.le_of_ble_eq_true rfl) dX11_shipSacks_6 (fun H locs hP hD hS => ?_)
  obtain ⟨b4, h⟩ := bnd_e h
  rw [re_some _ (fun q => b4 (Or.inl q))]
  obtain ⟨cr5, r5, s6, g7, h⟩ := ox_e h
  refine gx_callSXv (nA := 1) (mX11_refuse l hlt D cA ad adF adW tt a fr ST hT hSX r1 s2 cr5 r5 s6 g7) G h hnt hP hD hS (g_goodSX q2_100 q2_101 q1_1 q2_102) (by decide +kernel) (by decide) rfl hl.1 [] rfl (Nat.le_of_ble_eq_true rfl) dX11_shipSacks_9 (fun h H locs hP hD hS => ?_)
  refine lv_aload_n hx hb dX11_shipSacks_12 rfl (lv_at hl 0 rfl) ?_
  refine gfX11_29 G hP dX11_shipSacks_13 ?_
  refine lv_aload_n hx hb dX11_shipSacks_16 rfl (lv_at hl 0 rfl) ?_
  refine gfX11_10 G hP dX11_shipSacks_17 ?_
  obtain ⟨r8, s9, g10, h⟩ := ob_e h
  refine gg_callVv (nA := 1) (mX3_push l D cA ad adF adW tt a fr ST hT nF 0 isM_0 s6 r8 s9 g10) G hP hD hS (g_good q3_6 q3_7 q3_8 q1_6 q3_9) (by decide +kernel) (by decide) (by decide) sc_210 rfl rfl hl.1 [] rfl (Nat.le_of_ble_eq_true rfl) dX11_shipSacks_20 (fun H locs hP hD hS => ?_)
  refine lv_aload_n hx hb dX11_shipSacks_23 rfl (lv_at hl 0 rfl) ?_
  refine gfX11_10 G hP dX11_shipSacks_24 ?_
  refine lv_iload_n hx hb dX11_shipSacks_27 rfl (lv_at hl 1 rfl) ?_
  refine lv_iload_n hx hb dX11_shipSacks_28 rfl (lv_at hl 2 rfl) ?_
  obtain ⟨r11, s12, g13, h⟩ := ob_e h
  refine gg_callVi (nA := 2) (mX6_ship l D cA ad adF adW tt a fr ST hT 0 isM_0 p1 p2 s9 r11 s12 g13) G hP hD hS (g_good q5_79 q5_80 q5_81 q1_2 q5_82) (by decide +kernel) (by decide) (ltM_0 isM_0) (sM_0 isM_0) rfl rfl hl.1 [] rfl (Nat.le_of_ble_eq_true rfl) dX11_shipSacks_29 (fun H locs hP hD hS => ?_)
  exact gx_reti G hP hD hS h rfl (by decide) dX11_shipSacks_32
noncomputable def fX11_shippedSacks (p1 : Int32) (s0 : St) : Option ((Nat × Int32) × St) :=
  OX (fX11_requireGrade p1 s0) 0 fun r1 s2 =>
  BND p1 4 <|
  some ((0, s2 ((0 + 7) + 2) p1.toNatClampNeg), s2)
set_option maxHeartbeats 4000000 in
set_option maxRecDepth 100000 in
theorem mX11_shippedSacks (l : Launch) (hlt : l.stackTraces = false) (D : va_G) (cA : Nat → ClassId) (ad adF adW tt a : Nat → Nat) (fr : va_W) (ST : gST) (hT : STE ad adF adW tt ST) (hSX : STX ST) (p1 : Int32) (s0 : St) (cR : Nat) (r : Int32) (s' : St) (h : fX11_shippedSacks p1 s0 = some ((cR, r), s')) : gMetX l yX11_shippedSacks cX11_shippedSacks 2 (some .int) 2 7 D (TYS cA) ST (wc cA ad a fr s0) [.ref (a 209), .int p1] (fun A => gQxi D (TYS cA) A (wc cA ad a fr) cR r s') (fun A => gXC D (TYS cA) A (wc cA ad a fr) cR s') := by
  refine g_ofWX hT.1 (by decide +kernel) (Nat.le_of_ble_eq_true rfl) ?_
  intro p e s m args below meth c ls A G hnt hP hD hl
  have G : GC p s m args meth c cX11_shippedSacks 2 RX11 (some .int) A D (TYS cA) ST := G
  have hx := G.1
  have hb := G.2.1
  have hS : va_S A s.heap s.heap [] := va_S.rf
  have hl : lv_has ls 2 [(0, .ref (a 209)), (1, .int p1)] := hl
  unfold fX11_shippedSacks at h
  refine lv_iload_n hx hb dX11_shippedSacks_0 rfl (lv_at hl 1 rfl) ?_
  obtain ⟨cr1, r1, s2, g3, h⟩ := ox_e h
  refine gx_callSXv (nA := 1) (mX11_requireGrade l hlt D cA ad adF adW tt a fr ST hT hSX p1 s0 cr1 r1 s2 g3) G h hnt hP hD hS (g_goodSX q4_17 q4_18 q1_1 q4_19) (by decide +kernel) (by decide) rfl hl.1 [] rfl (Nat.le_of_ble_eq_true rfl) dX11_shippedSacks_1 (fun h H locs hP hD hS => ?_)
  refine lv_aload_n hx hb dX11_shippedSacks_4 rfl (lv_at hl 0 rfl) ?_
  refine gfX11_10 G hP dX11_shippedSacks_5 ?_
  refine gfX11_208 isM_0 G hP dX11_shippedSacks_8 ?_
  refine gfX11_237 (mS isM_0) G hP dX11_shippedSacks_11 ?_
  refine lv_iload_n hx hb dX11_shippedSacks_14 rfl (lv_at hl 1 rfl) ?_
  obtain ⟨b4, h⟩ := bnd_e h
  refine g_ald (t := 0) (ty := .int) (Or.inl rfl) G hP ((0 + 7) + 2) (ltS_2 (mS isM_0)) (sS_2 (mS isM_0)) rfl b4 dX11_shippedSacks_15 ?_
  exact gx_reti G hP hD hS h rfl (by decide) dX11_shippedSacks_16
noncomputable def fX11_band (nF : Nat) (p1 : Int32) (s0 : St) : Option ((Nat × Int32) × St) :=
  OX (fX11_requireNoise nF p1 s0) 0 fun r1 s2 =>
  BND r1 15 <|
  some ((0, s2 ((0 + 1) + 2) r1.toNatClampNeg), s2)
set_option maxHeartbeats 4000000 in
set_option maxRecDepth 100000 in
theorem mX11_band (l : Launch) (hlt : l.stackTraces = false) (D : va_G) (cA : Nat → ClassId) (ad adF adW tt a : Nat → Nat) (fr : va_W) (ST : gST) (hT : STE ad adF adW tt ST) (hSX : STX ST) (nF : Nat) (p1 : Int32) (s0 : St) (cR : Nat) (r : Int32) (s' : St) (h : fX11_band nF p1 s0 = some ((cR, r), s')) : gMetX l yX11_band cX11_band 2 (some .int) 2 7 D (TYS cA) ST (wc cA ad a fr s0) [.ref (a 209), .int p1] (fun A => gQxi D (TYS cA) A (wc cA ad a fr) cR r s') (fun A => gXC D (TYS cA) A (wc cA ad a fr) cR s') := by
  refine g_ofWX hT.1 (by decide +kernel) (Nat.le_of_ble_eq_true rfl) ?_
  intro p e s m args below meth c ls A G hnt hP hD hl
  have G : GC p s m args meth c cX11_band 2 RX11 (some .int) A D (TYS cA) ST := G
  have hx := G.1
  have hb := G.2.1
  have hS : va_S A s.heap s.heap [] := va_S.rf
  have hl : lv_has ls 2 [(0, .ref (a 209)), (1, .int p1)] := hl
  unfold fX11_band at h
  refine lv_aload_n hx hb dX11_band_0 rfl (lv_at hl 0 rfl) ?_
  refine gfX11_10 G hP dX11_band_1 ?_
  refine gfX11_126 isM_0 G hP dX11_band_4 ?_
  refine gfX11_167 (mN isM_0) G hP dX11_band_7 ?_
  refine lv_aload_n hx hb dX11_band_10 rfl (lv_at hl 0 rfl) ?_
  refine lv_iload_n hx hb dX11_band_11 rfl (lv_at hl 1 rfl) ?_
  obtain ⟨cr1, r1, s2, g3, h⟩ := ox_e h
  refine gx_callVi (nA := 1) (mX11_requireNoise l hlt D cA ad adF adW tt a fr ST hT hSX nF p1 s0 cr1 r1 s2 g3) G h hnt hP hD hS (g_good q3_184 q3_186 qs_5 q1_1 q3_187) (by decide +kernel) (by decide) (by decide) sc_209 rfl rfl hl.1 [.ref (a ((0 + 1) + 2))] rfl (Nat.le_of_ble_eq_true rfl) dX11_band_12 (fun h H locs hP hD hS => ?_)
  obtain ⟨b4, h⟩ := bnd_e h
  refine g_ald (t := 0) (ty := .int) (Or.inl rfl) G hP ((0 + 1) + 2) (ltN_2 (mN isM_0)) (sN_2 (mN isM_0)) rfl b4 dX11_band_15 ?_
  exact gx_reti G hP hD hS h rfl (by decide) dX11_band_16
noncomputable def fX11_loudness (nF : Nat) (p1 : Int32) (s0 : St) : Option ((Nat × Int32) × St) :=
  OX (fX11_requireNoise nF p1 s0) 0 fun r1 s2 =>
  BND r1 15 <|
  some ((0, s2 ((0 + 1) + 3) r1.toNatClampNeg), s2)
set_option maxHeartbeats 4000000 in
set_option maxRecDepth 100000 in
theorem mX11_loudness (l : Launch) (hlt : l.stackTraces = false) (D : va_G) (cA : Nat → ClassId) (ad adF adW tt a : Nat → Nat) (fr : va_W) (ST : gST) (hT : STE ad adF adW tt ST) (hSX : STX ST) (nF : Nat) (p1 : Int32) (s0 : St) (cR : Nat) (r : Int32) (s' : St) (h : fX11_loudness nF p1 s0 = some ((cR, r), s')) : gMetX l yX11_loudness cX11_loudness 2 (some .int) 2 7 D (TYS cA) ST (wc cA ad a fr s0) [.ref (a 209), .int p1] (fun A => gQxi D (TYS cA) A (wc cA ad a fr) cR r s') (fun A => gXC D (TYS cA) A (wc cA ad a fr) cR s') := by
  refine g_ofWX hT.1 (by decide +kernel) (Nat.le_of_ble_eq_true rfl) ?_
  intro p e s m args below meth c ls A G hnt hP hD hl
  have G : GC p s m args meth c cX11_loudness 2 RX11 (some .int) A D (TYS cA) ST := G
  have hx := G.1
  have hb := G.2.1
  have hS : va_S A s.heap s.heap [] := va_S.rf
  have hl : lv_has ls 2 [(0, .ref (a 209)), (1, .int p1)] := hl
  unfold fX11_loudness at h
  refine lv_aload_n hx hb dX11_loudness_0 rfl (lv_at hl 0 rfl) ?_
  refine gfX11_10 G hP dX11_loudness_1 ?_
  refine gfX11_126 isM_0 G hP dX11_loudness_4 ?_
  refine gfX11_170 (mN isM_0) G hP dX11_loudness_7 ?_
  refine lv_aload_n hx hb dX11_loudness_10 rfl (lv_at hl 0 rfl) ?_
  refine lv_iload_n hx hb dX11_loudness_11 rfl (lv_at hl 1 rfl) ?_
  obtain ⟨cr1, r1, s2, g3, h⟩ := ox_e h
  refine gx_callVi (nA := 1) (mX11_requireNoise l hlt D cA ad adF adW tt a fr ST hT hSX nF p1 s0 cr1 r1 s2 g3) G h hnt hP hD hS (g_good q3_184 q3_186 qs_5 q1_1 q3_187) (by decide +kernel) (by decide) (by decide) sc_209 rfl rfl hl.1 [.ref (a ((0 + 1) + 3))] rfl (Nat.le_of_ble_eq_true rfl) dX11_loudness_12 (fun h H locs hP hD hS => ?_)
  obtain ⟨b4, h⟩ := bnd_e h
  refine g_ald (t := 0) (ty := .int) (Or.inl rfl) G hP ((0 + 1) + 3) (ltN_3 (mN isM_0)) (sN_3 (mN isM_0)) rfl b4 dX11_loudness_15 ?_
  exact gx_reti G hP hD hS h rfl (by decide) dX11_loudness_16
noncomputable def fX11_stepsUntilDone (nF : Nat) (p1 : Int32) (s0 : St) : Option ((Nat × Int32) × St) :=
  OX (fX11_requireWheel p1 s0) 0 fun r1 s2 =>
  OB (fX11_simulateDone nF p1 s2) fun r4 s5 =>
  OX (fX11_requireSteps r4 s5) 0 fun r7 s8 =>
  some ((0, r7), s8)
set_option maxHeartbeats 4000000 in
set_option maxRecDepth 100000 in
theorem mX11_stepsUntilDone (l : Launch) (hlt : l.stackTraces = false) (D : va_G) (cA : Nat → ClassId) (ad adF adW tt a : Nat → Nat) (fr : va_W) (ST : gST) (hT : STE ad adF adW tt ST) (hSX : STX ST) (nF : Nat) (p1 : Int32) (s0 : St) (cR : Nat) (r : Int32) (s' : St) (h : fX11_stepsUntilDone nF p1 s0 = some ((cR, r), s')) : gMetX l yX11_stepsUntilDone cX11_stepsUntilDone 2 (some .int) 2 7 D (TYS cA) ST (wc cA ad a fr s0) [.ref (a 209), .int p1] (fun A => gQxi D (TYS cA) A (wc cA ad a fr) cR r s') (fun A => gXC D (TYS cA) A (wc cA ad a fr) cR s') := by
  refine g_ofWX hT.1 (by decide +kernel) (Nat.le_of_ble_eq_true rfl) ?_
  intro p e s m args below meth c ls A G hnt hP hD hl
  have G : GC p s m args meth c cX11_stepsUntilDone 2 RX11 (some .int) A D (TYS cA) ST := G
  have hx := G.1
  have hb := G.2.1
  have hS : va_S A s.heap s.heap [] := va_S.rf
  have hl : lv_has ls 2 [(0, .ref (a 209)), (1, .int p1)] := hl
  unfold fX11_stepsUntilDone at h
  refine lv_iload_n hx hb dX11_stepsUntilDone_0 rfl (lv_at hl 1 rfl) ?_
  obtain ⟨cr1, r1, s2, g3, h⟩ := ox_e h
  refine gx_callSXv (nA := 1) (mX11_requireWheel l hlt D cA ad adF adW tt a fr ST hT hSX p1 s0 cr1 r1 s2 g3) G h hnt hP hD hS (g_goodSX q3_224 q3_225 q1_1 q3_226) (by decide +kernel) (by decide) rfl hl.1 [] rfl (Nat.le_of_ble_eq_true rfl) dX11_stepsUntilDone_1 (fun h H locs hP hD hS => ?_)
  refine lv_aload_n hx hb dX11_stepsUntilDone_4 rfl (lv_at hl 0 rfl) ?_
  refine lv_iload_n hx hb dX11_stepsUntilDone_5 rfl (lv_at hl 1 rfl) ?_
  obtain ⟨r4, s5, g6, h⟩ := ob_e h
  refine gg_callVi (nA := 1) (mX11_simulateDone l D cA ad adF adW tt a fr ST hT nF p1 s2 r4 s5 g6) G hP hD hS (g_good q4_164 q4_166 qs_12 q1_1 q4_167) (by decide +kernel) (by decide) (by decide) sc_209 rfl rfl hl.1 [] rfl (Nat.le_of_ble_eq_true rfl) dX11_stepsUntilDone_6 (fun H locs hP hD hS => ?_)
  obtain ⟨cr7, r7, s8, g9, h⟩ := ox_e h
  refine gx_callSXi (nA := 1) (mX11_requireSteps l hlt D cA ad adF adW tt a fr ST hT hSX r4 s5 cr7 r7 s8 g9) G h hnt hP hD hS (g_goodSX q4_66 q4_67 q1_1 q4_68) (by decide +kernel) (by decide) rfl hl.1 [] rfl (Nat.le_of_ble_eq_true rfl) dX11_stepsUntilDone_9 (fun h H locs hP hD hS => ?_)
  exact gx_reti G hP hD hS h rfl (by decide) dX11_stepsUntilDone_12
noncomputable def fX11_errorPosition (s0 : St) : Option ((Nat × Int32) × St) :=
  if (s0 209 8) = (-1) then
    some ((3, 0), s0)
  else
    some ((0, s0 209 8), s0)
set_option maxHeartbeats 4000000 in
set_option maxRecDepth 100000 in
theorem mX11_errorPosition (l : Launch) (hlt : l.stackTraces = false) (D : va_G) (cA : Nat → ClassId) (ad adF adW tt a : Nat → Nat) (fr : va_W) (ST : gST) (hT : STE ad adF adW tt ST) (hSX : STX ST) (s0 : St) (cR : Nat) (r : Int32) (s' : St) (h : fX11_errorPosition s0 = some ((cR, r), s')) : gMetX l yX11_errorPosition cX11_errorPosition 1 (some .int) 2 6 D (TYS cA) ST (wc cA ad a fr s0) [.ref (a 209)] (fun A => gQxi D (TYS cA) A (wc cA ad a fr) cR r s') (fun A => gXC D (TYS cA) A (wc cA ad a fr) cR s') := by
  refine g_ofWX hT.1 (by decide +kernel) (Nat.le_of_ble_eq_true rfl) ?_
  intro p e s m args below meth c ls A G hnt hP hD hl
  have G : GC p s m args meth c cX11_errorPosition 1 RX11 (some .int) A D (TYS cA) ST := G
  have hx := G.1
  have hb := G.2.1
  have hS : va_S A s.heap s.heap [] := va_S.rf
  have hl : lv_has ls 1 [(0, .ref (a 209))] := hl
  unfold fX11_errorPosition at h
  refine lv_aload_n hx hb dX11_errorPosition_0 rfl (lv_at hl 0 rfl) ?_
  refine gfX11_54 G hP dX11_errorPosition_1 ?_
  refine lv_iconst (v := (-1)) hx hb dX11_errorPosition_4 (by decide) ?_
  refine lv_icmp_ne (tgt := 19) hx hb dX11_errorPosition_5 (by decide) (fun c1 => ?_) (fun c1 => ?_)
  · replace h := it_f c1 h
    refine lv_aload_n hx hb dX11_errorPosition_19 rfl (lv_at hl 0 rfl) ?_
    refine gfX11_54 G hP dX11_errorPosition_20 ?_
    exact gx_reti G hP hD hS h rfl (by decide) dX11_errorPosition_23
  · replace h := it_t c1 h
    exact gx_throwNW (cE := 3) (E := "java/util/NoSuchElementException") (XW := xw3) hlt hSX rfl (by decide) rfl rfl xg3 xl3 xo3 (by decide +kernel) q2_198 q1_24 (List.mem_of_getElem? (i := 10) rfl) rfl G hnt hP hD hS h hl.1 dX11_errorPosition_8 dX11_errorPosition_11 dX11_errorPosition_12 dX11_errorPosition_15 dX11_errorPosition_18 (by decide) (Nat.le_of_ble_eq_true rfl)
