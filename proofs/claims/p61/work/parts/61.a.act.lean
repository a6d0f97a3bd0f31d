-- ===== p61: the law's methods that catch =====
theorem dL_act_0 : decode cL_act 0 = .ok (.iload_n 1, 1) := by decide +kernel
theorem dL_act_1 : decode cL_act 1 = .ok (.tableswitch 91 0 6 #[43, 52, 58, 65, 72, 78, 84], 43) := by decide +kernel
theorem dL_act_44 : decode cL_act 44 = .ok (.aload_n 0, 1) := by decide +kernel
theorem dL_act_45 : decode cL_act 45 = .ok (.iload_n 2, 1) := by decide +kernel
theorem dL_act_46 : decode cL_act 46 = .ok (.iload_n 3, 1) := by decide +kernel
theorem dL_act_47 : decode cL_act 47 = .ok (.iload 4, 2) := by decide +kernel
theorem dL_act_49 : decode cL_act 49 = .ok (.invokevirtual 34, 3) := by decide +kernel
theorem dL_act_52 : decode cL_act 52 = .ok (.ireturn, 1) := by decide +kernel
theorem dL_act_53 : decode cL_act 53 = .ok (.aload_n 0, 1) := by decide +kernel
theorem dL_act_54 : decode cL_act 54 = .ok (.iload_n 2, 1) := by decide +kernel
theorem dL_act_55 : decode cL_act 55 = .ok (.invokevirtual 38, 3) := by decide +kernel
theorem dL_act_58 : decode cL_act 58 = .ok (.ireturn, 1) := by decide +kernel
theorem dL_act_59 : decode cL_act 59 = .ok (.aload_n 0, 1) := by decide +kernel
theorem dL_act_60 : decode cL_act 60 = .ok (.iload_n 2, 1) := by decide +kernel
theorem dL_act_61 : decode cL_act 61 = .ok (.iload_n 3, 1) := by decide +kernel
theorem dL_act_62 : decode cL_act 62 = .ok (.invokevirtual 42, 3) := by decide +kernel
theorem dL_act_65 : decode cL_act 65 = .ok (.ireturn, 1) := by decide +kernel
theorem dL_act_66 : decode cL_act 66 = .ok (.aload_n 0, 1) := by decide +kernel
theorem dL_act_67 : decode cL_act 67 = .ok (.iload_n 2, 1) := by decide +kernel
theorem dL_act_68 : decode cL_act 68 = .ok (.iload_n 3, 1) := by decide +kernel
theorem dL_act_69 : decode cL_act 69 = .ok (.invokevirtual 46, 3) := by decide +kernel
theorem dL_act_72 : decode cL_act 72 = .ok (.ireturn, 1) := by decide +kernel
theorem dL_act_73 : decode cL_act 73 = .ok (.aload_n 0, 1) := by decide +kernel
theorem dL_act_74 : decode cL_act 74 = .ok (.iload_n 2, 1) := by decide +kernel
theorem dL_act_75 : decode cL_act 75 = .ok (.invokevirtual 49, 3) := by decide +kernel
theorem dL_act_78 : decode cL_act 78 = .ok (.ireturn, 1) := by decide +kernel
theorem dL_act_79 : decode cL_act 79 = .ok (.aload_n 0, 1) := by decide +kernel
theorem dL_act_80 : decode cL_act 80 = .ok (.iload_n 2, 1) := by decide +kernel
theorem dL_act_81 : decode cL_act 81 = .ok (.invokevirtual 52, 3) := by decide +kernel
theorem dL_act_84 : decode cL_act 84 = .ok (.ireturn, 1) := by decide +kernel
theorem dL_act_85 : decode cL_act 85 = .ok (.aload_n 0, 1) := by decide +kernel
theorem dL_act_86 : decode cL_act 86 = .ok (.iload_n 2, 1) := by decide +kernel
theorem dL_act_87 : decode cL_act 87 = .ok (.iload_n 3, 1) := by decide +kernel
theorem dL_act_88 : decode cL_act 88 = .ok (.invokevirtual 55, 3) := by decide +kernel
theorem dL_act_91 : decode cL_act 91 = .ok (.ireturn, 1) := by decide +kernel
theorem dL_act_92 : decode cL_act 92 = .ok (.aload_n 0, 1) := by decide +kernel
theorem dL_act_93 : decode cL_act 93 = .ok (.iload_n 2, 1) := by decide +kernel
theorem dL_act_94 : decode cL_act 94 = .ok (.invokevirtual 58, 3) := by decide +kernel
theorem dL_act_97 : decode cL_act 97 = .ok (.ireturn, 1) := by decide +kernel
theorem dL_act_98 : decode cL_act 98 = .ok (.astore 5, 2) := by decide +kernel
theorem dL_act_100 : decode cL_act 100 = .ok (.bipush (-2), 2) := by decide +kernel
theorem dL_act_102 : decode cL_act 102 = .ok (.ireturn, 1) := by decide +kernel
theorem dL_act_103 : decode cL_act 103 = .ok (.astore 5, 2) := by decide +kernel
theorem dL_act_105 : decode cL_act 105 = .ok (.bipush (-3), 2) := by decide +kernel
theorem dL_act_107 : decode cL_act 107 = .ok (.ireturn, 1) := by decide +kernel
theorem dL_act_108 : decode cL_act 108 = .ok (.astore 5, 2) := by decide +kernel
theorem dL_act_110 : decode cL_act 110 = .ok (.bipush (-4), 2) := by decide +kernel
theorem dL_act_112 : decode cL_act 112 = .ok (.ireturn, 1) := by decide +kernel
theorem dL_act_113 : decode cL_act 113 = .ok (.astore 5, 2) := by decide +kernel
theorem dL_act_115 : decode cL_act 115 = .ok (.bipush (-4), 2) := by decide +kernel
theorem dL_act_117 : decode cL_act 117 = .ok (.ireturn, 1) := by decide +kernel
theorem dL_act_118 : decode cL_act 118 = .ok (.astore 5, 2) := by decide +kernel
theorem dL_act_120 : decode cL_act 120 = .ok (.bipush (-4), 2) := by decide +kernel
theorem dL_act_122 : decode cL_act 122 = .ok (.ireturn, 1) := by decide +kernel
theorem dL_on_0 : decode cL_on 0 = .ok (.aload_n 0, 1) := by decide +kernel
theorem dL_on_1 : decode cL_on 1 = .ok (.iload_n 1, 1) := by decide +kernel
theorem dL_on_2 : decode cL_on 2 = .ok (.invokevirtual 71, 3) := by decide +kernel
theorem dL_on_5 : decode cL_on 5 = .ok (.ireturn, 1) := by decide +kernel
theorem dL_on_6 : decode cL_on 6 = .ok (.astore_n 2, 1) := by decide +kernel
theorem dL_on_7 : decode cL_on 7 = .ok (.iconst (-1), 1) := by decide +kernel
theorem dL_on_8 : decode cL_on 8 = .ok (.ireturn, 1) := by decide +kernel
theorem dL_done_0 : decode cL_done 0 = .ok (.aload_n 0, 1) := by decide +kernel
theorem dL_done_1 : decode cL_done 1 = .ok (.iconst 1, 1) := by decide +kernel
theorem dL_done_2 : decode cL_done 2 = .ok (.invokevirtual 303, 3) := by decide +kernel
theorem dL_done_5 : decode cL_done 5 = .ok (.ireturn, 1) := by decide +kernel
theorem dL_done_6 : decode cL_done 6 = .ok (.astore_n 1, 1) := by decide +kernel
theorem dL_done_7 : decode cL_done 7 = .ok (.iconst (-1), 1) := by decide +kernel
theorem dL_done_8 : decode cL_done 8 = .ok (.ireturn, 1) := by decide +kernel
theorem dL_jam_0 : decode cL_jam 0 = .ok (.aload_n 0, 1) := by decide +kernel
theorem dL_jam_1 : decode cL_jam 1 = .ok (.iconst 0, 1) := by decide +kernel
theorem dL_jam_2 : decode cL_jam 2 = .ok (.invokevirtual 294, 3) := by decide +kernel
theorem dL_jam_5 : decode cL_jam 5 = .ok (.ireturn, 1) := by decide +kernel
theorem dL_jam_6 : decode cL_jam 6 = .ok (.astore_n 1, 1) := by decide +kernel
theorem dL_jam_7 : decode cL_jam 7 = .ok (.iconst (-1), 1) := by decide +kernel
theorem dL_jam_8 : decode cL_jam 8 = .ok (.ireturn, 1) := by decide +kernel
theorem dL_runs_0 : decode cL_runs 0 = .ok (.aload_n 0, 1) := by decide +kernel
theorem dL_runs_1 : decode cL_runs 1 = .ok (.invokevirtual 174, 3) := by decide +kernel
theorem dL_runs_4 : decode cL_runs 4 = .ok (.ireturn, 1) := by decide +kernel
theorem dL_runs_5 : decode cL_runs 5 = .ok (.astore_n 1, 1) := by decide +kernel
theorem dL_runs_6 : decode cL_runs 6 = .ok (.iconst (-1), 1) := by decide +kernel
theorem dL_runs_7 : decode cL_runs 7 = .ok (.ireturn, 1) := by decide +kernel
theorem dL_runs_8 : decode cL_runs 8 = .ok (.astore_n 1, 1) := by decide +kernel
theorem dL_runs_9 : decode cL_runs 9 = .ok (.bipush (-2), 2) := by decide +kernel
theorem dL_runs_11 : decode cL_runs 11 = .ok (.ireturn, 1) := by decide +kernel
def nmL_on (ct : Nat) : String := "java/util/NoSuchElementException"
abbrev hhL_on : List (Nat × Nat × Nat × Nat) := [(0, 5, 6, 69)]
theorem nmL_on_ok : ∀ z ∈ hhL_on, z.2.2.2 ≠ 0 ∧ Cond.classLink RL z.2.2.2 (nmL_on z.2.2.2) ∈ BIG := by
  have key : ∀ ct : Nat, ct = 69 → ct ≠ 0 ∧ Cond.classLink RL ct (nmL_on ct) ∈ BIG := fun ct h => by
    rcases h with rfl
    · exact ⟨by decide, q5_168⟩
  have h9 : hhL_on.all (fun z => z.2.2.2 == 69) = true := by decide
  intro z hz
  have := List.all_eq_true.mp h9 z hz
  simp only [Bool.or_eq_true, beq_iff_eq] at this
  exact key _ (by omega)
set_option maxHeartbeats 4000000 in
set_option maxRecDepth 100000 in
theorem mL_on (l : Launch) (hlt : l.stackTraces = false) (D : va_G) (cA : Nat → ClassId) (ad adF adW tt a : Nat → Nat) (fr : va_W) (ST : gST) (hT : STE ad adF adW tt ST) (hSX : STX ST) (hSN : STN ST) (p1 : Int32) (s0 : St) (c1 : Nat) (r : Int32) (s' : St) (h : fX11_noiseOn p1 s0 = some ((c1, r), s')) (hc1 : c1 = 0 ∨ c1 = 3) : gMetLG l yL_on cL_on 3 (some .int) hhL_on 8 2 12 D (TYS cA) ST (wc cA ad a fr s0) [.ref (a 209), .int p1] (gGi D (TYS cA) (fun r1 s1 => r1 = (if c1 = 0 then r else -1) ∧ s1 = s') (wc cA ad a fr)) := by
  refine g_ofWLG hT.1 (by decide +kernel) (Nat.le_of_ble_eq_true rfl) ?_
  intro p e s m args below meth c ls A G htab hP hD hl
  have G : GC p s m args meth c cL_on 3 RL (some .int) A D (TYS cA) ST := G
  have hx := G.1
  have hb := G.2.1
  have hS : va_S A s.heap s.heap [] := va_S.rf
  have hl : lv_has ls 3 [(0, .ref (a 209)), (1, .int p1)] := hl
  refine lv_aload_n hx hb dL_on_0 rfl (lv_at hl 0 rfl) ?_
  refine lv_iload_n hx hb dL_on_1 rfl (lv_at hl 1 rfl) ?_
  refine gl_callVi (nA := 1) (mX11_noiseOn l hlt D cA ad adF adW tt a fr ST hT hSX p1 s0 c1 r s' h) G hP hD hS (g_good q3_220 q3_221 q3_222 q1_1 q3_223) (by decide +kernel) (by decide) (by decide) sc_209 rfl rfl hl.1 [] rfl (Nat.le_of_ble_eq_true rfl) dL_on_2 (fun hc0 ce q9 H locs hP hD hS hce hcv hcl => ?_) (fun hc0 H locs hP hD hS => ?_)
  · rcases hc1 with rfl | rfl
    · exact absurd rfl hc0
    · refine gl_catch (E := "java/util/NoSuchElementException") hSN hSX G htab 0 (st := 0) (en := 5) (hp := 6) (ct := 69) rfl nmL_on nmL_on_ok (by decide +kernel) (by decide +kernel) rfl cs_3 hce hcv hcl ?_
      refine lv_astore_n (lv' := [(2, .ref q9), (0, .ref (a 209)), (1, .int p1)]) hx hb dL_on_6 rfl hl (by decide) rfl (fun ls hl => ?_)
      refine lv_iconst (v := (-1)) hx hb dL_on_7 (by decide) ?_
      exact c_reti _ ⟨rfl, rfl⟩ rfl G hP hD hS (by decide) dL_on_8
  · subst hc0
    exact c_reti _ ⟨(if_pos rfl).symm, rfl⟩ rfl G hP hD hS (by decide) dL_on_5
def nmL_done (ct : Nat) : String := "java/util/NoSuchElementException"
abbrev hhL_done : List (Nat × Nat × Nat × Nat) := [(0, 5, 6, 69)]
theorem nmL_done_ok : ∀ z ∈ hhL_done, z.2.2.2 ≠ 0 ∧ Cond.classLink RL z.2.2.2 (nmL_done z.2.2.2) ∈ BIG := by
  have key : ∀ ct : Nat, ct = 69 → ct ≠ 0 ∧ Cond.classLink RL ct (nmL_done ct) ∈ BIG := fun ct h => by
    rcases h with rfl
    · exact ⟨by decide, q5_168⟩
  have h9 : hhL_done.all (fun z => z.2.2.2 == 69) = true := by decide
  intro z hz
  have := List.all_eq_true.mp h9 z hz
  simp only [Bool.or_eq_true, beq_iff_eq] at this
  exact key _ (by omega)
set_option maxHeartbeats 4000000 in
set_option maxRecDepth 100000 in
theorem mL_done (l : Launch) (hlt : l.stackTraces = false) (D : va_G) (cA : Nat → ClassId) (ad adF adW tt a : Nat → Nat) (fr : va_W) (ST : gST) (hT : STE ad adF adW tt ST) (hSX : STX ST) (hSN : STN ST) (nF : Nat) (s0 : St) (c1 : Nat) (r : Int32) (s' : St) (h : fX11_stepsUntilDone nF 1 s0 = some ((c1, r), s')) (hc1 : c1 = 0 ∨ c1 = 3) : gMetLG l yL_done cL_done 2 (some .int) hhL_done 8 2 12 D (TYS cA) ST (wc cA ad a fr s0) [.ref (a 209)] (gGi D (TYS cA) (fun r1 s1 => r1 = (if c1 = 0 then r else -1) ∧ s1 = s') (wc cA ad a fr)) := by
  refine g_ofWLG hT.1 (by decide +kernel) (Nat.le_of_ble_eq_true rfl) ?_
  intro p e s m args below meth c ls A G htab hP hD hl
  have G : GC p s m args meth c cL_done 2 RL (some .int) A D (TYS cA) ST := G
  have hx := G.1
  have hb := G.2.1
  have hS : va_S A s.heap s.heap [] := va_S.rf
  have hl : lv_has ls 2 [(0, .ref (a 209))] := hl
  refine lv_aload_n hx hb dL_done_0 rfl (lv_at hl 0 rfl) ?_
  refine lv_iconst (v := 1) hx hb dL_done_1 (by decide) ?_
  refine gl_callVi (nA := 1) (mX11_stepsUntilDone l hlt D cA ad adF adW tt a fr ST hT hSX nF 1 s0 c1 r s' h) G hP hD hS (g_good q6_129 q6_130 q6_131 q1_1 q6_132) (by decide +kernel) (by decide) (by decide) sc_209 rfl rfl hl.1 [] rfl (Nat.le_of_ble_eq_true rfl) dL_done_2 (fun hc0 ce q9 H locs hP hD hS hce hcv hcl => ?_) (fun hc0 H locs hP hD hS => ?_)
  · rcases hc1 with rfl | rfl
    · exact absurd rfl hc0
    · refine gl_catch (E := "java/util/NoSuchElementException") hSN hSX G htab 0 (st := 0) (en := 5) (hp := 6) (ct := 69) rfl nmL_done nmL_done_ok (by decide +kernel) (by decide +kernel) rfl cs_3 hce hcv hcl ?_
      refine lv_astore_n (lv' := [(1, .ref q9), (0, .ref (a 209))]) hx hb dL_done_6 rfl hl (by decide) rfl (fun ls hl => ?_)
      refine lv_iconst (v := (-1)) hx hb dL_done_7 (by decide) ?_
      exact c_reti _ ⟨rfl, rfl⟩ rfl G hP hD hS (by decide) dL_done_8
  · subst hc0
    exact c_reti _ ⟨(if_pos rfl).symm, rfl⟩ rfl G hP hD hS (by decide) dL_done_5
def nmL_jam (ct : Nat) : String := "java/util/NoSuchElementException"
abbrev hhL_jam : List (Nat × Nat × Nat × Nat) := [(0, 5, 6, 69)]
theorem nmL_jam_ok : ∀ z ∈ hhL_jam, z.2.2.2 ≠ 0 ∧ Cond.classLink RL z.2.2.2 (nmL_jam z.2.2.2) ∈ BIG := by
  have key : ∀ ct : Nat, ct = 69 → ct ≠ 0 ∧ Cond.classLink RL ct (nmL_jam ct) ∈ BIG := fun ct h => by
    rcases h with rfl
    · exact ⟨by decide, q5_168⟩
  have h9 : hhL_jam.all (fun z => z.2.2.2 == 69) = true := by decide
  intro z hz
  have := List.all_eq_true.mp h9 z hz
  simp only [Bool.or_eq_true, beq_iff_eq] at this
  exact key _ (by omega)
set_option maxHeartbeats 4000000 in
set_option maxRecDepth 100000 in
theorem mL_jam (l : Launch) (hlt : l.stackTraces = false) (D : va_G) (cA : Nat → ClassId) (ad adF adW tt a : Nat → Nat) (fr : va_W) (ST : gST) (hT : STE ad adF adW tt ST) (hSX : STX ST) (hSN : STN ST) (nF : Nat) (s0 : St) (c1 : Nat) (r : Int32) (s' : St) (h : fX11_stepsUntilJam nF 0 s0 = some ((c1, r), s')) (hc1 : c1 = 0 ∨ c1 = 3) : gMetLG l yL_jam cL_jam 2 (some .int) hhL_jam 8 2 12 D (TYS cA) ST (wc cA ad a fr s0) [.ref (a 209)] (gGi D (TYS cA) (fun r1 s1 => r1 = (if c1 = 0 then r else -1) ∧ s1 = s') (wc cA ad a fr)) := by
  refine g_ofWLG hT.1 (by decide +kernel) (Nat.le_of_ble_eq_true rfl) ?_
  intro p e s m args below meth c ls A G htab hP hD hl
  have G : GC p s m args meth c cL_jam 2 RL (some .int) A D (TYS cA) ST := G
  have hx := G.1
  have hb := G.2.1
  have hS : va_S A s.heap s.heap [] := va_S.rf
  have hl : lv_has ls 2 [(0, .ref (a 209))] := hl
  refine lv_aload_n hx hb dL_jam_0 rfl (lv_at hl 0 rfl) ?_
  refine lv_iconst (v := 0) hx hb dL_jam_1 (by decide) ?_
  refine gl_callVi (nA := 1) (mX11_stepsUntilJam l hlt D cA ad adF adW tt a fr ST hT hSX nF 0 s0 c1 r s' h) G hP hD hS (g_good q4_57 q4_58 q4_59 q1_1 q4_60) (by decide +kernel) (by decide) (by decide) sc_209 rfl rfl hl.1 [] rfl (Nat.le_of_ble_eq_true rfl) dL_jam_2 (fun hc0 ce q9 H locs hP hD hS hce hcv hcl => ?_) (fun hc0 H locs hP hD hS => ?_)
  · rcases hc1 with rfl | rfl
    · exact absurd rfl hc0
    · refine gl_catch (E := "java/util/NoSuchElementException") hSN hSX G htab 0 (st := 0) (en := 5) (hp := 6) (ct := 69) rfl nmL_jam nmL_jam_ok (by decide +kernel) (by decide +kernel) rfl cs_3 hce hcv hcl ?_
      refine lv_astore_n (lv' := [(1, .ref q9), (0, .ref (a 209))]) hx hb dL_jam_6 rfl hl (by decide) rfl (fun ls hl => ?_)
      refine lv_iconst (v := (-1)) hx hb dL_jam_7 (by decide) ?_
      exact c_reti _ ⟨rfl, rfl⟩ rfl G hP hD hS (by decide) dL_jam_8
  · subst hc0
    exact c_reti _ ⟨(if_pos rfl).symm, rfl⟩ rfl G hP hD hS (by decide) dL_jam_5
def nmL_runs (ct : Nat) : String := if ct = 61 then "java/lang/IllegalStateException" else "java/lang/IllegalArgumentException"
abbrev hhL_runs : List (Nat × Nat × Nat × Nat) := [(0, 4, 5, 65), (0, 4, 8, 61)]
theorem nmL_runs_ok : ∀ z ∈ hhL_runs, z.2.2.2 ≠ 0 ∧ Cond.classLink RL z.2.2.2 (nmL_runs z.2.2.2) ∈ BIG := by
  have key : ∀ ct : Nat, ct = 61 ∨ ct = 65 → ct ≠ 0 ∧ Cond.classLink RL ct (nmL_runs ct) ∈ BIG := fun ct h => by
    rcases h with rfl | rfl
    · exact ⟨by decide, q5_144⟩
    · exact ⟨by decide, q5_146⟩
  have h9 : hhL_runs.all (fun z => z.2.2.2 == 61 || z.2.2.2 == 65) = true := by decide
  intro z hz
  have := List.all_eq_true.mp h9 z hz
  simp only [Bool.or_eq_true, beq_iff_eq] at this
  exact key _ (by omega)
set_option maxHeartbeats 4000000 in
set_option maxRecDepth 100000 in
theorem mL_runs (l : Launch) (hlt : l.stackTraces = false) (D : va_G) (cA : Nat → ClassId) (ad adF adW tt a : Nat → Nat) (fr : va_W) (ST : gST) (hT : STE ad adF adW tt ST) (hSX : STX ST) (hSN : STN ST) (hW : STW adW tt ST) (nF : Nat) (s0 : St) (c1 : Nat) (r : Int32) (s' : St) (h : fX11_runScript nF  s0 = some ((c1, r), s')) (hc1 : c1 = 0 ∨ c1 = 1 ∨ c1 = 4) : gMetLG l yL_runs cL_runs 2 (some .int) hhL_runs 9 2 12 D (TYS cA) ST (wc cA ad a fr s0) [.ref (a 209)] (gGi D (TYS cA) (fun r1 s1 => r1 = (if c1 = 0 then r else if c1 = 1 then -1 else -2) ∧ s1 = s') (wc cA ad a fr)) := by
  refine g_ofWLG hT.1 (by decide +kernel) (Nat.le_of_ble_eq_true rfl) ?_
  intro p e s m args below meth c ls A G htab hP hD hl
  have G : GC p s m args meth c cL_runs 2 RL (some .int) A D (TYS cA) ST := G
  have hx := G.1
  have hb := G.2.1
  have hS : va_S A s.heap s.heap [] := va_S.rf
  have hl : lv_has ls 2 [(0, .ref (a 209))] := hl
  refine lv_aload_n hx hb dL_runs_0 rfl (lv_at hl 0 rfl) ?_
  refine gl_callVi (nA := 0) (mX11_runScript l hlt D cA ad adF adW tt a fr ST hT hSX hW nF  s0 c1 r s' h) G hP hD hS (g_good q4_176 q4_177 q4_178 q1_1 q4_179) (by decide +kernel) (by decide) (by decide) sc_209 rfl rfl hl.1 [] rfl (Nat.le_of_ble_eq_true rfl) dL_runs_1 (fun hc0 ce q9 H locs hP hD hS hce hcv hcl => ?_) (fun hc0 H locs hP hD hS => ?_)
  · rcases hc1 with rfl | rfl | rfl
    · exact absurd rfl hc0
    · refine gl_catch (E := "java/lang/IllegalArgumentException") hSN hSX G htab 0 (st := 0) (en := 4) (hp := 5) (ct := 65) rfl nmL_runs nmL_runs_ok (by decide +kernel) (by decide +kernel) rfl cs_1 hce hcv hcl ?_
      refine lv_astore_n (lv' := [(1, .ref q9), (0, .ref (a 209))]) hx hb dL_runs_5 rfl hl (by decide) rfl (fun ls hl => ?_)
      refine lv_iconst (v := (-1)) hx hb dL_runs_6 (by decide) ?_
      exact c_reti _ ⟨rfl, rfl⟩ rfl G hP hD hS (by decide) dL_runs_7
    · refine gl_catch (E := "java/lang/IllegalStateException") hSN hSX G htab 1 (st := 0) (en := 4) (hp := 8) (ct := 61) rfl nmL_runs nmL_runs_ok (by decide +kernel) (by decide +kernel) rfl cs_4 hce hcv hcl ?_
      refine lv_astore_n (lv' := [(1, .ref q9), (0, .ref (a 209))]) hx hb dL_runs_8 rfl hl (by decide) rfl (fun ls hl => ?_)
      refine lv_bipush (v := (-2)) hx hb dL_runs_9 (by decide) ?_
      exact c_reti _ ⟨rfl, rfl⟩ rfl G hP hD hS (by decide) dL_runs_11
  · subst hc0
    exact c_reti _ ⟨(if_pos rfl).symm, rfl⟩ rfl G hP hD hS (by decide) dL_runs_4
def nmL_act (ct : Nat) : String := if ct = 61 then "java/lang/IllegalStateException" else if ct = 63 then "java/lang/UnsupportedOperationException" else if ct = 65 then "java/lang/IllegalArgumentException" else if ct = 67 then "java/lang/IndexOutOfBoundsException" else "java/util/NoSuchElementException"
abbrev hhL_act : List (Nat × Nat × Nat × Nat) := [(0, 52, 98, 61), (53, 58, 98, 61), (59, 65, 98, 61), (66, 72, 98, 61), (73, 78, 98, 61), (79, 84, 98, 61), (85, 91, 98, 61), (92, 97, 98, 61), (0, 52, 103, 63), (53, 58, 103, 63), (59, 65, 103, 63), (66, 72, 103, 63), (73, 78, 103, 63), (79, 84, 103, 63), (85, 91, 103, 63), (92, 97, 103, 63), (0, 52, 108, 65), (53, 58, 108, 65), (59, 65, 108, 65), (66, 72, 108, 65), (73, 78, 108, 65), (79, 84, 108, 65), (85, 91, 108, 65), (92, 97, 108, 65), (0, 52, 113, 67), (53, 58, 113, 67), (59, 65, 113, 67), (66, 72, 113, 67), (73, 78, 113, 67), (79, 84, 113, 67), (85, 91, 113, 67), (92, 97, 113, 67), (0, 52, 118, 69), (53, 58, 118, 69), (59, 65, 118, 69), (66, 72, 118, 69), (73, 78, 118, 69), (79, 84, 118, 69), (85, 91, 118, 69), (92, 97, 118, 69)]
theorem nmL_act_ok : ∀ z ∈ hhL_act, z.2.2.2 ≠ 0 ∧ Cond.classLink RL z.2.2.2 (nmL_act z.2.2.2) ∈ BIG := by
  have key : ∀ ct : Nat, ct = 61 ∨ ct = 63 ∨ ct = 65 ∨ ct = 67 ∨ ct = 69 → ct ≠ 0 ∧ Cond.classLink RL ct (nmL_act ct) ∈ BIG := fun ct h => by
    rcases h with rfl | rfl | rfl | rfl | rfl
    · exact ⟨by decide, q5_144⟩
    · exact ⟨by decide, q5_145⟩
    · exact ⟨by decide, q5_146⟩
    · exact ⟨by decide, q5_147⟩
    · exact ⟨by decide, q5_168⟩
  have h9 : hhL_act.all (fun z => z.2.2.2 == 61 || z.2.2.2 == 63 || z.2.2.2 == 65 || z.2.2.2 == 67 || z.2.2.2 == 69) = true := by decide
  intro z hz
  have := List.all_eq_true.mp h9 z hz
  simp only [Bool.or_eq_true, beq_iff_eq] at this
  exact key _ (by omega)
/-- what act answers: the number, or the exception's mark -/
def aR (c : Nat) (r : Int32) : Int32 := if c = 0 then r else if c = 4 then -2 else if c = 5 then -3 else -4
noncomputable def fAct (m k : Nat) (p q r0 : Int32) (s : St) : Option ((Nat × Int32) × St) := if k = 0 then fX11_addNoise m p q r0 s else if k = 1 then fX11_removeNoise m p s else if k = 2 then fX11_setGear m p q s else if k = 3 then fX11_setMesh m p q s else if k = 4 then fX11_clearWheel m p s else if k = 5 then fX11_releaseNoise m p s else if k = 6 then fX11_shipSacks m p q s else fX11_advance m p s
set_option maxHeartbeats 4000000 in
set_option maxRecDepth 100000 in
theorem mL_act_0 (l : Launch) (hlt : l.stackTraces = false) (D : va_G) (cA : Nat → ClassId) (ad adF adW tt a : Nat → Nat) (fr : va_W) (ST : gST) (hT : STE ad adF adW tt ST) (hSX : STX ST) (hSN : STN ST) (nF : Nat) (p1 q1 r1 : Int32) (s0 : St) (c1 : Nat) (r : Int32) (s' : St) (h : fX11_addNoise nF p1 q1 r1 s0 = some ((c1, r), s')) (hc1 : c1 < 6) : gMetLG l yL_act cL_act 6 (some .int) hhL_act 13 2 12 D (TYS cA) ST (wc cA ad a fr s0) [.ref (a 209), .int (nI 0), .int p1, .int q1, .int r1] (gGi D (TYS cA) (fun v1 s1 => v1 = aR c1 r ∧ s1 = s') (wc cA ad a fr)) := by
  refine g_ofWLG hT.1 (by decide +kernel) (Nat.le_of_ble_eq_true rfl) ?_
  intro p e s m args below meth c ls A G htab hP hD hl
  have G : GC p s m args meth c cL_act 6 RL (some .int) A D (TYS cA) ST := G
  have hx := G.1
  have hb := G.2.1
  have hS : va_S A s.heap s.heap [] := va_S.rf
  have hl : lv_has ls 6 [(0, .ref (a 209)), (1, .int (nI 0)), (2, .int p1), (3, .int q1), (4, .int r1)] := hl
  refine lv_iload_n hx hb dL_act_0 rfl (lv_at hl 1 rfl) ?_
  refine lv_tableIn (tgt := 44) hx hb dL_act_1 (by decide) (by decide) rfl (by decide) ?_
  refine lv_aload_n hx hb dL_act_44 rfl (lv_at hl 0 rfl) ?_
  refine lv_iload_n hx hb dL_act_45 rfl (lv_at hl 2 rfl) ?_
  refine lv_iload_n hx hb dL_act_46 rfl (lv_at hl 3 rfl) ?_
  refine lv_iload hx hb dL_act_47 (lv_at hl 4 rfl) ?_
  refine gl_callVi (nA := 3) (mX11_addNoise l hlt D cA ad adF adW tt a fr ST hT hSX nF p1 q1 r1 s0 c1 r s' h) G hP hD hS (g_good q5_169 q5_170 q5_171 q1_1 q5_172) (by decide +kernel) (by decide) (by decide) sc_209 rfl rfl hl.1 [] rfl (Nat.le_of_ble_eq_true rfl) dL_act_49 (fun hc0 ce q9 H locs hP hD hS hce hcv hcl => ?_) (fun hc0 H locs hP hD hS => ?_)
  · rcases (show c1 = 1 ∨ c1 = 2 ∨ c1 = 3 ∨ c1 = 4 ∨ c1 = 5 by omega) with rfl | rfl | rfl | rfl | rfl
    · refine gl_catch (E := "java/lang/IllegalArgumentException") hSN hSX G htab 16 (st := 0) (en := 52) (hp := 108) (ct := 65) rfl nmL_act nmL_act_ok (by decide +kernel) (by decide +kernel) rfl cs_1 hce hcv hcl ?_
      refine lv_astore (lv' := [(5, .ref q9), (0, .ref (a 209)), (1, .int (nI 0)), (2, .int p1), (3, .int q1), (4, .int r1)]) hx hb dL_act_108 hl (by decide) rfl (fun ls hl => ?_)
      refine lv_bipush (v := (-4)) hx hb dL_act_110 (by decide) ?_
      exact c_reti _ ⟨rfl, rfl⟩ rfl G hP hD hS (by decide) dL_act_112
    · refine gl_catch (E := "java/lang/IndexOutOfBoundsException") hSN hSX G htab 24 (st := 0) (en := 52) (hp := 113) (ct := 67) rfl nmL_act nmL_act_ok (by decide +kernel) (by decide +kernel) rfl cs_2 hce hcv hcl ?_
      refine lv_astore (lv' := [(5, .ref q9), (0, .ref (a 209)), (1, .int (nI 0)), (2, .int p1), (3, .int q1), (4, .int r1)]) hx hb dL_act_113 hl (by decide) rfl (fun ls hl => ?_)
      refine lv_bipush (v := (-4)) hx hb dL_act_115 (by decide) ?_
      exact c_reti _ ⟨rfl, rfl⟩ rfl G hP hD hS (by decide) dL_act_117
    · refine gl_catch (E := "java/util/NoSuchElementException") hSN hSX G htab 32 (st := 0) (en := 52) (hp := 118) (ct := 69) rfl nmL_act nmL_act_ok (by decide +kernel) (by decide +kernel) rfl cs_3 hce hcv hcl ?_
      refine lv_astore (lv' := [(5, .ref q9), (0, .ref (a 209)), (1, .int (nI 0)), (2, .int p1), (3, .int q1), (4, .int r1)]) hx hb dL_act_118 hl (by decide) rfl (fun ls hl => ?_)
      refine lv_bipush (v := (-4)) hx hb dL_act_120 (by decide) ?_
      exact c_reti _ ⟨rfl, rfl⟩ rfl G hP hD hS (by decide) dL_act_122
    · refine gl_catch (E := "java/lang/IllegalStateException") hSN hSX G htab 0 (st := 0) (en := 52) (hp := 98) (ct := 61) rfl nmL_act nmL_act_ok (by decide +kernel) (by decide +kernel) rfl cs_4 hce hcv hcl ?_
      refine lv_astore (lv' := [(5, .ref q9), (0, .ref (a 209)), (1, .int (nI 0)), (2, .int p1), (3, .int q1), (4, .int r1)]) hx hb dL_act_98 hl (by decide) rfl (fun ls hl => ?_)
      refine lv_bipush (v := (-2)) hx hb dL_act_100 (by decide) ?_
      exact c_reti _ ⟨rfl, rfl⟩ rfl G hP hD hS (by decide) dL_act_102
    · refine gl_catch (E := "java/lang/UnsupportedOperationException") hSN hSX G htab 8 (st := 0) (en := 52) (hp := 103) (ct := 63) rfl nmL_act nmL_act_ok (by decide +kernel) (by decide +kernel) rfl cs_5 hce hcv hcl ?_
      refine lv_astore (lv' := [(5, .ref q9), (0, .ref (a 209)), (1, .int (nI 0)), (2, .int p1), (3, .int q1), (4, .int r1)]) hx hb dL_act_103 hl (by decide) rfl (fun ls hl => ?_)
      refine lv_bipush (v := (-3)) hx hb dL_act_105 (by decide) ?_
      exact c_reti _ ⟨rfl, rfl⟩ rfl G hP hD hS (by decide) dL_act_107
  · subst hc0
    exact c_reti _ ⟨(if_pos rfl).symm, rfl⟩ rfl G hP hD hS (by decide) dL_act_52
set_option maxHeartbeats 4000000 in
set_option maxRecDepth 100000 in
theorem mL_act_1 (l : Launch) (hlt : l.stackTraces = false) (D : va_G) (cA : Nat → ClassId) (ad adF adW tt a : Nat → Nat) (fr : va_W) (ST : gST) (hT : STE ad adF adW tt ST) (hSX : STX ST) (hSN : STN ST) (nF : Nat) (p1 q1 r1 : Int32) (s0 : St) (c1 : Nat) (r : Int32) (s' : St) (h : fX11_removeNoise nF p1 s0 = some ((c1, r), s')) (hc1 : c1 < 6) : gMetLG l yL_act cL_act 6 (some .int) hhL_act 13 2 12 D (TYS cA) ST (wc cA ad a fr s0) [.ref (a 209), .int (nI 1), .int p1, .int q1, .int r1] (gGi D (TYS cA) (fun v1 s1 => v1 = aR c1 r ∧ s1 = s') (wc cA ad a fr)) := by
  refine g_ofWLG hT.1 (by decide +kernel) (Nat.le_of_ble_eq_true rfl) ?_
  intro p e s m args below meth c ls A G htab hP hD hl
  have G : GC p s m args meth c cL_act 6 RL (some .int) A D (TYS cA) ST := G
  have hx := G.1
  have hb := G.2.1
  have hS : va_S A s.heap s.heap [] := va_S.rf
  have hl : lv_has ls 6 [(0, .ref (a 209)), (1, .int (nI 1)), (2, .int p1), (3, .int q1), (4, .int r1)] := hl
  refine lv_iload_n hx hb dL_act_0 rfl (lv_at hl 1 rfl) ?_
  refine lv_tableIn (tgt := 53) hx hb dL_act_1 (by decide) (by decide) rfl (by decide) ?_
  refine lv_aload_n hx hb dL_act_53 rfl (lv_at hl 0 rfl) ?_
  refine lv_iload_n hx hb dL_act_54 rfl (lv_at hl 2 rfl) ?_
  refine gl_callVi (nA := 1) (mX11_removeNoise l hlt D cA ad adF adW tt a fr ST hT hSX nF p1 s0 c1 r s' h) G hP hD hS (g_good q5_173 q5_174 q5_175 q1_1 q5_176) (by decide +kernel) (by decide) (by decide) sc_209 rfl rfl hl.1 [] rfl (Nat.le_of_ble_eq_true rfl) dL_act_55 (fun hc0 ce q9 H locs hP hD hS hce hcv hcl => ?_) (fun hc0 H locs hP hD hS => ?_)
  · rcases (show c1 = 1 ∨ c1 = 2 ∨ c1 = 3 ∨ c1 = 4 ∨ c1 = 5 by omega) with rfl | rfl | rfl | rfl | rfl
    · refine gl_catch (E := "java/lang/IllegalArgumentException") hSN hSX G htab 17 (st := 53) (en := 58) (hp := 108) (ct := 65) rfl nmL_act nmL_act_ok (by decide +kernel) (by decide +kernel) rfl cs_1 hce hcv hcl ?_
      refine lv_astore (lv' := [(5, .ref q9), (0, .ref (a 209)), (1, .int (nI 1)), (2, .int p1), (3, .int q1), (4, .int r1)]) hx hb dL_act_108 hl (by decide) rfl (fun ls hl => ?_)
      refine lv_bipush (v := (-4)) hx hb dL_act_110 (by decide) ?_
      exact c_reti _ ⟨rfl, rfl⟩ rfl G hP hD hS (by decide) dL_act_112
    · refine gl_catch (E := "java/lang/IndexOutOfBoundsException") hSN hSX G htab 25 (st := 53) (en := 58) (hp := 113) (ct := 67) rfl nmL_act nmL_act_ok (by decide +kernel) (by decide +kernel) rfl cs_2 hce hcv hcl ?_
      refine lv_astore (lv' := [(5, .ref q9), (0, .ref (a 209)), (1, .int (nI 1)), (2, .int p1), (3, .int q1), (4, .int r1)]) hx hb dL_act_113 hl (by decide) rfl (fun ls hl => ?_)
      refine lv_bipush (v := (-4)) hx hb dL_act_115 (by decide) ?_
      exact c_reti _ ⟨rfl, rfl⟩ rfl G hP hD hS (by decide) dL_act_117
    · refine gl_catch (E := "java/util/NoSuchElementException") hSN hSX G htab 33 (st := 53) (en := 58) (hp := 118) (ct := 69) rfl nmL_act nmL_act_ok (by decide +kernel) (by decide +kernel) rfl cs_3 hce hcv hcl ?_
      refine lv_astore (lv' := [(5, .ref q9), (0, .ref (a 209)), (1, .int (nI 1)), (2, .int p1), (3, .int q1), (4, .int r1)]) hx hb dL_act_118 hl (by decide) rfl (fun ls hl => ?_)
      refine lv_bipush (v := (-4)) hx hb dL_act_120 (by decide) ?_
      exact c_reti _ ⟨rfl, rfl⟩ rfl G hP hD hS (by decide) dL_act_122
    · refine gl_catch (E := "java/lang/IllegalStateException") hSN hSX G htab 1 (st := 53) (en := 58) (hp := 98) (ct := 61) rfl nmL_act nmL_act_ok (by decide +kernel) (by decide +kernel) rfl cs_4 hce hcv hcl ?_
      refine lv_astore (lv' := [(5, .ref q9), (0, .ref (a 209)), (1, .int (nI 1)), (2, .int p1), (3, .int q1), (4, .int r1)]) hx hb dL_act_98 hl (by decide) rfl (fun ls hl => ?_)
      refine lv_bipush (v := (-2)) hx hb dL_act_100 (by decide) ?_
      exact c_reti _ ⟨rfl, rfl⟩ rfl G hP hD hS (by decide) dL_act_102
    · refine gl_catch (E := "java/lang/UnsupportedOperationException") hSN hSX G htab 9 (st := 53) (en := 58) (hp := 103) (ct := 63) rfl nmL_act nmL_act_ok (by decide +kernel) (by decide +kernel) rfl cs_5 hce hcv hcl ?_
      refine lv_astore (lv' := [(5, .ref q9), (0, .ref (a 209)), (1, .int (nI 1)), (2, .int p1), (3, .int q1), (4, .int r1)]) hx hb dL_act_103 hl (by decide) rfl (fun ls hl => ?_)
      refine lv_bipush (v := (-3)) hx hb dL_act_105 (by decide) ?_
      exact c_reti _ ⟨rfl, rfl⟩ rfl G hP hD hS (by decide) dL_act_107
  · subst hc0
    exact c_reti _ ⟨(if_pos rfl).symm, rfl⟩ rfl G hP hD hS (by decide) dL_act_58
set_option maxHeartbeats 4000000 in
set_option maxRecDepth 100000 in
theorem mL_act_2 (l : Launch) (hlt : l.stackTraces = false) (D : va_G) (cA : Nat → ClassId) (ad adF adW tt a : Nat → Nat) (fr : va_W) (ST : gST) (hT : STE ad adF adW tt ST) (hSX : STX ST) (hSN : STN ST) (nF : Nat) (p1 q1 r1 : Int32) (s0 : St) (c1 : Nat) (r : Int32) (s' : St) (h : fX11_setGear nF p1 q1 s0 = some ((c1, r), s')) (hc1 : c1 < 6) : gMetLG l yL_act cL_act 6 (some .int) hhL_act 13 2 12 D (TYS cA) ST (wc cA ad a fr s0) [.ref (a 209), .int (nI 2), .int p1, .int q1, .int r1] (gGi D (TYS cA) (fun v1 s1 => v1 = aR c1 r ∧ s1 = s') (wc cA ad a fr)) := by
  refine g_ofWLG hT.1 (by decide +kernel) (Nat.le_of_ble_eq_true rfl) ?_
  intro p e s m args below meth c ls A G htab hP hD hl
  have G : GC p s m args meth c cL_act 6 RL (some .int) A D (TYS cA) ST := G
  have hx := G.1
  have hb := G.2.1
  have hS : va_S A s.heap s.heap [] := va_S.rf
  have hl : lv_has ls 6 [(0, .ref (a 209)), (1, .int (nI 2)), (2, .int p1), (3, .int q1), (4, .int r1)] := hl
  refine lv_iload_n hx hb dL_act_0 rfl (lv_at hl 1 rfl) ?_
  refine lv_tableIn (tgt := 59) hx hb dL_act_1 (by decide) (by decide) rfl (by decide) ?_
  refine lv_aload_n hx hb dL_act_59 rfl (lv_at hl 0 rfl) ?_
  refine lv_iload_n hx hb dL_act_60 rfl (lv_at hl 2 rfl) ?_
  refine lv_iload_n hx hb dL_act_61 rfl (lv_at hl 3 rfl) ?_
  refine gl_callVi (nA := 2) (mX11_setGear l hlt D cA ad adF adW tt a fr ST hT hSX nF p1 q1 s0 c1 r s' h) G hP hD hS (g_good q2_81 q2_82 q2_83 q1_1 q2_84) (by decide +kernel) (by decide) (by decide) sc_209 rfl rfl hl.1 [] rfl (Nat.le_of_ble_eq_true rfl) dL_act_62 (fun hc0 ce q9 H locs hP hD hS hce hcv hcl => ?_) (fun hc0 H locs hP hD hS => ?_)
  · rcases (show c1 = 1 ∨ c1 = 2 ∨ c1 = 3 ∨ c1 = 4 ∨ c1 = 5 by omega) with rfl | rfl | rfl | rfl | rfl
    · refine gl_catch (E := "java/lang/IllegalArgumentException") hSN hSX G htab 18 (st := 59) (en := 65) (hp := 108) (ct := 65) rfl nmL_act nmL_act_ok (by decide +kernel) (by decide +kernel) rfl cs_1 hce hcv hcl ?_
      refine lv_astore (lv' := [(5, .ref q9), (0, .ref (a 209)), (1, .int (nI 2)), (2, .int p1), (3, .int q1), (4, .int r1)]) hx hb dL_act_108 hl (by decide) rfl (fun ls hl => ?_)
      refine lv_bipush (v := (-4)) hx hb dL_act_110 (by decide) ?_
      exact c_reti _ ⟨rfl, rfl⟩ rfl G hP hD hS (by decide) dL_act_112
    · refine gl_catch (E := "java/lang/IndexOutOfBoundsException") hSN hSX G htab 26 (st := 59) (en := 65) (hp := 113) (ct := 67) rfl nmL_act nmL_act_ok (by decide +kernel) (by decide +kernel) rfl cs_2 hce hcv hcl ?_
      refine lv_astore (lv' := [(5, .ref q9), (0, .ref (a 209)), (1, .int (nI 2)), (2, .int p1), (3, .int q1), (4, .int r1)]) hx hb dL_act_113 hl (by decide) rfl (fun ls hl => ?_)
      refine lv_bipush (v := (-4)) hx hb dL_act_115 (by decide) ?_
      exact c_reti _ ⟨rfl, rfl⟩ rfl G hP hD hS (by decide) dL_act_117
    · refine gl_catch (E := "java/util/NoSuchElementException") hSN hSX G htab 34 (st := 59) (en := 65) (hp := 118) (ct := 69) rfl nmL_act nmL_act_ok (by decide +kernel) (by decide +kernel) rfl cs_3 hce hcv hcl ?_
      refine lv_astore (lv' := [(5, .ref q9), (0, .ref (a 209)), (1, .int (nI 2)), (2, .int p1), (3, .int q1), (4, .int r1)]) hx hb dL_act_118 hl (by decide) rfl (fun ls hl => ?_)
      refine lv_bipush (v := (-4)) hx hb dL_act_120 (by decide) ?_
      exact c_reti _ ⟨rfl, rfl⟩ rfl G hP hD hS (by decide) dL_act_122
    · refine gl_catch (E := "java/lang/IllegalStateException") hSN hSX G htab 2 (st := 59) (en := 65) (hp := 98) (ct := 61) rfl nmL_act nmL_act_ok (by decide +kernel) (by decide +kernel) rfl cs_4 hce hcv hcl ?_
      refine lv_astore (lv' := [(5, .ref q9), (0, .ref (a 209)), (1, .int (nI 2)), (2, .int p1), (3, .int q1), (4, .int r1)]) hx hb dL_act_98 hl (by decide) rfl (fun ls hl => ?_)
      refine lv_bipush (v := (-2)) hx hb dL_act_100 (by decide) ?_
      exact c_reti _ ⟨rfl, rfl⟩ rfl G hP hD hS (by decide) dL_act_102
    · refine gl_catch (E := "java/lang/UnsupportedOperationException") hSN hSX G htab 10 (st := 59) (en := 65) (hp := 103) (ct := 63) rfl nmL_act nmL_act_ok (by decide +kernel) (by decide +kernel) rfl cs_5 hce hcv hcl ?_
      refine lv_astore (lv' := [(5, .ref q9), (0, .ref (a 209)), (1, .int (nI 2)), (2, .int p1), (3, .int q1), (4, .int r1)]) hx hb dL_act_103 hl (by decide) rfl (fun ls hl => ?_)
      refine lv_bipush (v := (-3)) hx hb dL_act_105 (by decide) ?_
      exact c_reti _ ⟨rfl, rfl⟩ rfl G hP hD hS (by decide) dL_act_107
  · subst hc0
    exact c_reti _ ⟨(if_pos rfl).symm, rfl⟩ rfl G hP hD hS (by decide) dL_act_65
set_option maxHeartbeats 4000000 in
set_option maxRecDepth 100000 in
theorem mL_act_3 (l : Launch) (hlt : l.stackTraces = false) (D : va_G) (cA : Nat → ClassId) (ad adF adW tt a : Nat → Nat) (fr : va_W) (ST : gST) (hT : STE ad adF adW tt ST) (hSX : STX ST) (hSN : STN ST) (nF : Nat) (p1 q1 r1 : Int32) (s0 : St) (c1 : Nat) (r : Int32) (s' : St) (h : fX11_setMesh nF p1 q1 s0 = some ((c1, r), s')) (hc1 : c1 < 6) : gMetLG l yL_act cL_act 6 (some .int) hhL_act 13 2 12 D (TYS cA) ST (wc cA ad a fr s0) [.ref (a 209), .int (nI 3), .int p1, .int q1, .int r1] (gGi D (TYS cA) (fun v1 s1 => v1 = aR c1 r ∧ s1 = s') (wc cA ad a fr)) := by
  refine g_ofWLG hT.1 (by decide +kernel) (Nat.le_of_ble_eq_true rfl) ?_
  intro p e s m args below meth c ls A G htab hP hD hl
  have G : GC p s m args meth c cL_act 6 RL (some .int) A D (TYS cA) ST := G
  have hx := G.1
  have hb := G.2.1
  have hS : va_S A s.heap s.heap [] := va_S.rf
  have hl : lv_has ls 6 [(0, .ref (a 209)), (1, .int (nI 3)), (2, .int p1), (3, .int q1), (4, .int r1)] := hl
  refine lv_iload_n hx hb dL_act_0 rfl (lv_at hl 1 rfl) ?_
  refine lv_tableIn (tgt := 66) hx hb dL_act_1 (by decide) (by decide) rfl (by decide) ?_
  refine lv_aload_n hx hb dL_act_66 rfl (lv_at hl 0 rfl) ?_
  refine lv_iload_n hx hb dL_act_67 rfl (lv_at hl 2 rfl) ?_
  refine lv_iload_n hx hb dL_act_68 rfl (lv_at hl 3 rfl) ?_
  refine gl_callVi (nA := 2) (mX11_setMesh l hlt D cA ad adF adW tt a fr ST hT hSX nF p1 q1 s0 c1 r s' h) G hP hD hS (g_good q3_42 q3_43 q3_44 q1_1 q3_45) (by decide +kernel) (by decide) (by decide) sc_209 rfl rfl hl.1 [] rfl (Nat.le_of_ble_eq_true rfl) dL_act_69 (fun hc0 ce q9 H locs hP hD hS hce hcv hcl => ?_) (fun hc0 H locs hP hD hS => ?_)
  · rcases (show c1 = 1 ∨ c1 = 2 ∨ c1 = 3 ∨ c1 = 4 ∨ c1 = 5 by omega) with rfl | rfl | rfl | rfl | rfl
    · refine gl_catch (E := "java/lang/IllegalArgumentException") hSN hSX G htab 19 (st := 66) (en := 72) (hp := 108) (ct := 65) rfl nmL_act nmL_act_ok (by decide +kernel) (by decide +kernel) rfl cs_1 hce hcv hcl ?_
      refine lv_astore (lv' := [(5, .ref q9), (0, .ref (a 209)), (1, .int (nI 3)), (2, .int p1), (3, .int q1), (4, .int r1)]) hx hb dL_act_108 hl (by decide) rfl (fun ls hl => ?_)
      refine lv_bipush (v := (-4)) hx hb dL_act_110 (by decide) ?_
      exact c_reti _ ⟨rfl, rfl⟩ rfl G hP hD hS (by decide) dL_act_112
    · refine gl_catch (E := "java/lang/IndexOutOfBoundsException") hSN hSX G htab 27 (st := 66) (en := 72) (hp := 113) (ct := 67) rfl nmL_act nmL_act_ok (by decide +kernel) (by decide +kernel) rfl cs_2 hce hcv hcl ?_
      refine lv_astore (lv' := [(5, .ref q9), (0, .ref (a 209)), (1, .int (nI 3)), (2, .int p1), (3, .int q1), (4, .int r1)]) hx hb dL_act_113 hl (by decide) rfl (fun ls hl => ?_)
      refine lv_bipush (v := (-4)) hx hb dL_act_115 (by decide) ?_
      exact c_reti _ ⟨rfl, rfl⟩ rfl G hP hD hS (by decide) dL_act_117
    · refine gl_catch (E := "java/util/NoSuchElementException") hSN hSX G htab 35 (st := 66) (en := 72) (hp := 118) (ct := 69) rfl nmL_act nmL_act_ok (by decide +kernel) (by decide +kernel) rfl cs_3 hce hcv hcl ?_
      refine lv_astore (lv' := [(5, .ref q9), (0, .ref (a 209)), (1, .int (nI 3)), (2, .int p1), (3, .int q1), (4, .int r1)]) hx hb dL_act_118 hl (by decide) rfl (fun ls hl => ?_)
      refine lv_bipush (v := (-4)) hx hb dL_act_120 (by decide) ?_
      exact c_reti _ ⟨rfl, rfl⟩ rfl G hP hD hS (by decide) dL_act_122
    · refine gl_catch (E := "java/lang/IllegalStateException") hSN hSX G htab 3 (st := 66) (en := 72) (hp := 98) (ct := 61) rfl nmL_act nmL_act_ok (by decide +kernel) (by decide +kernel) rfl cs_4 hce hcv hcl ?_
      refine lv_astore (lv' := [(5, .ref q9), (0, .ref (a 209)), (1, .int (nI 3)), (2, .int p1), (3, .int q1), (4, .int r1)]) hx hb dL_act_98 hl (by decide) rfl (fun ls hl => ?_)
      refine lv_bipush (v := (-2)) hx hb dL_act_100 (by decide) ?_
      exact c_reti _ ⟨rfl, rfl⟩ rfl G hP hD hS (by decide) dL_act_102
    · refine gl_catch (E := "java/lang/UnsupportedOperationException") hSN hSX G htab 11 (st := 66) (en := 72) (hp := 103) (ct := 63) rfl nmL_act nmL_act_ok (by decide +kernel) (by decide +kernel) rfl cs_5 hce hcv hcl ?_
      refine lv_astore (lv' := [(5, .ref q9), (0, .ref (a 209)), (1, .int (nI 3)), (2, .int p1), (3, .int q1), (4, .int r1)]) hx hb dL_act_103 hl (by decide) rfl (fun ls hl => ?_)
      refine lv_bipush (v := (-3)) hx hb dL_act_105 (by decide) ?_
      exact c_reti _ ⟨rfl, rfl⟩ rfl G hP hD hS (by decide) dL_act_107
  · subst hc0
    exact c_reti _ ⟨(if_pos rfl).symm, rfl⟩ rfl G hP hD hS (by decide) dL_act_72
set_option maxHeartbeats 4000000 in
set_option maxRecDepth 100000 in
theorem mL_act_4 (l : Launch) (hlt : l.stackTraces = false) (D : va_G) (cA : Nat → ClassId) (ad adF adW tt a : Nat → Nat) (fr : va_W) (ST : gST) (hT : STE ad adF adW tt ST) (hSX : STX ST) (hSN : STN ST) (nF : Nat) (p1 q1 r1 : Int32) (s0 : St) (c1 : Nat) (r : Int32) (s' : St) (h : fX11_clearWheel nF p1 s0 = some ((c1, r), s')) (hc1 : c1 < 6) : gMetLG l yL_act cL_act 6 (some .int) hhL_act 13 2 12 D (TYS cA) ST (wc cA ad a fr s0) [.ref (a 209), .int (nI 4), .int p1, .int q1, .int r1] (gGi D (TYS cA) (fun v1 s1 => v1 = aR c1 r ∧ s1 = s') (wc cA ad a fr)) := by
  refine g_ofWLG hT.1 (by decide +kernel) (Nat.le_of_ble_eq_true rfl) ?_
  intro p e s m args below meth c ls A G htab hP hD hl
  have G : GC p s m args meth c cL_act 6 RL (some .int) A D (TYS cA) ST := G
  have hx := G.1
  have hb := G.2.1
  have hS : va_S A s.heap s.heap [] := va_S.rf
  have hl : lv_has ls 6 [(0, .ref (a 209)), (1, .int (nI 4)), (2, .int p1), (3, .int q1), (4, .int r1)] := hl
  refine lv_iload_n hx hb dL_act_0 rfl (lv_at hl 1 rfl) ?_
  refine lv_tableIn (tgt := 73) hx hb dL_act_1 (by decide) (by decide) rfl (by decide) ?_
  refine lv_aload_n hx hb dL_act_73 rfl (lv_at hl 0 rfl) ?_
  refine lv_iload_n hx hb dL_act_74 rfl (lv_at hl 2 rfl) ?_
  refine gl_callVi (nA := 1) (mX11_clearWheel l hlt D cA ad adF adW tt a fr ST hT hSX nF p1 s0 c1 r s' h) G hP hD hS (g_good q3_56 q3_57 q3_58 q1_1 q3_59) (by decide +kernel) (by decide) (by decide) sc_209 rfl rfl hl.1 [] rfl (Nat.le_of_ble_eq_true rfl) dL_act_75 (fun hc0 ce q9 H locs hP hD hS hce hcv hcl => ?_) (fun hc0 H locs hP hD hS => ?_)
  · rcases (show c1 = 1 ∨ c1 = 2 ∨ c1 = 3 ∨ c1 = 4 ∨ c1 = 5 by omega) with rfl | rfl | rfl | rfl | rfl
    · refine gl_catch (E := "java/lang/IllegalArgumentException") hSN hSX G htab 20 (st := 73) (en := 78) (hp := 108) (ct := 65) rfl nmL_act nmL_act_ok (by decide +kernel) (by decide +kernel) rfl cs_1 hce hcv hcl ?_
      refine lv_astore (lv' := [(5, .ref q9), (0, .ref (a 209)), (1, .int (nI 4)), (2, .int p1), (3, .int q1), (4, .int r1)]) hx hb dL_act_108 hl (by decide) rfl (fun ls hl => ?_)
      refine lv_bipush (v := (-4)) hx hb dL_act_110 (by decide) ?_
      exact c_reti _ ⟨rfl, rfl⟩ rfl G hP hD hS (by decide) dL_act_112
    · refine gl_catch (E := "java/lang/IndexOutOfBoundsException") hSN hSX G htab 28 (st := 73) (en := 78) (hp := 113) (ct := 67) rfl nmL_act nmL_act_ok (by decide +kernel) (by decide +kernel) rfl cs_2 hce hcv hcl ?_
      refine lv_astore (lv' := [(5, .ref q9), (0, .ref (a 209)), (1, .int (nI 4)), (2, .int p1), (3, .int q1), (4, .int r1)]) hx hb dL_act_113 hl (by decide) rfl (fun ls hl => ?_)
      refine lv_bipush (v := (-4)) hx hb dL_act_115 (by decide) ?_
      exact c_reti _ ⟨rfl, rfl⟩ rfl G hP hD hS (by decide) dL_act_117
    · refine gl_catch (E := "java/util/NoSuchElementException") hSN hSX G htab 36 (st := 73) (en := 78) (hp := 118) (ct := 69) rfl nmL_act nmL_act_ok (by decide +kernel) (by decide +kernel) rfl cs_3 hce hcv hcl ?_
      refine lv_astore (lv' := [(5, .ref q9), (0, .ref (a 209)), (1, .int (nI 4)), (2, .int p1), (3, .int q1), (4, .int r1)]) hx hb dL_act_118 hl (by decide) rfl (fun ls hl => ?_)
      refine lv_bipush (v := (-4)) hx hb dL_act_120 (by decide) ?_
      exact c_reti _ ⟨rfl, rfl⟩ rfl G hP hD hS (by decide) dL_act_122
    · refine gl_catch (E := "java/lang/IllegalStateException") hSN hSX G htab 4 (st := 73) (en := 78) (hp := 98) (ct := 61) rfl nmL_act nmL_act_ok (by decide +kernel) (by decide +kernel) rfl cs_4 hce hcv hcl ?_
      refine lv_astore (lv' := [(5, .ref q9), (0, .ref (a 209)), (1, .int (nI 4)), (2, .int p1), (3, .int q1), (4, .int r1)]) hx hb dL_act_98 hl (by decide) rfl (fun ls hl => ?_)
      refine lv_bipush (v := (-2)) hx hb dL_act_100 (by decide) ?_
      exact c_reti _ ⟨rfl, rfl⟩ rfl G hP hD hS (by decide) dL_act_102
    · refine gl_catch (E := "java/lang/UnsupportedOperationException") hSN hSX G htab 12 (st := 73) (en := 78) (hp := 103) (ct := 63) rfl nmL_act nmL_act_ok (by decide +kernel) (by decide +kernel) rfl cs_5 hce hcv hcl ?_
      refine lv_astore (lv' := [(5, .ref q9), (0, .ref (a 209)), (1, .int (nI 4)), (2, .int p1), (3, .int q1), (4, .int r1)]) hx hb dL_act_103 hl (by decide) rfl (fun ls hl => ?_)
      refine lv_bipush (v := (-3)) hx hb dL_act_105 (by decide) ?_
      exact c_reti _ ⟨rfl, rfl⟩ rfl G hP hD hS (by decide) dL_act_107
  · subst hc0
    exact c_reti _ ⟨(if_pos rfl).symm, rfl⟩ rfl G hP hD hS (by decide) dL_act_78
set_option maxHeartbeats 4000000 in
set_option maxRecDepth 100000 in
theorem mL_act_5 (l : Launch) (hlt : l.stackTraces = false) (D : va_G) (cA : Nat → ClassId) (ad adF adW tt a : Nat → Nat) (fr : va_W) (ST : gST) (hT : STE ad adF adW tt ST) (hSX : STX ST) (hSN : STN ST) (nF : Nat) (p1 q1 r1 : Int32) (s0 : St) (c1 : Nat) (r : Int32) (s' : St) (h : fX11_releaseNoise nF p1 s0 = some ((c1, r), s')) (hc1 : c1 < 6) : gMetLG l yL_act cL_act 6 (some .int) hhL_act 13 2 12 D (TYS cA) ST (wc cA ad a fr s0) [.ref (a 209), .int (nI 5), .int p1, .int q1, .int r1] (gGi D (TYS cA) (fun v1 s1 => v1 = aR c1 r ∧ s1 = s') (wc cA ad a fr)) := by
  refine g_ofWLG hT.1 (by decide +kernel) (Nat.le_of_ble_eq_true rfl) ?_
  intro p e s m args below meth c ls A G htab hP hD hl
  have G : GC p s m args meth c cL_act 6 RL (some .int) A D (TYS cA) ST := G
  have hx := G.1
  have hb := G.2.1
  have hS : va_S A s.heap s.heap [] := va_S.rf
  have hl : lv_has ls 6 [(0, .ref (a 209)), (1, .int (nI 5)), (2, .int p1), (3, .int q1), (4, .int r1)] := hl
  refine lv_iload_n hx hb dL_act_0 rfl (lv_at hl 1 rfl) ?_
  refine lv_tableIn (tgt := 79) hx hb dL_act_1 (by decide) (by decide) rfl (by decide) ?_
  refine lv_aload_n hx hb dL_act_79 rfl (lv_at hl 0 rfl) ?_
  refine lv_iload_n hx hb dL_act_80 rfl (lv_at hl 2 rfl) ?_
  refine gl_callVi (nA := 1) (mX11_releaseNoise l hlt D cA ad adF adW tt a fr ST hT hSX nF p1 s0 c1 r s' h) G hP hD hS (g_good q3_67 q3_68 q3_69 q1_1 q3_70) (by decide +kernel) (by decide) (by decide) sc_209 rfl rfl hl.1 [] rfl (Nat.le_of_ble_eq_true rfl) dL_act_81 (fun hc0 ce q9 H locs hP hD hS hce hcv hcl => ?_) (fun hc0 H locs hP hD hS => ?_)
  · rcases (show c1 = 1 ∨ c1 = 2 ∨ c1 = 3 ∨ c1 = 4 ∨ c1 = 5 by omega) with rfl | rfl | rfl | rfl | rfl
    · refine gl_catch (E := "java/lang/IllegalArgumentException") hSN hSX G htab 21 (st := 79) (en := 84) (hp := 108) (ct := 65) rfl nmL_act nmL_act_ok (by decide +kernel) (by decide +kernel) rfl cs_1 hce hcv hcl ?_
      refine lv_astore (lv' := [(5, .ref q9), (0, .ref (a 209)), (1, .int (nI 5)), (2, .int p1), (3, .int q1), (4, .int r1)]) hx hb dL_act_108 hl (by decide) rfl (fun ls hl => ?_)
      refine lv_bipush (v := (-4)) hx hb dL_act_110 (by decide) ?_
      exact c_reti _ ⟨rfl, rfl⟩ rfl G hP hD hS (by decide) dL_act_112
    · refine gl_catch (E := "java/lang/IndexOutOfBoundsException") hSN hSX G htab 29 (st := 79) (en := 84) (hp := 113) (ct := 67) rfl nmL_act nmL_act_ok (by decide +kernel) (by decide +kernel) rfl cs_2 hce hcv hcl ?_
      refine lv_astore (lv' := [(5, .ref q9), (0, .ref (a 209)), (1, .int (nI 5)), (2, .int p1), (3, .int q1), (4, .int r1)]) hx hb dL_act_113 hl (by decide) rfl (fun ls hl => ?_)
      refine lv_bipush (v := (-4)) hx hb dL_act_115 (by decide) ?_
      exact c_reti _ ⟨rfl, rfl⟩ rfl G hP hD hS (by decide) dL_act_117
    · refine gl_catch (E := "java/util/NoSuchElementException") hSN hSX G htab 37 (st := 79) (en := 84) (hp := 118) (ct := 69) rfl nmL_act nmL_act_ok (by decide +kernel) (by decide +kernel) rfl cs_3 hce hcv hcl ?_
      refine lv_astore (lv' := [(5, .ref q9), (0, .ref (a 209)), (1, .int (nI 5)), (2, .int p1), (3, .int q1), (4, .int r1)]) hx hb dL_act_118 hl (by decide) rfl (fun ls hl => ?_)
      refine lv_bipush (v := (-4)) hx hb dL_act_120 (by decide) ?_
      exact c_reti _ ⟨rfl, rfl⟩ rfl G hP hD hS (by decide) dL_act_122
    · refine gl_catch (E := "java/lang/IllegalStateException") hSN hSX G htab 5 (st := 79) (en := 84) (hp := 98) (ct := 61) rfl nmL_act nmL_act_ok (by decide +kernel) (by decide +kernel) rfl cs_4 hce hcv hcl ?_
      refine lv_astore (lv' := [(5, .ref q9), (0, .ref (a 209)), (1, .int (nI 5)), (2, .int p1), (3, .int q1), (4, .int r1)]) hx hb dL_act_98 hl (by decide) rfl (fun ls hl => ?_)
      refine lv_bipush (v := (-2)) hx hb dL_act_100 (by decide) ?_
      exact c_reti _ ⟨rfl, rfl⟩ rfl G hP hD hS (by decide) dL_act_102
    · refine gl_catch (E := "java/lang/UnsupportedOperationException") hSN hSX G htab 13 (st := 79) (en := 84) (hp := 103) (ct := 63) rfl nmL_act nmL_act_ok (by decide +kernel) (by decide +kernel) rfl cs_5 hce hcv hcl ?_
      refine lv_astore (lv' := [(5, .ref q9), (0, .ref (a 209)), (1, .int (nI 5)), (2, .int p1), (3, .int q1), (4, .int r1)]) hx hb dL_act_103 hl (by decide) rfl (fun ls hl => ?_)
      refine lv_bipush (v := (-3)) hx hb dL_act_105 (by decide) ?_
      exact c_reti _ ⟨rfl, rfl⟩ rfl G hP hD hS (by decide) dL_act_107
  · subst hc0
    exact c_reti _ ⟨(if_pos rfl).symm, rfl⟩ rfl G hP hD hS (by decide) dL_act_84
set_option maxHeartbeats 4000000 in
set_option maxRecDepth 100000 in
theorem mL_act_6 (l : Launch) (hlt : l.stackTraces = false) (D : va_G) (cA : Nat → ClassId) (ad adF adW tt a : Nat → Nat) (fr : va_W) (ST : gST) (hT : STE ad adF adW tt ST) (hSX : STX ST) (hSN : STN ST) (nF : Nat) (p1 q1 r1 : Int32) (s0 : St) (c1 : Nat) (r : Int32) (s' : St) (h : fX11_shipSacks nF p1 q1 s0 = some ((c1, r), s')) (hc1 : c1 < 6) : gMetLG l yL_act cL_act 6 (some .int) hhL_act 13 2 12 D (TYS cA) ST (wc cA ad a fr s0) [.ref (a 209), .int (nI 6), .int p1, .int q1, .int r1] (gGi D (TYS cA) (fun v1 s1 => v1 = aR c1 r ∧ s1 = s') (wc cA ad a fr)) := by
  refine g_ofWLG hT.1 (by decide +kernel) (Nat.le_of_ble_eq_true rfl) ?_
  intro p e s m args below meth c ls A G htab hP hD hl
  have G : GC p s m args meth c cL_act 6 RL (some .int) A D (TYS cA) ST := G
  have hx := G.1
  have hb := G.2.1
  have hS : va_S A s.heap s.heap [] := va_S.rf
  have hl : lv_has ls 6 [(0, .ref (a 209)), (1, .int (nI 6)), (2, .int p1), (3, .int q1), (4, .int r1)] := hl
  refine lv_iload_n hx hb dL_act_0 rfl (lv_at hl 1 rfl) ?_
  refine lv_tableIn (tgt := 85) hx hb dL_act_1 (by decide) (by decide) rfl (by decide) ?_
  refine lv_aload_n hx hb dL_act_85 rfl (lv_at hl 0 rfl) ?_
  refine lv_iload_n hx hb dL_act_86 rfl (lv_at hl 2 rfl) ?_
  refine lv_iload_n hx hb dL_act_87 rfl (lv_at hl 3 rfl) ?_
  refine gl_callVi (nA := 2) (mX11_shipSacks l hlt D cA ad adF adW tt a fr ST hT hSX nF p1 q1 s0 c1 r s' h) G hP hD hS (g_good q5_177 q5_178 q5_179 q1_1 q5_180) (by decide +kernel) (by decide) (by decide) sc_209 rfl rfl hl.1 [] rfl (Nat.le_of_ble_eq_true rfl) dL_act_88 (fun hc0 ce q9 H locs hP hD hS hce hcv hcl => ?_) (fun hc0 H locs hP hD hS => ?_)
  · rcases (show c1 = 1 ∨ c1 = 2 ∨ c1 = 3 ∨ c1 = 4 ∨ c1 = 5 by omega) with rfl | rfl | rfl | rfl | rfl
    · refine gl_catch (E := "java/lang/IllegalArgumentException") hSN hSX G htab 22 (st := 85) (en := 91) (hp := 108) (ct := 65) rfl nmL_act nmL_act_ok (by decide +kernel) (by decide +kernel) rfl cs_1 hce hcv hcl ?_
      refine lv_astore (lv' := [(5, .ref q9), (0, .ref (a 209)), (1, .int (nI 6)), (2, .int p1), (3, .int q1), (4, .int r1)]) hx hb dL_act_108 hl (by decide) rfl (fun ls hl => ?_)
      refine lv_bipush (v := (-4)) hx hb dL_act_110 (by decide) ?_
      exact c_reti _ ⟨rfl, rfl⟩ rfl G hP hD hS (by decide) dL_act_112
    · refine gl_catch (E := "java/lang/IndexOutOfBoundsException") hSN hSX G htab 30 (st := 85) (en := 91) (hp := 113) (ct := 67) rfl nmL_act nmL_act_ok (by decide +kernel) (by decide +kernel) rfl cs_2 hce hcv hcl ?_
      refine lv_astore (lv' := [(5, .ref q9), (0, .ref (a 209)), (1, .int (nI 6)), (2, .int p1), (3, .int q1), (4, .int r1)]) hx hb dL_act_113 hl (by decide) rfl (fun ls hl => ?_)
      refine lv_bipush (v := (-4)) hx hb dL_act_115 (by decide) ?_
      exact c_reti _ ⟨rfl, rfl⟩ rfl G hP hD hS (by decide) dL_act_117
    · refine gl_catch (E := "java/util/NoSuchElementException") hSN hSX G htab 38 (st := 85) (en := 91) (hp := 118) (ct := 69) rfl nmL_act nmL_act_ok (by decide +kernel) (by decide +kernel) rfl cs_3 hce hcv hcl ?_
      refine lv_astore (lv' := [(5, .ref q9), (0, .ref (a 209)), (1, .int (nI 6)), (2, .int p1), (3, .int q1), (4, .int r1)]) hx hb dL_act_118 hl (by decide) rfl (fun ls hl => ?_)
      refine lv_bipush (v := (-4)) hx hb dL_act_120 (by decide) ?_
      exact c_reti _ ⟨rfl, rfl⟩ rfl G hP hD hS (by decide) dL_act_122
    · refine gl_catch (E := "java/lang/IllegalStateException") hSN hSX G htab 6 (st := 85) (en := 91) (hp := 98) (ct := 61) rfl nmL_act nmL_act_ok (by decide +kernel) (by decide +kernel) rfl cs_4 hce hcv hcl ?_
      refine lv_astore (lv' := [(5, .ref q9), (0, .ref (a 209)), (1, .int (nI 6)), (2, .int p1), (3, .int q1), (4, .int r1)]) hx hb dL_act_98 hl (by decide) rfl (fun ls hl => ?_)
      refine lv_bipush (v := (-2)) hx hb dL_act_100 (by decide) ?_
      exact c_reti _ ⟨rfl, rfl⟩ rfl G hP hD hS (by decide) dL_act_102
    · refine gl_catch (E := "java/lang/UnsupportedOperationException") hSN hSX G htab 14 (st := 85) (en := 91) (hp := 103) (ct := 63) rfl nmL_act nmL_act_ok (by decide +kernel) (by decide +kernel) rfl cs_5 hce hcv hcl ?_
      refine lv_astore (lv' := [(5, .ref q9), (0, .ref (a 209)), (1, .int (nI 6)), (2, .int p1), (3, .int q1), (4, .int r1)]) hx hb dL_act_103 hl (by decide) rfl (fun ls hl => ?_)
      refine lv_bipush (v := (-3)) hx hb dL_act_105 (by decide) ?_
      exact c_reti _ ⟨rfl, rfl⟩ rfl G hP hD hS (by decide) dL_act_107
  · subst hc0
    exact c_reti _ ⟨(if_pos rfl).symm, rfl⟩ rfl G hP hD hS (by decide) dL_act_91
set_option maxHeartbeats 4000000 in
set_option maxRecDepth 100000 in
theorem mL_act_7 (l : Launch) (hlt : l.stackTraces = false) (D : va_G) (cA : Nat → ClassId) (ad adF adW tt a : Nat → Nat) (fr : va_W) (ST : gST) (hT : STE ad adF adW tt ST) (hSX : STX ST) (hSN : STN ST) (nF : Nat) (p1 q1 r1 : Int32) (s0 : St) (c1 : Nat) (r : Int32) (s' : St) (h : fX11_advance nF p1 s0 = some ((c1, r), s')) (hc1 : c1 < 6) : gMetLG l yL_act cL_act 6 (some .int) hhL_act 13 2 12 D (TYS cA) ST (wc cA ad a fr s0) [.ref (a 209), .int (nI 7), .int p1, .int q1, .int r1] (gGi D (TYS cA) (fun v1 s1 => v1 = aR c1 r ∧ s1 = s') (wc cA ad a fr)) := by
  refine g_ofWLG hT.1 (by decide +kernel) (Nat.le_of_ble_eq_true rfl) ?_
  intro p e s m args below meth c ls A G htab hP hD hl
  have G : GC p s m args meth c cL_act 6 RL (some .int) A D (TYS cA) ST := G
  have hx := G.1
  have hb := G.2.1
  have hS : va_S A s.heap s.heap [] := va_S.rf
  have hl : lv_has ls 6 [(0, .ref (a 209)), (1, .int (nI 7)), (2, .int p1), (3, .int q1), (4, .int r1)] := hl
  refine lv_iload_n hx hb dL_act_0 rfl (lv_at hl 1 rfl) ?_
  refine lv_tableOut (tgt := 92) hx hb dL_act_1 (Or.inr (by decide)) (by decide) ?_
  refine lv_aload_n hx hb dL_act_92 rfl (lv_at hl 0 rfl) ?_
  refine lv_iload_n hx hb dL_act_93 rfl (lv_at hl 2 rfl) ?_
  refine gl_callVi (nA := 1) (mX11_advance l hlt D cA ad adF adW tt a fr ST hT hSX nF p1 s0 c1 r s' h) G hP hD hS (g_good q3_103 q3_104 q3_105 q1_1 q3_106) (by decide +kernel) (by decide) (by decide) sc_209 rfl rfl hl.1 [] rfl (Nat.le_of_ble_eq_true rfl) dL_act_94 (fun hc0 ce q9 H locs hP hD hS hce hcv hcl => ?_) (fun hc0 H locs hP hD hS => ?_)
  · rcases (show c1 = 1 ∨ c1 = 2 ∨ c1 = 3 ∨ c1 = 4 ∨ c1 = 5 by omega) with rfl | rfl | rfl | rfl | rfl
    · refine gl_catch (E := "java/lang/IllegalArgumentException") hSN hSX G htab 23 (st := 92) (en := 97) (hp := 108) (ct := 65) rfl nmL_act nmL_act_ok (by decide +kernel) (by decide +kernel) rfl cs_1 hce hcv hcl ?_
      refine lv_astore (lv' := [(5, .ref q9), (0, .ref (a 209)), (1, .int (nI 7)), (2, .int p1), (3, .int q1), (4, .int r1)]) hx hb dL_act_108 hl (by decide) rfl (fun ls hl => ?_)
      refine lv_bipush (v := (-4)) hx hb dL_act_110 (by decide) ?_
      exact c_reti _ ⟨rfl, rfl⟩ rfl G hP hD hS (by decide) dL_act_112
    · refine gl_catch (E := "java/lang/IndexOutOfBoundsException") hSN hSX G htab 31 (st := 92) (en := 97) (hp := 113) (ct := 67) rfl nmL_act nmL_act_ok (by decide +kernel) (by decide +kernel) rfl cs_2 hce hcv hcl ?_
      refine lv_astore (lv' := [(5, .ref q9), (0, .ref (a 209)), (1, .int (nI 7)), (2, .int p1), (3, .int q1), (4, .int r1)]) hx hb dL_act_113 hl (by decide) rfl (fun ls hl => ?_)
      refine lv_bipush (v := (-4)) hx hb dL_act_115 (by decide) ?_
      exact c_reti _ ⟨rfl, rfl⟩ rfl G hP hD hS (by decide) dL_act_117
    · refine gl_catch (E := "java/util/NoSuchElementException") hSN hSX G htab 39 (st := 92) (en := 97) (hp := 118) (ct := 69) rfl nmL_act nmL_act_ok (by decide +kernel) (by decide +kernel) rfl cs_3 hce hcv hcl ?_
      refine lv_astore (lv' := [(5, .ref q9), (0, .ref (a 209)), (1, .int (nI 7)), (2, .int p1), (3, .int q1), (4, .int r1)]) hx hb dL_act_118 hl (by decide) rfl (fun ls hl => ?_)
      refine lv_bipush (v := (-4)) hx hb dL_act_120 (by decide) ?_
      exact c_reti _ ⟨rfl, rfl⟩ rfl G hP hD hS (by decide) dL_act_122
    · refine gl_catch (E := "java/lang/IllegalStateException") hSN hSX G htab 7 (st := 92) (en := 97) (hp := 98) (ct := 61) rfl nmL_act nmL_act_ok (by decide +kernel) (by decide +kernel) rfl cs_4 hce hcv hcl ?_
      refine lv_astore (lv' := [(5, .ref q9), (0, .ref (a 209)), (1, .int (nI 7)), (2, .int p1), (3, .int q1), (4, .int r1)]) hx hb dL_act_98 hl (by decide) rfl (fun ls hl => ?_)
      refine lv_bipush (v := (-2)) hx hb dL_act_100 (by decide) ?_
      exact c_reti _ ⟨rfl, rfl⟩ rfl G hP hD hS (by decide) dL_act_102
    · refine gl_catch (E := "java/lang/UnsupportedOperationException") hSN hSX G htab 15 (st := 92) (en := 97) (hp := 103) (ct := 63) rfl nmL_act nmL_act_ok (by decide +kernel) (by decide +kernel) rfl cs_5 hce hcv hcl ?_
      refine lv_astore (lv' := [(5, .ref q9), (0, .ref (a 209)), (1, .int (nI 7)), (2, .int p1), (3, .int q1), (4, .int r1)]) hx hb dL_act_103 hl (by decide) rfl (fun ls hl => ?_)
      refine lv_bipush (v := (-3)) hx hb dL_act_105 (by decide) ?_
      exact c_reti _ ⟨rfl, rfl⟩ rfl G hP hD hS (by decide) dL_act_107
  · subst hc0
    exact c_reti _ ⟨(if_pos rfl).symm, rfl⟩ rfl G hP hD hS (by decide) dL_act_97
