-- ===== p61: the state as a number =====
theorem dL_state_0 : decode cL_state 0 = .ok (.bipush 31, 2) := by decide +kernel
theorem dL_state_2 : decode cL_state 2 = .ok (.bipush 31, 2) := by decide +kernel
theorem dL_state_4 : decode cL_state 4 = .ok (.bipush 31, 2) := by decide +kernel
theorem dL_state_6 : decode cL_state 6 = .ok (.aload_n 0, 1) := by decide +kernel
theorem dL_state_7 : decode cL_state 7 = .ok (.invokevirtual 104, 3) := by decide +kernel
theorem dL_state_10 : decode cL_state 10 = .ok (.imul, 1) := by decide +kernel
theorem dL_state_11 : decode cL_state 11 = .ok (.aload_n 0, 1) := by decide +kernel
theorem dL_state_12 : decode cL_state 12 = .ok (.invokevirtual 107, 3) := by decide +kernel
theorem dL_state_15 : decode cL_state 15 = .ok (.iadd, 1) := by decide +kernel
theorem dL_state_16 : decode cL_state 16 = .ok (.imul, 1) := by decide +kernel
theorem dL_state_17 : decode cL_state 17 = .ok (.aload_n 0, 1) := by decide +kernel
theorem dL_state_18 : decode cL_state 18 = .ok (.invokevirtual 110, 3) := by decide +kernel
theorem dL_state_21 : decode cL_state 21 = .ok (.iadd, 1) := by decide +kernel
theorem dL_state_22 : decode cL_state 22 = .ok (.imul, 1) := by decide +kernel
theorem dL_state_23 : decode cL_state 23 = .ok (.aload_n 0, 1) := by decide +kernel
theorem dL_state_24 : decode cL_state 24 = .ok (.invokevirtual 113, 3) := by decide +kernel
theorem dL_state_27 : decode cL_state 27 = .ok (.iadd, 1) := by decide +kernel
theorem dL_state_28 : decode cL_state 28 = .ok (.istore_n 1, 1) := by decide +kernel
theorem dL_state_29 : decode cL_state 29 = .ok (.iconst 0, 1) := by decide +kernel
theorem dL_state_30 : decode cL_state 30 = .ok (.istore_n 2, 1) := by decide +kernel
theorem dL_state_31 : decode cL_state 31 = .ok (.iload_n 2, 1) := by decide +kernel
theorem dL_state_32 : decode cL_state 32 = .ok (.iconst 3, 1) := by decide +kernel
theorem dL_state_33 : decode cL_state 33 = .ok (.if_icmp .ge 29, 3) := by decide +kernel
theorem dL_state_36 : decode cL_state 36 = .ok (.bipush 31, 2) := by decide +kernel
theorem dL_state_38 : decode cL_state 38 = .ok (.bipush 31, 2) := by decide +kernel
theorem dL_state_40 : decode cL_state 40 = .ok (.iload_n 1, 1) := by decide +kernel
theorem dL_state_41 : decode cL_state 41 = .ok (.imul, 1) := by decide +kernel
theorem dL_state_42 : decode cL_state 42 = .ok (.aload_n 0, 1) := by decide +kernel
theorem dL_state_43 : decode cL_state 43 = .ok (.iload_n 2, 1) := by decide +kernel
theorem dL_state_44 : decode cL_state 44 = .ok (.invokevirtual 116, 3) := by decide +kernel
theorem dL_state_47 : decode cL_state 47 = .ok (.iadd, 1) := by decide +kernel
theorem dL_state_48 : decode cL_state 48 = .ok (.imul, 1) := by decide +kernel
theorem dL_state_49 : decode cL_state 49 = .ok (.aload_n 0, 1) := by decide +kernel
theorem dL_state_50 : decode cL_state 50 = .ok (.iload_n 2, 1) := by decide +kernel
theorem dL_state_51 : decode cL_state 51 = .ok (.invokevirtual 119, 3) := by decide +kernel
theorem dL_state_54 : decode cL_state 54 = .ok (.iadd, 1) := by decide +kernel
theorem dL_state_55 : decode cL_state 55 = .ok (.istore_n 1, 1) := by decide +kernel
theorem dL_state_56 : decode cL_state 56 = .ok (.iinc 2 1, 3) := by decide +kernel
theorem dL_state_59 : decode cL_state 59 = .ok (.goto (-28), 3) := by decide +kernel
theorem dL_state_62 : decode cL_state 62 = .ok (.iconst 0, 1) := by decide +kernel
theorem dL_state_63 : decode cL_state 63 = .ok (.istore_n 2, 1) := by decide +kernel
theorem dL_state_64 : decode cL_state 64 = .ok (.iload_n 2, 1) := by decide +kernel
theorem dL_state_65 : decode cL_state 65 = .ok (.bipush 8, 2) := by decide +kernel
theorem dL_state_67 : decode cL_state 67 = .ok (.if_icmp .ge 56, 3) := by decide +kernel
theorem dL_state_70 : decode cL_state 70 = .ok (.bipush 31, 2) := by decide +kernel
theorem dL_state_72 : decode cL_state 72 = .ok (.bipush 31, 2) := by decide +kernel
theorem dL_state_74 : decode cL_state 74 = .ok (.iload_n 1, 1) := by decide +kernel
theorem dL_state_75 : decode cL_state 75 = .ok (.imul, 1) := by decide +kernel
theorem dL_state_76 : decode cL_state 76 = .ok (.aload_n 0, 1) := by decide +kernel
theorem dL_state_77 : decode cL_state 77 = .ok (.iload_n 2, 1) := by decide +kernel
theorem dL_state_78 : decode cL_state 78 = .ok (.invokevirtual 122, 3) := by decide +kernel
theorem dL_state_81 : decode cL_state 81 = .ok (.iadd, 1) := by decide +kernel
theorem dL_state_82 : decode cL_state 82 = .ok (.imul, 1) := by decide +kernel
theorem dL_state_83 : decode cL_state 83 = .ok (.aload_n 0, 1) := by decide +kernel
theorem dL_state_84 : decode cL_state 84 = .ok (.iload_n 2, 1) := by decide +kernel
theorem dL_state_85 : decode cL_state 85 = .ok (.iconst 1, 1) := by decide +kernel
theorem dL_state_86 : decode cL_state 86 = .ok (.invokevirtual 125, 3) := by decide +kernel
theorem dL_state_89 : decode cL_state 89 = .ok (.iadd, 1) := by decide +kernel
theorem dL_state_90 : decode cL_state 90 = .ok (.bipush 7, 2) := by decide +kernel
theorem dL_state_92 : decode cL_state 92 = .ok (.aload_n 0, 1) := by decide +kernel
theorem dL_state_93 : decode cL_state 93 = .ok (.iload_n 2, 1) := by decide +kernel
theorem dL_state_94 : decode cL_state 94 = .ok (.iconst 2, 1) := by decide +kernel
theorem dL_state_95 : decode cL_state 95 = .ok (.invokevirtual 125, 3) := by decide +kernel
theorem dL_state_98 : decode cL_state 98 = .ok (.imul, 1) := by decide +kernel
theorem dL_state_99 : decode cL_state 99 = .ok (.iadd, 1) := by decide +kernel
theorem dL_state_100 : decode cL_state 100 = .ok (.iconst 3, 1) := by decide +kernel
theorem dL_state_101 : decode cL_state 101 = .ok (.aload_n 0, 1) := by decide +kernel
theorem dL_state_102 : decode cL_state 102 = .ok (.iload_n 2, 1) := by decide +kernel
theorem dL_state_103 : decode cL_state 103 = .ok (.iconst 0, 1) := by decide +kernel
theorem dL_state_104 : decode cL_state 104 = .ok (.invokevirtual 125, 3) := by decide +kernel
theorem dL_state_107 : decode cL_state 107 = .ok (.imul, 1) := by decide +kernel
theorem dL_state_108 : decode cL_state 108 = .ok (.iadd, 1) := by decide +kernel
theorem dL_state_109 : decode cL_state 109 = .ok (.aload_n 0, 1) := by decide +kernel
theorem dL_state_110 : decode cL_state 110 = .ok (.iload_n 2, 1) := by decide +kernel
theorem dL_state_111 : decode cL_state 111 = .ok (.iconst 3, 1) := by decide +kernel
theorem dL_state_112 : decode cL_state 112 = .ok (.invokevirtual 125, 3) := by decide +kernel
theorem dL_state_115 : decode cL_state 115 = .ok (.iadd, 1) := by decide +kernel
theorem dL_state_116 : decode cL_state 116 = .ok (.istore_n 1, 1) := by decide +kernel
theorem dL_state_117 : decode cL_state 117 = .ok (.iinc 2 1, 3) := by decide +kernel
theorem dL_state_120 : decode cL_state 120 = .ok (.goto (-56), 3) := by decide +kernel
theorem dL_state_123 : decode cL_state 123 = .ok (.iconst 0, 1) := by decide +kernel
theorem dL_state_124 : decode cL_state 124 = .ok (.istore_n 2, 1) := by decide +kernel
theorem dL_state_125 : decode cL_state 125 = .ok (.iload_n 2, 1) := by decide +kernel
theorem dL_state_126 : decode cL_state 126 = .ok (.iconst 4, 1) := by decide +kernel
theorem dL_state_127 : decode cL_state 127 = .ok (.if_icmp .ge 29, 3) := by decide +kernel
theorem dL_state_130 : decode cL_state 130 = .ok (.bipush 31, 2) := by decide +kernel
theorem dL_state_132 : decode cL_state 132 = .ok (.bipush 31, 2) := by decide +kernel
theorem dL_state_134 : decode cL_state 134 = .ok (.iload_n 1, 1) := by decide +kernel
theorem dL_state_135 : decode cL_state 135 = .ok (.imul, 1) := by decide +kernel
theorem dL_state_136 : decode cL_state 136 = .ok (.aload_n 0, 1) := by decide +kernel
theorem dL_state_137 : decode cL_state 137 = .ok (.iload_n 2, 1) := by decide +kernel
theorem dL_state_138 : decode cL_state 138 = .ok (.invokevirtual 128, 3) := by decide +kernel
theorem dL_state_141 : decode cL_state 141 = .ok (.iadd, 1) := by decide +kernel
theorem dL_state_142 : decode cL_state 142 = .ok (.imul, 1) := by decide +kernel
theorem dL_state_143 : decode cL_state 143 = .ok (.aload_n 0, 1) := by decide +kernel
theorem dL_state_144 : decode cL_state 144 = .ok (.iload_n 2, 1) := by decide +kernel
theorem dL_state_145 : decode cL_state 145 = .ok (.invokevirtual 131, 3) := by decide +kernel
theorem dL_state_148 : decode cL_state 148 = .ok (.iadd, 1) := by decide +kernel
theorem dL_state_149 : decode cL_state 149 = .ok (.istore_n 1, 1) := by decide +kernel
theorem dL_state_150 : decode cL_state 150 = .ok (.iinc 2 1, 3) := by decide +kernel
theorem dL_state_153 : decode cL_state 153 = .ok (.goto (-28), 3) := by decide +kernel
theorem dL_state_156 : decode cL_state 156 = .ok (.aload_n 0, 1) := by decide +kernel
theorem dL_state_157 : decode cL_state 157 = .ok (.invokestatic 134, 3) := by decide +kernel
theorem dL_state_160 : decode cL_state 160 = .ok (.invokevirtual 138, 3) := by decide +kernel
theorem dL_state_163 : decode cL_state 163 = .ok (.astore_n 2, 1) := by decide +kernel
theorem dL_state_164 : decode cL_state 164 = .ok (.aload_n 2, 1) := by decide +kernel
theorem dL_state_165 : decode cL_state 165 = .ok (.invokeinterface 142 1, 5) := by decide +kernel
theorem dL_state_170 : decode cL_state 170 = .ok (.ifCond .eq 55, 3) := by decide +kernel
theorem dL_state_173 : decode cL_state 173 = .ok (.aload_n 2, 1) := by decide +kernel
theorem dL_state_174 : decode cL_state 174 = .ok (.invokeinterface 148 1, 5) := by decide +kernel
theorem dL_state_179 : decode cL_state 179 = .ok (.checkcast 152, 3) := by decide +kernel
theorem dL_state_182 : decode cL_state 182 = .ok (.astore_n 3, 1) := by decide +kernel
theorem dL_state_183 : decode cL_state 183 = .ok (.aload_n 3, 1) := by decide +kernel
theorem dL_state_184 : decode cL_state 184 = .ok (.astore 4, 2) := by decide +kernel
theorem dL_state_186 : decode cL_state 186 = .ok (.aload 4, 2) := by decide +kernel
theorem dL_state_188 : decode cL_state 188 = .ok (.arraylength, 1) := by decide +kernel
theorem dL_state_189 : decode cL_state 189 = .ok (.istore 5, 2) := by decide +kernel
theorem dL_state_191 : decode cL_state 191 = .ok (.iconst 0, 1) := by decide +kernel
theorem dL_state_192 : decode cL_state 192 = .ok (.istore 6, 2) := by decide +kernel
theorem dL_state_194 : decode cL_state 194 = .ok (.iload 6, 2) := by decide +kernel
theorem dL_state_196 : decode cL_state 196 = .ok (.iload 5, 2) := by decide +kernel
theorem dL_state_198 : decode cL_state 198 = .ok (.if_icmp .ge 24, 3) := by decide +kernel
theorem dL_state_201 : decode cL_state 201 = .ok (.aload 4, 2) := by decide +kernel
theorem dL_state_203 : decode cL_state 203 = .ok (.iload 6, 2) := by decide +kernel
theorem dL_state_205 : decode cL_state 205 = .ok (.iaload, 1) := by decide +kernel
theorem dL_state_206 : decode cL_state 206 = .ok (.istore 7, 2) := by decide +kernel
theorem dL_state_208 : decode cL_state 208 = .ok (.bipush 31, 2) := by decide +kernel
theorem dL_state_210 : decode cL_state 210 = .ok (.iload_n 1, 1) := by decide +kernel
theorem dL_state_211 : decode cL_state 211 = .ok (.imul, 1) := by decide +kernel
theorem dL_state_212 : decode cL_state 212 = .ok (.iload 7, 2) := by decide +kernel
theorem dL_state_214 : decode cL_state 214 = .ok (.iadd, 1) := by decide +kernel
theorem dL_state_215 : decode cL_state 215 = .ok (.istore_n 1, 1) := by decide +kernel
theorem dL_state_216 : decode cL_state 216 = .ok (.iinc 6 1, 3) := by decide +kernel
theorem dL_state_219 : decode cL_state 219 = .ok (.goto (-25), 3) := by decide +kernel
theorem dL_state_222 : decode cL_state 222 = .ok (.goto (-58), 3) := by decide +kernel
theorem dL_state_225 : decode cL_state 225 = .ok (.bipush 31, 2) := by decide +kernel
theorem dL_state_227 : decode cL_state 227 = .ok (.iload_n 1, 1) := by decide +kernel
theorem dL_state_228 : decode cL_state 228 = .ok (.imul, 1) := by decide +kernel
theorem dL_state_229 : decode cL_state 229 = .ok (.aload_n 0, 1) := by decide +kernel
theorem dL_state_230 : decode cL_state 230 = .ok (.invokevirtual 154, 3) := by decide +kernel
theorem dL_state_233 : decode cL_state 233 = .ok (.iadd, 1) := by decide +kernel
theorem dL_state_234 : decode cL_state 234 = .ok (.ireturn, 1) := by decide +kernel
/-- what calls through Iterator ask of the state -/
def STF (ST : gST) : Prop := ∀ (A : Nat → Prop) (U : State), ST A U → va_Fw RJx35411 ({ cls := "java/util/Iterator", name := "hasNext", desc := "()Z" } : MethodName) yJx35411_hasNext_aae02 U ∧ va_Fw RJx35411 ({ cls := "java/util/Iterator", name := "next", desc := "()Ljava/lang/Object;" } : MethodName) yJx35411_next_0502b U
theorem g_goodF {own C : String} {index n : Nat} {x y : MethodName} {b : ByteArray} {ret' : Option FieldType} (h1 : Cond.methodLink own index x ∈ BIG) (h2 : Cond.instanceMethod y ∈ BIG) (h3 : Cond.selects C x y ∈ BIG) (h4 : Cond.initialized y.cls ∈ BIG) (h5 : Cond.code y b n ret' ∈ BIG) : GoodIn BIG (va_wsF own index C x y (.code y b n ret' :: BIG)) := by
  intro w hw
  unfold va_wsF at hw
  refine big_good w ?_
  rcases List.mem_append.mp hw with h | h
  · simp only [List.mem_cons, List.not_mem_nil, or_false] at h
    rcases h with rfl | rfl | rfl | rfl <;> assumption
  · rcases List.mem_cons.mp h with rfl | h
    · exact h5
    · exact h
def stI (A : AM) : Int32 := 31 * (31 * (31 * nI (A.1 0) + nI (A.1 3)) + nI (A.1 4)) + nI (A.1 5)
def stG (A : AM) (v : Int32) : Nat → Int32
  | 0 => v
  | k + 1 => 31 * (31 * stG A v k + nI (A.1 (7 + k))) + nI (A.1 (10 + k))
def stM (A : AM) (v : Int32) : Nat → Int32
  | 0 => v
  | k + 1 => 31 * (31 * stM A v k + nI (A.1 (16 + k))) + nI (A.1 (32 + 4 * k + 1)) + 7 * nI (A.1 (32 + 4 * k + 2)) + 3 * nI (A.1 (32 + 4 * k + 0)) + nI (A.1 (32 + 4 * k + 3))
def stL (A : AM) (v : Int32) : Nat → Int32
  | 0 => v
  | k + 1 => 31 * (31 * stL A v k + nI (A.1 (28 + k))) + nI (A.1 (24 + k))
def rowV (f : Nat → Int32) (v : Int32) : Nat → Int32
  | 0 => v
  | j + 1 => 31 * rowV f v j + f j
def rowsV (R : List (Nat → Int32)) (v : Int32) : Nat → Int32
  | 0 => v
  | i + 1 => rowV (R.getD i (fun _ => 0)) (rowsV R v i) 5
/-- the number of a mill -/
def stA (A : AM) : Int32 := 31 * rowsV (rowsA A) (stL A (stM A (stG A (stI A) 3) 8) 4) (rowsA A).length + nI (A.1 6)
theorem nlW_at (cA : Nat → ClassId) (e0 z : Nat) (rws : RWS) (b : LB) (h : NLok rws b) : ∃ (mm : Int32) (q : Nat) (L : va_W), nlW cA e0 z rws b = (z, .inr (4, [.int mm, .ref q, .int (nI rws.length)])) :: L ∧ (rws.length ≠ 0 → ∃ (n : Nat) (g : Nat → Option Nat), L = [(q, .inl (cA 6, n, .inr (.inr (.inr (.inr g)))))] ∧ rws.length ≤ n ∧ n ≤ 15 ∧ ∀ i, i < rws.length → g i = some ((rws.map (·.1)).getD i 0)) := by
  unfold nlW
  by_cases h0 : rws.length = 0
  · rw [if_pos h0]
    exact ⟨0, e0, [], by rw [h0], fun h => absurd h0 h⟩
  · rw [if_neg h0]
    obtain ⟨h1, h2, h3⟩ := h.resolve_left h0
    rw [List.length_map] at h2 h3
    exact ⟨b.1, b.2.1, _, rfl, fun _ => ⟨b.2.2.1, b.2.2.2, rfl, h2, by omega, h3⟩⟩
section S63F
variable {p : Program} {l : Launch} {e : Env} {R : Room} {s : State} {m : MethodId} {args : Array Value} {below : List Frame} {meth : Method} {c : Code} {H : Heap} {locs : List Loc} {cells slots : Nat} {Q : State → Prop}
variable {cc : ByteArray} {maxL : Nat} {ret : Option FieldType} {pc : Nat} {ls : Array Slot} {rest : List Value} {D : va_G} {A : Nat → Prop} {cA : Nat → ClassId} {F B : va_W} {ST : gST} {own : String}
theorem c_callFi {x : MethodName} {count : Nat} {β : Type} {ok : Int32 → β → Prop} {Wb : β → va_W} {y : MethodName} {bytes : ByteArray} {n nA d1 mc ms index : Nat} {ret' : Option FieldType} {As st0 : List Value} (W0 wc : va_W) {w : va_W} {C : String} {T : u_T} {M ci : Nat} {fs : List Value} {q : Nat} (q0 : Nat) (hc : vwCl[ci]? = some (C, T, M)) (he : w[q0]? = some (q, .inr (ci, fs))) (hM : gMetG l y bytes n ret' d1 mc ms D (TYS cA) ST wc (.ref q :: As) (gGi D (TYS cA) ok Wb)) (G : GC p s m args meth c cc maxL own ret A D (TYS cA) ST) (hP : va_P D vwCl w H) (hD : va_D A w) (hS : va_S A s.heap H locs) (hW : w.Perm (W0 ++ wc))
    (hF9 : va_Fw C x y s) (hg : GoodIn BIG (va_wsF own index C x y (.code y bytes n ret' :: BIG))) (hd : x.cls ≠ "java/lang/invoke/MethodHandle" ∧ x.cls ≠ "java/lang/invoke/VarHandle" ∧ (parseMethodDescriptor x.desc).map (fun d => d.parameters.length) = some nA) (hR : d1 + 1 ≤ R.frames ∧ 19 + n + 40 * d1 ≤ R.locals ∧ cells + mc ≤ R.cells ∧ slots + ms ≤ R.slots) (hn : As.length = nA) (hls : ls.size = maxL) (rest : List Value) (hst : st0 = As.reverse ++ .ref q :: rest) (hcat : (rest.map fun v => v.category).sum ≤ 8) (hdg : decode cc pc = .ok (.invokeinterface index count, 5))
    (kk : ∀ (r : Int32) (b : β) (H1 : Heap) (locs1 : List Loc), ok r b → va_P D vwCl (W0 ++ Wb b) H1 → va_D A (W0 ++ Wb b) → va_S A s.heap H1 locs1 → W p l e R s m args below meth c H1 locs1 (cells + mc) (slots + ms) Q (F0 m (pc + 5) ls (.int r :: rest))) : W p l e R s m args below meth c H locs cells slots Q (F0 m pc ls st0) := by
  obtain ⟨hx, hb, hml, hown, hts, -, hlocks, hA, hK, hN, hX, hT⟩ := G
  have hrecv := va_recv hK hP hc he
  have hat := (hK.1 ci _ hc).2
  have hP := hP.perm hW
  have hD := hD.perm hW
  have hF := fb_free hD hS hA
  have hPc : va_P D vwCl wc H := va_P_mem.mpr fun z hz => va_P_mem.mp hP z (List.mem_append_right _ hz)
  have hDc : va_D (fun _ => True) wc := va_D_nd.mpr ⟨by have h9 := (va_D_nd.mp hD).1; rw [List.map_append, List.nodup_append] at h9; exact h9.2.1, fun _ _ => trivial⟩
  refine va_callFi (va_runF (As := As) (rest := rest) hat ⟨hx, hb, hml, hown, hts⟩ (hM H.size) (va_cwF nA hts hg rfl rfl rfl hF9 hd ⟨by show d1 + 1 ≤ R.frames; exact hR.1, by show 8 + (n + 11) + 40 * d1 ≤ R.locals; omega⟩) ⟨gPre_blind hT, hrecv, fun U hU hW => ⟨rfl, by rw [hU], by rw [hU]; exact hPc, va_K.moved hW.alike hK, hDc, hN.warm hW, hT.2 _ _ _ _ _ _ hX hS hU hW hF⟩⟩ rfl hn hls hst (lv_room hcat) hdg ⟨hR.2.2.1, hR.2.2.2⟩) hS (fun q _ h => hF q h) hF (fun r b t H1 locs1 ht hvm hw hB hz1 hk1 hS1 => ?_)
  obtain ⟨hP1, hK1, hD1⟩ := hB
  rw [ht] at hP1
  obtain ⟨hP2, hD2⟩ := fb_join hP hD hk1 hF hP1 hD1
  exact kk r b H1 locs1 hw hP2 hD2 hS1
theorem c_callFr {x : MethodName} {count : Nat} {β : Type} {ok : β → Prop} {adr : β → Nat} {Wb : β → va_W} {y : MethodName} {bytes : ByteArray} {n nA d1 mc ms index : Nat} {ret' : Option FieldType} {As st0 : List Value} (W0 wc : va_W) {w : va_W} {C : String} {T : u_T} {M ci : Nat} {fs : List Value} {q : Nat} (q0 : Nat) (hc : vwCl[ci]? = some (C, T, M)) (he : w[q0]? = some (q, .inr (ci, fs))) (hM : gMetG l y bytes n ret' d1 mc ms D (TYS cA) ST wc (.ref q :: As) (gGr D (TYS cA) ok adr Wb)) (G : GC p s m args meth c cc maxL own ret A D (TYS cA) ST) (hP : va_P D vwCl w H) (hD : va_D A w) (hS : va_S A s.heap H locs) (hW : w.Perm (W0 ++ wc))
    (hF9 : va_Fw C x y s) (hg : GoodIn BIG (va_wsF own index C x y (.code y bytes n ret' :: BIG))) (hd : x.cls ≠ "java/lang/invoke/MethodHandle" ∧ x.cls ≠ "java/lang/invoke/VarHandle" ∧ (parseMethodDescriptor x.desc).map (fun d => d.parameters.length) = some nA) (hR : d1 + 1 ≤ R.frames ∧ 19 + n + 40 * d1 ≤ R.locals ∧ cells + mc ≤ R.cells ∧ slots + ms ≤ R.slots) (hn : As.length = nA) (hls : ls.size = maxL) (rest : List Value) (hst : st0 = As.reverse ++ .ref q :: rest) (hcat : (rest.map fun v => v.category).sum ≤ 8) (hdg : decode cc pc = .ok (.invokeinterface index count, 5))
    (kk : ∀ (b : β) (H1 : Heap) (locs1 : List Loc), ok b → va_P D vwCl (W0 ++ Wb b) H1 → va_D A (W0 ++ Wb b) → va_S A s.heap H1 locs1 → W p l e R s m args below meth c H1 locs1 (cells + mc) (slots + ms) Q (F0 m (pc + 5) ls (.ref (adr b) :: rest))) : W p l e R s m args below meth c H locs cells slots Q (F0 m pc ls st0) := by
  obtain ⟨hx, hb, hml, hown, hts, -, hlocks, hA, hK, hN, hX, hT⟩ := G
  have hrecv := va_recv hK hP hc he
  have hat := (hK.1 ci _ hc).2
  have hP := hP.perm hW
  have hD := hD.perm hW
  have hF := fb_free hD hS hA
  have hPc : va_P D vwCl wc H := va_P_mem.mpr fun z hz => va_P_mem.mp hP z (List.mem_append_right _ hz)
  have hDc : va_D (fun _ => True) wc := va_D_nd.mpr ⟨by have h9 := (va_D_nd.mp hD).1; rw [List.map_append, List.nodup_append] at h9; exact h9.2.1, fun _ _ => trivial⟩
  refine va_callFr (va_runF (As := As) (rest := rest) hat ⟨hx, hb, hml, hown, hts⟩ (hM H.size) (va_cwF nA hts hg rfl rfl rfl hF9 hd ⟨by show d1 + 1 ≤ R.frames; exact hR.1, by show 8 + (n + 11) + 40 * d1 ≤ R.locals; omega⟩) ⟨gPre_blind hT, hrecv, fun U hU hW => ⟨rfl, by rw [hU], by rw [hU]; exact hPc, va_K.moved hW.alike hK, hDc, hN.warm hW, hT.2 _ _ _ _ _ _ hX hS hU hW hF⟩⟩ rfl hn hls hst (lv_room hcat) hdg ⟨hR.2.2.1, hR.2.2.2⟩) hS (fun q _ h => hF q h) hF (fun b ra t H1 locs1 ht hvm hw hB hz1 hk1 hS1 => ?_)
  obtain ⟨rfl, hP1, hK1, hD1⟩ := hB
  rw [ht] at hP1
  obtain ⟨hP2, hD2⟩ := fb_join hP hD hk1 hF hP1 hD1
  exact kk b H1 locs1 hw hP2 hD2 hS1
end S63F
theorem rowsV_S {R : List (Nat → Int32)} {v : Int32} {i : Nat} {f : Nat → Int32} (h : R[i]? = some f) : rowsV R v (i + 1) = rowV f (rowsV R v i) 5 := by
  show rowV (R.getD i (fun _ => 0)) (rowsV R v i) 5 = _
  rw [List.getD_eq_getElem?_getD, h]
  rfl
set_option maxHeartbeats 4000000 in
set_option maxRecDepth 100000 in
theorem mL_state (l : Launch) (hlt : l.stackTraces = false) (D : va_G) (cA : Nat → ClassId) (ad adF adW tt a : Nat → Nat) (fr : va_W) (ST : gST) (hT : STE ad adF adW tt ST) (hSX : STX ST) (hSN : STN ST) (hSF : STF ST) {e0 mi : Nat} (hL : STL e0 mi ST) {σ : St} {X : AM} {Hs : List AM} {Sv : Option AM} {B : List Nat} {er fl : Option Nat} {C : Nat} (hC : C < 512) (h : KG σ X Hs Sv B er fl C) : gMetG l yL_state cL_state 8 (some .int) 11 270 1760 D (TYS cA) ST (wc cA ad a fr σ) [.ref (a 209)] (gGi D (TYS cA) (fun r (y : St) => KG y X Hs Sv B er fl C ∧ r = stA X) (fun y => wc cA ad a fr y)) := by
  refine g_ofWG hT.1 (by decide +kernel) (Nat.le_of_ble_eq_true rfl) ?_
  intro p e s m args below meth c ls A G hP hD hl
  have G : GC p s m args meth c cL_state 8 RL (some .int) A D (TYS cA) ST := G
  have hx := G.1
  have hb := G.2.1
  have hS : va_S A s.heap s.heap [] := va_S.rf
  have hl : lv_has ls 8 [(0, .ref (a 209))] := hl
  have hw12 : wN X ≤ 12 := h.2.2.1.1.2.2.1
  have hr15 : (rowsA X).length ≤ 15 := by
    have := whR_le X 3
    unfold rowsA wtR
    rw [List.length_append, List.length_map, List.length_range]
    omega
  have loopR : ∀ (d i z y q : Nat) (lr mm : Int32) (L : va_W) (rws : RWS) (σ2 : St) (H : Heap) (locs : List Loc) (ls : Array Slot), i + d = rws.length → KG σ2 X Hs Sv B er fl C → rws.map (·.2) = rowsA X → (rws.length ≠ 0 → ∃ (n : Nat) (g : Nat → Option Nat), L = [(q, .inl (cA 6, n, .inr (.inr (.inr (.inr g)))))] ∧ rws.length ≤ n ∧ n ≤ 15 ∧ ∀ i, i < rws.length → g i = some ((rws.map (·.1)).getD i 0)) → va_P D vwCl (([(y, .inr (3, [.int (nI i), .int lr, .int mm, .ref z])), (z, .inr (4, [.int mm, .ref q, .int (nI rws.length)]))] : va_W) ++ (L ++ (rwW cA rws ++ wc cA ad a fr σ2))) H → va_D A (([(y, .inr (3, [.int (nI i), .int lr, .int mm, .ref z])), (z, .inr (4, [.int mm, .ref q, .int (nI rws.length)]))] : va_W) ++ (L ++ (rwW cA rws ++ wc cA ad a fr σ2))) → va_S A s.heap H locs → lv_has ls 8 [(2, .ref y), (1, .int (rowsV (rowsA X) (stL X (stM X (stG X (stI X) 3) 8) 4) i)), (0, .ref (a 209))] → W p l e (RMC 11 270 1760) s m args below meth c H locs (269) (1752) (MQ below ((gGi D (TYS cA) (fun r (y : St) => KG y X Hs Sv B er fl C ∧ r = stA X) (fun y => wc cA ad a fr y)) A) args s 270 1760 A) (F0 m 164 ls []) := by
    intro d
    induction d with
    | zero =>
      intro i z y q lr mm L rws σ2 H locs ls hi hK hm hg hP hD hS hl
      obtain rfl : i = rws.length := by omega
      have hn9 : rws.length ≤ 15 := by rw [← hm, List.length_map] at hr15; exact hr15
      refine lv_aload_n hx hb dL_state_164 rfl (lv_at hl 0 rfl) ?_
      refine c_callFi (x := ({ cls := "java/util/Iterator", name := "hasNext", desc := "()Z" } : MethodName)) (nA := 0) (C := RJx35411) (T := TJx35411) (M := 4) (ci := 3) (L ++ (rwW cA rws ++ wc cA ad a fr σ2)) (([(y, .inr (3, [.int (nI rws.length), .int lr, .int mm, .ref z])), (z, .inr (4, [.int mm, .ref q, .int (nI rws.length)]))] : va_W) ++ ([] : va_W)) 0 rfl rfl (mHN_f l D cA ST hT.1 e0 mi hL y z q rws.length rws.length lr mm (by omega)) G hP hD hS List.perm_append_comm (hSF _ _ G.2.2.2.2.2.2.2.2.2.2.1).1 (g_goodF q6_89 q6_95 q6_93 q1_34 q6_97) (by decide +kernel) ⟨Nat.le_of_ble_eq_true rfl, Nat.le_of_ble_eq_true rfl, Nat.le_of_ble_eq_true rfl, Nat.le_of_ble_eq_true rfl⟩ rfl hl.1 [] rfl (Nat.le_of_ble_eq_true rfl) dL_state_165 (fun r _ H locs hok hP hD hS => ?_)
      have hok : r = 0 := hok
      subst hok
      have hP := hP.perm List.perm_append_comm
      have hD := hD.perm List.perm_append_comm
      refine lv_if_eq (tgt := 225) hx hb dL_state_170 (by decide) (fun _ => ?_) (fun c9 => absurd rfl c9)
      rw [← List.append_assoc, ← List.append_assoc] at hP hD
      have hP := hP.perm gwd_pre
      have hD := hD.perm gwd_pre
      have e9 : rws.length = (rowsA X).length := by rw [← hm, List.length_map]
      rw [e9] at hl
      refine lv_bipush (v := 31) hx hb dL_state_225 (by decide) ?_
      refine lv_iload_n hx hb dL_state_227 rfl (lv_at hl 1 rfl) ?_
      refine lv_imul hx hb dL_state_228 ?_
      refine lv_aload_n hx hb dL_state_229 rfl (lv_at hl 2 rfl) ?_
      refine gl_callNi (nA := 0) (mX11_doneCount l D cA ad adF adW tt a _ ST hT σ2 _ σ2 (q_done hK)) G hP hD hS (g_good q4_75 q4_76 q4_77 q1_1 q4_78) (by decide +kernel) ⟨Nat.le_of_ble_eq_true rfl, Nat.le_of_ble_eq_true rfl, by show 269 ≤ 270; omega, by show 1752 ≤ 1760; omega⟩ (by decide) sc_209 rfl rfl hl.1 [.int (31 * (rowsV (rowsA X) (stL X (stM X (stG X (stI X) 3) 8) 4) (rowsA X).length))] rfl (Nat.le_of_ble_eq_true rfl) dL_state_230 (fun H locs hP hD hS => ?_)
      refine lv_iadd hx hb dL_state_233 ?_
      refine c_reti σ2 ⟨hK, rfl⟩ rfl G (va_P_sl ?_ hP) (va_D_sl ?_ hD) hS (by decide) dL_state_234
      · exact List.Sublist.append_left (List.sublist_append_right _ _) _
      · exact List.Sublist.append_left (List.sublist_append_right _ _) _
    | succ d ih =>
      intro i z y q lr mm L rws σ2 H locs ls hi hK hm hg hP hD hS hl
      have hn9 : rws.length ≤ 15 := by rw [← hm, List.length_map] at hr15; exact hr15
      refine lv_aload_n hx hb dL_state_164 rfl (lv_at hl 0 rfl) ?_
      refine c_callFi (x := ({ cls := "java/util/Iterator", name := "hasNext", desc := "()Z" } : MethodName)) (nA := 0) (C := RJx35411) (T := TJx35411) (M := 4) (ci := 3) (L ++ (rwW cA rws ++ wc cA ad a fr σ2)) (([(y, .inr (3, [.int (nI i), .int lr, .int mm, .ref z])), (z, .inr (4, [.int mm, .ref q, .int (nI rws.length)]))] : va_W) ++ ([] : va_W)) 0 rfl rfl (mHN_t l D cA ST hT.1 e0 mi hL y z q i rws.length lr mm (by omega) (by omega)) G hP hD hS List.perm_append_comm (hSF _ _ G.2.2.2.2.2.2.2.2.2.2.1).1 (g_goodF q6_89 q6_95 q6_93 q1_34 q6_97) (by decide +kernel) ⟨Nat.le_of_ble_eq_true rfl, Nat.le_of_ble_eq_true rfl, Nat.le_of_ble_eq_true rfl, Nat.le_of_ble_eq_true rfl⟩ rfl hl.1 [] rfl (Nat.le_of_ble_eq_true rfl) dL_state_165 (fun r _ H locs hok hP hD hS => ?_)
      have hok : r = 1 := hok
      subst hok
      have hP := hP.perm List.perm_append_comm
      have hD := hD.perm List.perm_append_comm
      refine lv_if_eq (tgt := 225) hx hb dL_state_170 (by decide) (fun c9 => absurd c9 (by decide)) (fun _ => ?_)
      have hg0 := hg
      obtain ⟨n0, g0, rfl, hn1, hn2, hgi⟩ := hg (by omega)
      refine lv_aload_n hx hb dL_state_173 rfl (lv_at hl 0 rfl) ?_
      obtain ⟨v, f, hvf⟩ : ∃ (v : Nat) (f : Nat → Int32), rws[i]? = some (v, f) := ⟨(rws[i]'(by omega)).1, (rws[i]'(by omega)).2, List.getElem?_eq_getElem (by omega)⟩
      have hv9 : (rws.map (·.1)).getD i 0 = v := by rw [List.getD_eq_getElem?_getD, List.getElem?_map, hvf]; rfl
      have hf9 : (rowsA X)[i]? = some f := by rw [← hm, List.getElem?_map, hvf]; rfl
      refine c_callFr (x := ({ cls := "java/util/Iterator", name := "next", desc := "()Ljava/lang/Object;" } : MethodName)) (nA := 0) (C := RJx35411) (T := TJx35411) (M := 4) (ci := 3) (rwW cA rws ++ wc cA ad a fr σ2) (([(y, .inr (3, [.int (nI i), .int lr, .int mm, .ref z])), (z, .inr (4, [.int mm, .ref q, .int (nI rws.length)])), (q, .inl (cA 6, n0, .inr (.inr (.inr (.inr g0)))))] : va_W) ++ ([] : va_W)) 0 rfl rfl (mNX l D cA ST hT.1 e0 mi hL y z q n0 i rws.length v g0 lr mm (by omega) hn1 hn2 (by rw [hgi i (by omega), hv9])) G hP hD hS (List.perm_append_comm (l₁ := ([(y, .inr (3, [.int (nI i), .int lr, .int mm, .ref z])), (z, .inr (4, [.int mm, .ref q, .int (nI rws.length)])), (q, .inl (cA 6, n0, .inr (.inr (.inr (.inr g0)))))] : va_W))) (hSF _ _ G.2.2.2.2.2.2.2.2.2.2.1).2 (g_goodF q6_99 q6_104 q6_102 q1_34 q6_106) (by decide +kernel) ⟨Nat.le_of_ble_eq_true rfl, Nat.le_of_ble_eq_true rfl, Nat.le_of_ble_eq_true rfl, Nat.le_of_ble_eq_true rfl⟩ rfl hl.1 [] rfl (Nat.le_of_ble_eq_true rfl) dL_state_174 (fun _ H locs hok hP hD hS => ?_)
      have hP := hP.perm List.perm_append_comm
      have hD := hD.perm List.perm_append_comm
      obtain ⟨k0, hk0⟩ := List.getElem?_of_mem (List.mem_append_right _ (List.mem_append_left (wc cA ad a fr σ2) (List.mem_of_getElem? (rwW_get (cA := cA) hvf))) : ((v, .inl (cA 0, 5, .inl f)) : Nat × va_E) ∈ ([(y, .inr (3, [.int (nI (i + 1)), .int (nI i), .int mm, .ref z])), (z, .inr (4, [.int mm, .ref q, .int (nI rws.length)])), (q, .inl (cA 6, n0, .inr (.inr (.inr (.inr g0)))))] ++ (rwW cA rws ++ wc cA ad a fr σ2)))
      refine va_castA hx hb G.2.2.2.1 (G.2.2.2.2.1 _ q6_122) hP k0 hk0 (G.2.2.2.2.2.2.2.2.1.2 0 (cA 0, .int) rfl).2 dL_state_179 ?_
      refine lv_astore_n (lv' := [(3, .ref v), (2, .ref y), (1, .int (rowsV (rowsA X) (stL X (stM X (stG X (stI X) 3) 8) 4) i)), (0, .ref (a 209))]) hx hb dL_state_182 rfl hl (by decide) rfl (fun ls hl => ?_)
      refine lv_aload_n hx hb dL_state_183 rfl (lv_at hl 0 rfl) ?_
      refine lv_astore (lv' := [(4, .ref v), (3, .ref v), (2, .ref y), (1, .int (rowsV (rowsA X) (stL X (stM X (stG X (stI X) 3) 8) 4) i)), (0, .ref (a 209))]) hx hb dL_state_184 hl (by decide) rfl (fun ls hl => ?_)
      refine lv_aload hx hb dL_state_186 (lv_at hl 0 rfl) ?_
      refine va_alen (v := nI 5) hx hb G.2.2.2.2.2.2.2.2.1 hP k0 0 hk0 rfl rfl dL_state_188 ?_
      refine lv_istore (lv' := [(5, .int (nI 5)), (4, .ref v), (3, .ref v), (2, .ref y), (1, .int (rowsV (rowsA X) (stL X (stM X (stG X (stI X) 3) 8) 4) i)), (0, .ref (a 209))]) hx hb dL_state_189 hl (by decide) rfl (fun ls hl => ?_)
      refine lv_iconst (v := nI 0) hx hb dL_state_191 (by decide) ?_
      refine lv_istore (lv' := [(6, .int (nI 0)), (5, .int (nI 5)), (4, .ref v), (3, .ref v), (2, .ref y), (1, .int (rowsV (rowsA X) (stL X (stM X (stG X (stI X) 3) 8) 4) i)), (0, .ref (a 209))]) hx hb dL_state_192 hl (by decide) rfl (fun ls hl => ?_)
      have inner : ∀ (dj j : Nat) (ls : Array Slot), j + dj = 5 → lv_has ls 8 [(6, .int (nI j)), (5, .int (nI 5)), (4, .ref v), (3, .ref v), (1, .int (rowV f (rowsV (rowsA X) (stL X (stM X (stG X (stI X) 3) 8) 4) i) j)), (2, .ref y), (0, .ref (a 209))] → W p l e (RMC 11 270 1760) s m args below meth c H locs (269) (1752) (MQ below ((gGi D (TYS cA) (fun r (y : St) => KG y X Hs Sv B er fl C ∧ r = stA X) (fun y => wc cA ad a fr y)) A) args s 270 1760 A) (F0 m 194 ls []) := by
        intro dj
        induction dj with
        | zero =>
          intro j ls hj hl
          obtain rfl : j = 5 := by omega
          refine lv_iload hx hb dL_state_194 (lv_at hl 0 rfl) ?_
          refine lv_iload hx hb dL_state_196 (lv_at hl 1 rfl) ?_
          refine lv_icmp_ge (tgt := 222) hx hb dL_state_198 (by decide) (fun _ => ?_) (fun c9 => absurd (nI_le (Nat.le_refl _) (by omega)) c9)
          refine lv_goto (tgt := 164) hx hb dL_state_222 (by decide) ?_
          have hl := lv_sub hl [5, 4, 6] rfl
          rw [← rowsV_S hf9] at hl
          exact ih (i + 1) z y q (nI i) mm _ rws σ2 H locs ls (by omega) hK hm hg0 hP hD hS hl
        | succ dj ihj =>
          intro j ls hj hl
          refine lv_iload hx hb dL_state_194 (lv_at hl 0 rfl) ?_
          refine lv_iload hx hb dL_state_196 (lv_at hl 1 rfl) ?_
          refine lv_icmp_ge (tgt := 222) hx hb dL_state_198 (by decide) (fun c9 => absurd c9 (nI_ge (b := 5) (by omega) (by omega))) (fun _ => ?_)
          refine lv_aload hx hb dL_state_201 (lv_at hl 2 rfl) ?_
          refine lv_iload hx hb dL_state_203 (lv_at hl 0 rfl) ?_
          refine va_iald hx hb G.2.2.2.2.2.2.2.2.1 hP k0 0 hk0 rfl (vp_in_nI (by omega) (by omega)) dL_state_205 ?_
          rw [show (nI j).toNatClampNeg = j from nI_clamp (by omega)]
          refine lv_istore (lv' := [(7, .int (f j)), (6, .int (nI j)), (5, .int (nI 5)), (4, .ref v), (3, .ref v), (1, .int (rowV f (rowsV (rowsA X) (stL X (stM X (stG X (stI X) 3) 8) 4) i) j)), (2, .ref y), (0, .ref (a 209))]) hx hb dL_state_206 hl (by decide) rfl (fun ls hl => ?_)
          refine lv_bipush (v := 31) hx hb dL_state_208 (by decide) ?_
          refine lv_iload_n hx hb dL_state_210 rfl (lv_at hl 5 rfl) ?_
          refine lv_imul hx hb dL_state_211 ?_
          refine lv_iload hx hb dL_state_212 (lv_at hl 0 rfl) ?_
          refine lv_iadd hx hb dL_state_214 ?_
          refine lv_istore_n (lv' := [(1, .int ((31 * (rowV f (rowsV (rowsA X) (stL X (stM X (stG X (stI X) 3) 8) 4) i) j)) + (f j))), (7, .int (f j)), (6, .int (nI j)), (5, .int (nI 5)), (4, .ref v), (3, .ref v), (2, .ref y), (0, .ref (a 209))]) hx hb dL_state_215 rfl hl (by decide) rfl (fun ls hl => ?_)
          refine lv_iinc (v := nI (j + 1)) (lv' := [(6, .int (nI (j + 1))), (1, .int ((31 * (rowV f (rowsV (rowsA X) (stL X (stM X (stG X (stI X) 3) 8) 4) i) j)) + (f j))), (7, .int (f j)), (5, .int (nI 5)), (4, .ref v), (3, .ref v), (2, .ref y), (0, .ref (a 209))]) hx hb dL_state_216 hl (k := 2) rfl (nI_1 _) (by decide) rfl (fun ls hl => ?_)
          refine lv_goto (tgt := 194) hx hb dL_state_219 (by decide) ?_
          exact ihj (j + 1) ls (by omega) (lv_sub hl [0, 3, 4, 5, 1, 6, 7] rfl)
      exact inner 5 0 ls rfl (lv_sub hl [0, 1, 2, 3, 5, 4, 6] rfl)
  have loop3 : ∀ (d k : Nat) (H : Heap) (locs : List Loc) (ls : Array Slot), k + d = 4 → va_P D vwCl (wc cA ad a fr σ) H → va_D A (wc cA ad a fr σ) → va_S A s.heap H locs → lv_has ls 8 [(2, .int (nI k)), (1, .int (stL X (stM X (stG X (stI X) 3) 8) k)), (0, .ref (a 209))] → W p l e (RMC 11 270 1760) s m args below meth c H locs (92 + 4 * k) (552 + 24 * k) (MQ below ((gGi D (TYS cA) (fun r (y : St) => KG y X Hs Sv B er fl C ∧ r = stA X) (fun y => wc cA ad a fr y)) A) args s 270 1760 A) (F0 m 125 ls []) := by
    intro d
    induction d with
    | zero =>
      intro k H locs ls hk hP hD hS hl
      obtain rfl : k = 4 := by omega
      refine lv_iload_n hx hb dL_state_125 rfl (lv_at hl 0 rfl) ?_
      refine lv_iconst (v := nI 4) hx hb dL_state_126 (by decide) ?_
      refine lv_icmp_ge (tgt := 156) hx hb dL_state_127 (by decide) (fun _ => ?_) (fun c9 => absurd (nI_le (Nat.le_refl _) (by omega)) c9)
      refine lv_aload_n hx hb dL_state_156 rfl (lv_at hl 2 rfl) ?_
      refine c_callSr (nA := 1) ([] : va_W) (wc cA ad a fr σ) (mL_noises l hlt D cA ad adF adW tt a fr ST hT hSX hSN hL hC h) G hP hD hS (List.Perm.refl _) (g_goodSX q5_196 q5_197 q1_0 q5_198) (by decide +kernel) ⟨Nat.le_of_ble_eq_true rfl, Nat.le_of_ble_eq_true rfl, Nat.le_of_ble_eq_true rfl, Nat.le_of_ble_eq_true rfl⟩ rfl hl.1 [] rfl (Nat.le_of_ble_eq_true rfl) dL_state_157 (fun x H locs hok hP hD hS => ?_)
      obtain ⟨σ2, z, rws, b⟩ := x
      obtain ⟨hK, hm, hnl⟩ := hok
      have hm : rws.map (·.2) = rowsA X := hm
      have hnl : NLok rws b := hnl
      obtain ⟨mm, q, L, hz, hg⟩ := nlW_at cA e0 z rws b hnl
      have hP : va_P D vwCl (wc cA ad a ((nlW cA e0 z rws b ++ rwW cA rws) ++ fr) σ2) H := hP
      have hD : va_D A (wc cA ad a ((nlW cA e0 z rws b ++ rwW cA rws) ++ fr) σ2) := hD
      rw [hz] at hP hD
      have hP := hP.perm gwd_pre.symm
      have hD := hD.perm gwd_pre.symm
      rw [List.append_assoc] at hP hD
      refine c_callVr (nA := 0) (C := RJx4a65c) (T := TJx4a65c) (M := 3) (ci := 4) (L ++ (rwW cA rws ++ wc cA ad a fr σ2)) ([(z, .inr (4, [.int mm, .ref q, .int (nI rws.length)]))] : va_W) 0 rfl rfl (mIT l D cA ST hT.1 e0 mi hL z q mm (nI rws.length)) G hP hD hS (List.perm_append_comm (l₁ := ([(z, .inr (4, [.int mm, .ref q, .int (nI rws.length)]))] : va_W))) (g_good q6_65 q6_66 q6_67 q1_31 q6_68) (by decide +kernel) ⟨Nat.le_of_ble_eq_true rfl, Nat.le_of_ble_eq_true rfl, Nat.le_of_ble_eq_true rfl, Nat.le_of_ble_eq_true rfl⟩ rfl hl.1 [] rfl (Nat.le_of_ble_eq_true rfl) dL_state_160 (fun y H locs hok hP hD hS => ?_)
      have hP := hP.perm List.perm_append_comm
      have hD := hD.perm List.perm_append_comm
      refine lv_astore_n (lv' := [(2, .ref y), (1, .int (stL X (stM X (stG X (stI X) 3) 8) 4)), (0, .ref (a 209))]) hx hb dL_state_163 rfl hl (by decide) rfl (fun ls hl => ?_)
      exact loopR rws.length 0 z y q (-1) mm L rws σ2 H locs ls (Nat.zero_add _) hK hm hg hP hD hS (lv_sub hl [0, 1, 2] rfl)
    | succ d ih =>
      intro k H locs ls hk hP hD hS hl
      refine lv_iload_n hx hb dL_state_125 rfl (lv_at hl 0 rfl) ?_
      refine lv_iconst (v := nI 4) hx hb dL_state_126 (by decide) ?_
      refine lv_icmp_ge (tgt := 156) hx hb dL_state_127 (by decide) (fun c9 => absurd c9 (nI_ge (b := 4) (by omega) (by omega))) (fun _ => ?_)
      refine lv_bipush (v := 31) hx hb dL_state_130 (by decide) ?_
      refine lv_bipush (v := 31) hx hb dL_state_132 (by decide) ?_
      refine lv_iload_n hx hb dL_state_134 rfl (lv_at hl 1 rfl) ?_
      refine lv_imul hx hb dL_state_135 ?_
      refine lv_aload_n hx hb dL_state_136 rfl (lv_at hl 2 rfl) ?_
      refine lv_iload_n hx hb dL_state_137 rfl (lv_at hl 0 rfl) ?_
      refine gl_callVi (nA := 1) (mX11_flour l hlt D cA ad adF adW tt a _ ST hT hSX ((nI k)) σ 0 _ σ (q_flour h (by omega))) G hP hD hS (g_good q4_13 q4_14 q4_15 q1_1 q4_16) (by decide +kernel) ⟨Nat.le_of_ble_eq_true rfl, Nat.le_of_ble_eq_true rfl, by show 92 + 4 * k + 2 ≤ 270; omega, by show 552 + 24 * k + 6 * 2 ≤ 1760; omega⟩ (by decide) sc_209 rfl rfl hl.1 [.int (31 * (stL X (stM X (stG X (stI X) 3) 8) k)), .int 31] rfl (Nat.le_of_ble_eq_true rfl) dL_state_138 (fun h0 => absurd rfl h0) (fun _ H locs hP hD hS => ?_)
      refine lv_iadd hx hb dL_state_141 ?_
      refine lv_imul hx hb dL_state_142 ?_
      refine lv_aload_n hx hb dL_state_143 rfl (lv_at hl 2 rfl) ?_
      refine lv_iload_n hx hb dL_state_144 rfl (lv_at hl 0 rfl) ?_
      refine gl_callVi (nA := 1) (mX11_shippedSacks l hlt D cA ad adF adW tt a _ ST hT hSX ((nI k)) σ 0 _ σ (q_shipped h (by omega))) G hP hD hS (g_good q5_192 q5_193 q5_194 q1_1 q5_195) (by decide +kernel) ⟨Nat.le_of_ble_eq_true rfl, Nat.le_of_ble_eq_true rfl, by show 92 + 4 * k + 2 + 2 ≤ 270; omega, by show 552 + 24 * k + 6 * 2 + 6 * 2 ≤ 1760; omega⟩ (by decide) sc_209 rfl rfl hl.1 [.int (31 * ((31 * (stL X (stM X (stG X (stI X) 3) 8) k)) + (nI (X.1 (28 + k)))))] rfl (Nat.le_of_ble_eq_true rfl) dL_state_145 (fun h0 => absurd rfl h0) (fun _ H locs hP hD hS => ?_)
      refine lv_iadd hx hb dL_state_148 ?_
      refine lv_istore_n (lv' := [(1, .int ((31 * ((31 * (stL X (stM X (stG X (stI X) 3) 8) k)) + (nI (X.1 (28 + k))))) + (nI (X.1 (24 + k))))), (2, .int (nI k)), (0, .ref (a 209))]) hx hb dL_state_149 rfl hl (by decide) rfl (fun ls hl => ?_)
      refine lv_iinc (v := nI (k + 1)) (lv' := [(2, .int (nI (k + 1))), (1, .int ((31 * ((31 * (stL X (stM X (stG X (stI X) 3) 8) k)) + (nI (X.1 (28 + k))))) + (nI (X.1 (24 + k))))), (0, .ref (a 209))]) hx hb dL_state_150 hl (k := 1) rfl (nI_1 _) (by decide) rfl (fun ls hl => ?_)
      refine lv_goto (tgt := 125) hx hb dL_state_153 (by decide) ?_
      refine W.widen (k := 92 + 4 * (k + 1)) (n := 552 + 24 * (k + 1)) (by omega) (by omega) ?_
      exact ih (k + 1) H locs ls (by omega) hP hD hS (lv_sub hl [0, 1, 2] rfl)
  have loop2 : ∀ (d k : Nat) (H : Heap) (locs : List Loc) (ls : Array Slot), k + d = 8 → va_P D vwCl (wc cA ad a fr σ) H → va_D A (wc cA ad a fr σ) → va_S A s.heap H locs → lv_has ls 8 [(2, .int (nI k)), (1, .int (stM X (stG X (stI X) 3) k)), (0, .ref (a 209))] → W p l e (RMC 11 270 1760) s m args below meth c H locs (12 + 10 * k) (72 + 60 * k) (MQ below ((gGi D (TYS cA) (fun r (y : St) => KG y X Hs Sv B er fl C ∧ r = stA X) (fun y => wc cA ad a fr y)) A) args s 270 1760 A) (F0 m 64 ls []) := by
    intro d
    induction d with
    | zero =>
      intro k H locs ls hk hP hD hS hl
      obtain rfl : k = 8 := by omega
      refine lv_iload_n hx hb dL_state_64 rfl (lv_at hl 0 rfl) ?_
      refine lv_bipush (v := nI 8) hx hb dL_state_65 (by decide) ?_
      refine lv_icmp_ge (tgt := 123) hx hb dL_state_67 (by decide) (fun _ => ?_) (fun c9 => absurd (nI_le (Nat.le_refl _) (by omega)) c9)
      refine lv_iconst (v := nI 0) hx hb dL_state_123 (by decide) ?_
      refine lv_istore_n (lv' := [(2, .int (nI 0)), (1, .int (stM X (stG X (stI X) 3) 8)), (0, .ref (a 209))]) hx hb dL_state_124 rfl hl (by decide) rfl (fun ls hl => ?_)
      exact loop3 4 0 H locs ls rfl hP hD hS (lv_sub hl [0, 1, 2] rfl)
    | succ d ih =>
      intro k H locs ls hk hP hD hS hl
      refine lv_iload_n hx hb dL_state_64 rfl (lv_at hl 0 rfl) ?_
      refine lv_bipush (v := nI 8) hx hb dL_state_65 (by decide) ?_
      refine lv_icmp_ge (tgt := 123) hx hb dL_state_67 (by decide) (fun c9 => absurd c9 (nI_ge (b := 8) (by omega) (by omega))) (fun _ => ?_)
      refine lv_bipush (v := 31) hx hb dL_state_70 (by decide) ?_
      refine lv_bipush (v := 31) hx hb dL_state_72 (by decide) ?_
      refine lv_iload_n hx hb dL_state_74 rfl (lv_at hl 1 rfl) ?_
      refine lv_imul hx hb dL_state_75 ?_
      refine lv_aload_n hx hb dL_state_76 rfl (lv_at hl 2 rfl) ?_
      refine lv_iload_n hx hb dL_state_77 rfl (lv_at hl 0 rfl) ?_
      refine gl_callVi (nA := 1) (mX11_mesh l hlt D cA ad adF adW tt a _ ST hT hSX ((nI k)) σ 0 _ σ (q_mesh h (by omega))) G hP hD hS (g_good q4_4 q4_5 q4_6 q1_1 q4_7) (by decide +kernel) ⟨Nat.le_of_ble_eq_true rfl, Nat.le_of_ble_eq_true rfl, by show 12 + 10 * k + 2 ≤ 270; omega, by show 72 + 60 * k + 6 * 2 ≤ 1760; omega⟩ (by decide) sc_209 rfl rfl hl.1 [.int (31 * (stM X (stG X (stI X) 3) k)), .int 31] rfl (Nat.le_of_ble_eq_true rfl) dL_state_78 (fun h0 => absurd rfl h0) (fun _ H locs hP hD hS => ?_)
      refine lv_iadd hx hb dL_state_81 ?_
      refine lv_imul hx hb dL_state_82 ?_
      refine lv_aload_n hx hb dL_state_83 rfl (lv_at hl 2 rfl) ?_
      refine lv_iload_n hx hb dL_state_84 rfl (lv_at hl 0 rfl) ?_
      refine lv_iconst (v := nI 1) hx hb dL_state_85 (by decide) ?_
      refine gl_callVi (nA := 2) (mX11_recorded l hlt D cA ad adF adW tt a _ ST hT hSX ((nI k)) ((nI 1)) σ 0 _ σ (q_recorded h (by omega) (by decide))) G hP hD hS (g_good q4_32 q4_33 q4_34 q1_1 q4_35) (by decide +kernel) ⟨Nat.le_of_ble_eq_true rfl, Nat.le_of_ble_eq_true rfl, by show 12 + 10 * k + 2 + 2 ≤ 270; omega, by show 72 + 60 * k + 6 * 2 + 6 * 2 ≤ 1760; omega⟩ (by decide) sc_209 rfl rfl hl.1 [.int (31 * ((31 * (stM X (stG X (stI X) 3) k)) + (nI (X.1 (16 + k)))))] rfl (Nat.le_of_ble_eq_true rfl) dL_state_86 (fun h0 => absurd rfl h0) (fun _ H locs hP hD hS => ?_)
      refine lv_iadd hx hb dL_state_89 ?_
      refine lv_bipush (v := nI 7) hx hb dL_state_90 (by decide) ?_
      refine lv_aload_n hx hb dL_state_92 rfl (lv_at hl 2 rfl) ?_
      refine lv_iload_n hx hb dL_state_93 rfl (lv_at hl 0 rfl) ?_
      refine lv_iconst (v := nI 2) hx hb dL_state_94 (by decide) ?_
      refine gl_callVi (nA := 2) (mX11_recorded l hlt D cA ad adF adW tt a _ ST hT hSX ((nI k)) ((nI 2)) σ 0 _ σ (q_recorded h (by omega) (by decide))) G hP hD hS (g_good q4_32 q4_33 q4_34 q1_1 q4_35) (by decide +kernel) ⟨Nat.le_of_ble_eq_true rfl, Nat.le_of_ble_eq_true rfl, by show 12 + 10 * k + 2 + 2 + 2 ≤ 270; omega, by show 72 + 60 * k + 6 * 2 + 6 * 2 + 6 * 2 ≤ 1760; omega⟩ (by decide) sc_209 rfl rfl hl.1 [.int (nI 7), .int ((31 * ((31 * (stM X (stG X (stI X) 3) k)) + (nI (X.1 (16 + k))))) + (nI (X.1 (32 + 4 * k + 1))))] rfl (Nat.le_of_ble_eq_true rfl) dL_state_95 (fun h0 => absurd rfl h0) (fun _ H locs hP hD hS => ?_)
      refine lv_imul hx hb dL_state_98 ?_
      refine lv_iadd hx hb dL_state_99 ?_
      refine lv_iconst (v := nI 3) hx hb dL_state_100 (by decide) ?_
      refine lv_aload_n hx hb dL_state_101 rfl (lv_at hl 2 rfl) ?_
      refine lv_iload_n hx hb dL_state_102 rfl (lv_at hl 0 rfl) ?_
      refine lv_iconst (v := nI 0) hx hb dL_state_103 (by decide) ?_
      refine gl_callVi (nA := 2) (mX11_recorded l hlt D cA ad adF adW tt a _ ST hT hSX ((nI k)) ((nI 0)) σ 0 _ σ (q_recorded h (by omega) (by decide))) G hP hD hS (g_good q4_32 q4_33 q4_34 q1_1 q4_35) (by decide +kernel) ⟨Nat.le_of_ble_eq_true rfl, Nat.le_of_ble_eq_true rfl, by show 12 + 10 * k + 2 + 2 + 2 + 2 ≤ 270; omega, by show 72 + 60 * k + 6 * 2 + 6 * 2 + 6 * 2 + 6 * 2 ≤ 1760; omega⟩ (by decide) sc_209 rfl rfl hl.1 [.int (nI 3), .int (((31 * ((31 * (stM X (stG X (stI X) 3) k)) + (nI (X.1 (16 + k))))) + (nI (X.1 (32 + 4 * k + 1)))) + ((nI 7) * (nI (X.1 (32 + 4 * k + 2)))))] rfl (Nat.le_of_ble_eq_true rfl) dL_state_104 (fun h0 => absurd rfl h0) (fun _ H locs hP hD hS => ?_)
      refine lv_imul hx hb dL_state_107 ?_
      refine lv_iadd hx hb dL_state_108 ?_
      refine lv_aload_n hx hb dL_state_109 rfl (lv_at hl 2 rfl) ?_
      refine lv_iload_n hx hb dL_state_110 rfl (lv_at hl 0 rfl) ?_
      refine lv_iconst (v := nI 3) hx hb dL_state_111 (by decide) ?_
      refine gl_callVi (nA := 2) (mX11_recorded l hlt D cA ad adF adW tt a _ ST hT hSX ((nI k)) ((nI 3)) σ 0 _ σ (q_recorded h (by omega) (by decide))) G hP hD hS (g_good q4_32 q4_33 q4_34 q1_1 q4_35) (by decide +kernel) ⟨Nat.le_of_ble_eq_true rfl, Nat.le_of_ble_eq_true rfl, by show 12 + 10 * k + 2 + 2 + 2 + 2 + 2 ≤ 270; omega, by show 72 + 60 * k + 6 * 2 + 6 * 2 + 6 * 2 + 6 * 2 + 6 * 2 ≤ 1760; omega⟩ (by decide) sc_209 rfl rfl hl.1 [.int ((((31 * ((31 * (stM X (stG X (stI X) 3) k)) + (nI (X.1 (16 + k))))) + (nI (X.1 (32 + 4 * k + 1)))) + ((nI 7) * (nI (X.1 (32 + 4 * k + 2))))) + ((nI 3) * (nI (X.1 (32 + 4 * k + 0)))))] rfl (Nat.le_of_ble_eq_true rfl) dL_state_112 (fun h0 => absurd rfl h0) (fun _ H locs hP hD hS => ?_)
      refine lv_iadd hx hb dL_state_115 ?_
      refine lv_istore_n (lv' := [(1, .int (((((31 * ((31 * (stM X (stG X (stI X) 3) k)) + (nI (X.1 (16 + k))))) + (nI (X.1 (32 + 4 * k + 1)))) + ((nI 7) * (nI (X.1 (32 + 4 * k + 2))))) + ((nI 3) * (nI (X.1 (32 + 4 * k + 0))))) + (nI (X.1 (32 + 4 * k + 3))))), (2, .int (nI k)), (0, .ref (a 209))]) hx hb dL_state_116 rfl hl (by decide) rfl (fun ls hl => ?_)
      refine lv_iinc (v := nI (k + 1)) (lv' := [(2, .int (nI (k + 1))), (1, .int (((((31 * ((31 * (stM X (stG X (stI X) 3) k)) + (nI (X.1 (16 + k))))) + (nI (X.1 (32 + 4 * k + 1)))) + ((nI 7) * (nI (X.1 (32 + 4 * k + 2))))) + ((nI 3) * (nI (X.1 (32 + 4 * k + 0))))) + (nI (X.1 (32 + 4 * k + 3))))), (0, .ref (a 209))]) hx hb dL_state_117 hl (k := 1) rfl (nI_1 _) (by decide) rfl (fun ls hl => ?_)
      refine lv_goto (tgt := 64) hx hb dL_state_120 (by decide) ?_
      refine W.widen (k := 12 + 10 * (k + 1)) (n := 72 + 60 * (k + 1)) (by omega) (by omega) ?_
      exact ih (k + 1) H locs ls (by omega) hP hD hS (lv_sub hl [0, 1, 2] rfl)
  have loop1 : ∀ (d k : Nat) (H : Heap) (locs : List Loc) (ls : Array Slot), k + d = 3 → va_P D vwCl (wc cA ad a fr σ) H → va_D A (wc cA ad a fr σ) → va_S A s.heap H locs → lv_has ls 8 [(2, .int (nI k)), (1, .int (stG X (stI X) k)), (0, .ref (a 209))] → W p l e (RMC 11 270 1760) s m args below meth c H locs (0 + 4 * k) (0 + 24 * k) (MQ below ((gGi D (TYS cA) (fun r (y : St) => KG y X Hs Sv B er fl C ∧ r = stA X) (fun y => wc cA ad a fr y)) A) args s 270 1760 A) (F0 m 31 ls []) := by
    intro d
    induction d with
    | zero =>
      intro k H locs ls hk hP hD hS hl
      obtain rfl : k = 3 := by omega
      refine lv_iload_n hx hb dL_state_31 rfl (lv_at hl 0 rfl) ?_
      refine lv_iconst (v := nI 3) hx hb dL_state_32 (by decide) ?_
      refine lv_icmp_ge (tgt := 62) hx hb dL_state_33 (by decide) (fun _ => ?_) (fun c9 => absurd (nI_le (Nat.le_refl _) (by omega)) c9)
      refine lv_iconst (v := nI 0) hx hb dL_state_62 (by decide) ?_
      refine lv_istore_n (lv' := [(2, .int (nI 0)), (1, .int (stG X (stI X) 3)), (0, .ref (a 209))]) hx hb dL_state_63 rfl hl (by decide) rfl (fun ls hl => ?_)
      exact loop2 8 0 H locs ls rfl hP hD hS (lv_sub hl [0, 1, 2] rfl)
    | succ d ih =>
      intro k H locs ls hk hP hD hS hl
      refine lv_iload_n hx hb dL_state_31 rfl (lv_at hl 0 rfl) ?_
      refine lv_iconst (v := nI 3) hx hb dL_state_32 (by decide) ?_
      refine lv_icmp_ge (tgt := 62) hx hb dL_state_33 (by decide) (fun c9 => absurd c9 (nI_ge (b := 3) (by omega) (by omega))) (fun _ => ?_)
      refine lv_bipush (v := 31) hx hb dL_state_36 (by decide) ?_
      refine lv_bipush (v := 31) hx hb dL_state_38 (by decide) ?_
      refine lv_iload_n hx hb dL_state_40 rfl (lv_at hl 1 rfl) ?_
      refine lv_imul hx hb dL_state_41 ?_
      refine lv_aload_n hx hb dL_state_42 rfl (lv_at hl 2 rfl) ?_
      refine lv_iload_n hx hb dL_state_43 rfl (lv_at hl 0 rfl) ?_
      refine gl_callVi (nA := 1) (mX11_gear l hlt D cA ad adF adW tt a _ ST hT hSX ((nI k)) σ 0 _ σ (q_gear h (by omega))) G hP hD hS (g_good q3_231 q3_232 q3_233 q1_1 q3_234) (by decide +kernel) ⟨Nat.le_of_ble_eq_true rfl, Nat.le_of_ble_eq_true rfl, by show 0 + 4 * k + 2 ≤ 270; omega, by show 0 + 24 * k + 6 * 2 ≤ 1760; omega⟩ (by decide) sc_209 rfl rfl hl.1 [.int (31 * (stG X (stI X) k)), .int 31] rfl (Nat.le_of_ble_eq_true rfl) dL_state_44 (fun h0 => absurd rfl h0) (fun _ H locs hP hD hS => ?_)
      refine lv_iadd hx hb dL_state_47 ?_
      refine lv_imul hx hb dL_state_48 ?_
      refine lv_aload_n hx hb dL_state_49 rfl (lv_at hl 2 rfl) ?_
      refine lv_iload_n hx hb dL_state_50 rfl (lv_at hl 0 rfl) ?_
      refine gl_callVi (nA := 1) (mX11_wear l hlt D cA ad adF adW tt a _ ST hT hSX ((nI k)) σ 0 _ σ (q_wear h (by omega))) G hP hD hS (g_good q3_235 q3_236 q3_237 q1_1 q3_238) (by decide +kernel) ⟨Nat.le_of_ble_eq_true rfl, Nat.le_of_ble_eq_true rfl, by show 0 + 4 * k + 2 + 2 ≤ 270; omega, by show 0 + 24 * k + 6 * 2 + 6 * 2 ≤ 1760; omega⟩ (by decide) sc_209 rfl rfl hl.1 [.int (31 * ((31 * (stG X (stI X) k)) + (nI (X.1 (7 + k)))))] rfl (Nat.le_of_ble_eq_true rfl) dL_state_51 (fun h0 => absurd rfl h0) (fun _ H locs hP hD hS => ?_)
      refine lv_iadd hx hb dL_state_54 ?_
      refine lv_istore_n (lv' := [(1, .int ((31 * ((31 * (stG X (stI X) k)) + (nI (X.1 (7 + k))))) + (nI (X.1 (10 + k))))), (2, .int (nI k)), (0, .ref (a 209))]) hx hb dL_state_55 rfl hl (by decide) rfl (fun ls hl => ?_)
      refine lv_iinc (v := nI (k + 1)) (lv' := [(2, .int (nI (k + 1))), (1, .int ((31 * ((31 * (stG X (stI X) k)) + (nI (X.1 (7 + k))))) + (nI (X.1 (10 + k))))), (0, .ref (a 209))]) hx hb dL_state_56 hl (k := 1) rfl (nI_1 _) (by decide) rfl (fun ls hl => ?_)
      refine lv_goto (tgt := 31) hx hb dL_state_59 (by decide) ?_
      refine W.widen (k := 0 + 4 * (k + 1)) (n := 0 + 24 * (k + 1)) (by omega) (by omega) ?_
      exact ih (k + 1) H locs ls (by omega) hP hD hS (lv_sub hl [0, 1, 2] rfl)
  refine lv_bipush (v := 31) hx hb dL_state_0 (by decide) ?_
  refine lv_bipush (v := 31) hx hb dL_state_2 (by decide) ?_
  refine lv_bipush (v := 31) hx hb dL_state_4 (by decide) ?_
  refine lv_aload_n hx hb dL_state_6 rfl (lv_at hl 0 rfl) ?_
  refine gl_callNi (nA := 0) (mX11_time l D cA ad adF adW tt a _ ST hT σ _ σ (q_time h)) G hP hD hS (g_good q5_184 q5_185 q5_186 q1_1 q5_187) (by decide +kernel) ⟨Nat.le_of_ble_eq_true rfl, Nat.le_of_ble_eq_true rfl, by show 0 ≤ 270; omega, by show 0 ≤ 1760; omega⟩ (by decide) sc_209 rfl rfl hl.1 [.int 31, .int 31, .int 31] rfl (Nat.le_of_ble_eq_true rfl) dL_state_7 (fun H locs hP hD hS => ?_)
  refine lv_imul hx hb dL_state_10 ?_
  refine lv_aload_n hx hb dL_state_11 rfl (lv_at hl 0 rfl) ?_
  refine gl_callNi (nA := 0) (mX11_groundTotal l D cA ad adF adW tt a _ ST hT σ _ σ (q_ground h)) G hP hD hS (g_good q4_37 q4_38 q4_39 q1_1 q4_40) (by decide +kernel) ⟨Nat.le_of_ble_eq_true rfl, Nat.le_of_ble_eq_true rfl, by show 0 ≤ 270; omega, by show 0 ≤ 1760; omega⟩ (by decide) sc_209 rfl rfl hl.1 [.int (31 * (nI (X.1 0))), .int 31, .int 31] rfl (Nat.le_of_ble_eq_true rfl) dL_state_12 (fun H locs hP hD hS => ?_)
  refine lv_iadd hx hb dL_state_15 ?_
  refine lv_imul hx hb dL_state_16 ?_
  refine lv_aload_n hx hb dL_state_17 rfl (lv_at hl 0 rfl) ?_
  refine gl_callNi (nA := 0) (mX11_lostInSieves l D cA ad adF adW tt a _ ST hT σ _ σ (q_sieved h)) G hP hD hS (g_good q4_53 q4_54 q4_55 q1_1 q4_56) (by decide +kernel) ⟨Nat.le_of_ble_eq_true rfl, Nat.le_of_ble_eq_true rfl, by show 0 ≤ 270; omega, by show 0 ≤ 1760; omega⟩ (by decide) sc_209 rfl rfl hl.1 [.int (31 * ((31 * (nI (X.1 0))) + (nI (X.1 3)))), .int 31] rfl (Nat.le_of_ble_eq_true rfl) dL_state_18 (fun H locs hP hD hS => ?_)
  refine lv_iadd hx hb dL_state_21 ?_
  refine lv_imul hx hb dL_state_22 ?_
  refine lv_aload_n hx hb dL_state_23 rfl (lv_at hl 0 rfl) ?_
  refine gl_callNi (nA := 0) (mX11_lostForRoom l D cA ad adF adW tt a _ ST hT σ _ σ (q_spilt h)) G hP hD hS (g_good q5_188 q5_189 q5_190 q1_1 q5_191) (by decide +kernel) ⟨Nat.le_of_ble_eq_true rfl, Nat.le_of_ble_eq_true rfl, by show 0 ≤ 270; omega, by show 0 ≤ 1760; omega⟩ (by decide) sc_209 rfl rfl hl.1 [.int (31 * ((31 * ((31 * (nI (X.1 0))) + (nI (X.1 3)))) + (nI (X.1 4))))] rfl (Nat.le_of_ble_eq_true rfl) dL_state_24 (fun H locs hP hD hS => ?_)
  refine lv_iadd hx hb dL_state_27 ?_
  refine lv_istore_n (lv' := [(1, .int ((31 * ((31 * ((31 * (nI (X.1 0))) + (nI (X.1 3)))) + (nI (X.1 4)))) + (nI (X.1 5)))), (0, .ref (a 209))]) hx hb dL_state_28 rfl hl (by decide) rfl (fun ls hl => ?_)
  refine lv_iconst (v := nI 0) hx hb dL_state_29 (by decide) ?_
  refine lv_istore_n (lv' := [(2, .int (nI 0)), (1, .int ((31 * ((31 * ((31 * (nI (X.1 0))) + (nI (X.1 3)))) + (nI (X.1 4)))) + (nI (X.1 5)))), (0, .ref (a 209))]) hx hb dL_state_30 rfl hl (by decide) rfl (fun ls hl => ?_)
  exact loop1 3 0 H locs ls rfl hP hD hS (lv_sub hl [0, 1, 2] rfl)
