-- ===== more rows: switches by a table, results that are floats, chars =====
def CH {α : Type} (i : Int32) (K : Option α) : Option α := if vp_nar .char i = i then K else none
theorem ch_e {α : Type} {i : Int32} {K : Option α} {r : α} (h : CH i K = some r) : vp_nar .char i = i ∧ K = some r := by
  unfold CH at h
  by_cases hc : vp_nar .char i = i
  · rw [if_pos hc] at h; exact ⟨hc, h⟩
  · rw [if_neg hc] at h; cases h
theorem ch_n {v : Int32} (h : vp_nar .char v = v) : narrow .char (.int v) = .int v := by
  have e : narrow .char (.int v) = .int (vp_nar .char v) := rfl
  rw [e, h]
def ND {α : Type} (i : UInt64) (K : Option α) : Option α := if i &&& 0x7fffffffffffffff ≤ 0x7ff0000000000000 then K else none
theorem nd_e {α : Type} {i : UInt64} {K : Option α} {r : α} (h : ND i K = some r) : vf_n64 i ∧ K = some r := by
  unfold ND at h
  by_cases hc : i &&& 0x7fffffffffffffff ≤ 0x7ff0000000000000
  · rw [if_pos hc] at h; exact ⟨hc, h⟩
  · rw [if_neg hc] at h; cases h
def NF {α : Type} (i : UInt32) (K : Option α) : Option α := if i &&& 0x7fffffff ≤ 0x7f800000 then K else none
theorem nf_e {α : Type} {i : UInt32} {K : Option α} {r : α} (h : NF i K = some r) : vf_n32 i ∧ K = some r := by
  unfold NF at h
  by_cases hc : i &&& 0x7fffffff ≤ 0x7f800000
  · rw [if_pos hc] at h; exact ⟨hc, h⟩
  · rw [if_neg hc] at h; cases h
theorem i32_eqi {x : Int32} {k : Int} (h : x.toInt = k) : x = Int32.ofInt k := by rw [← h, Int32.ofInt_toInt]
section SW
variable {p : Program} {l : Launch} {e : Env} {R : Room} {s : State} {m : MethodId} {args : Array Value} {below : List Frame} {meth : Method} {c : Code} {H : Heap} {locs : List Loc} {cells slots : Nat} {Q : State → Prop}
variable {cc : ByteArray} {maxL : Nat} {ret : Option FieldType} {pc : Nat} {ls : Array Slot} {rest : List Value} {D : va_G} {A : Nat → Prop} {tys : List (ClassId × FieldType)} {N : Nat} {sh : Nat → Sh} {cA : Nat → ClassId} {ad a : Nat → Nat} {fr : va_W} {σ : St} {ST : gST} {own : String}
/-- a switch by a table, at one of its keys -/
theorem g_tabk (hexec : p.tables.exec = Jvm.exec) (hb : c.code = cc) {dflt lo hi : Int} {offs : Array Int} {len : Nat} {x : Int32} {off : Int} {tgt : Nat} (k : Int32) (hk : x = k) (hdg : decode cc pc = .ok (.tableswitch dflt lo hi offs, len)) (hin : (decide (lo ≤ k.toInt) && decide (k.toInt ≤ hi)) = true) (ho : offs[(k.toInt - lo).toNat]? = some off) (ht : (pc : Int) + off = (tgt : Int))
    (kk : W p l e R s m args below meth c H locs cells slots Q (F0 m tgt ls rest)) : W p l e R s m args below meth c H locs cells slots Q (F0 m pc ls (.int x :: rest)) := by
  subst hk
  simp only [Bool.and_eq_true, decide_eq_true_eq] at hin
  exact lv_tableIn hexec hb hdg (by omega) (by omega) ho ht kk
/-- .. at none of the keys that lead elsewhere -/
theorem g_tabd (hexec : p.tables.exec = Jvm.exec) (hb : c.code = cc) {dflt lo hi : Int} {offs : Array Int} {len : Nat} {x : Int32} {tgt : Nat} (keys : List Int) (hk : ∀ k ∈ keys, ¬ x.toInt = k) (hdg : decode cc pc = .ok (.tableswitch dflt lo hi offs, len)) (hsz : (offs.size : Int) = hi - lo + 1) (hall : (List.range offs.size).all (fun j => decide (offs[j]? = some dflt) || keys.contains (lo + (j : Int))) = true) (ht : (pc : Int) + dflt = (tgt : Int))
    (kk : W p l e R s m args below meth c H locs cells slots Q (F0 m tgt ls rest)) : W p l e R s m args below meth c H locs cells slots Q (F0 m pc ls (.int x :: rest)) := by
  by_cases h1 : x.toInt < lo
  · exact lv_tableOut hexec hb hdg (Or.inl h1) ht kk
  · by_cases h2 : hi < x.toInt
    · exact lv_tableOut hexec hb hdg (Or.inr h2) ht kk
    · have hj := List.all_eq_true.mp hall (x.toInt - lo).toNat (List.mem_range.mpr (by omega))
      have e9 : lo + (((x.toInt - lo).toNat : Nat) : Int) = x.toInt := by omega
      rw [e9] at hj
      simp only [Bool.or_eq_true, decide_eq_true_eq, List.contains_iff_mem] at hj
      rcases hj with hj | hj
      · exact lv_tableIn hexec hb hdg h1 h2 hj ht kk
      · exact absurd rfl (hk _ hj)
def gQd (D : va_G) (tys : List (ClassId × FieldType)) (A : Nat → Prop) (wd : St → va_W) (r : UInt64) (σ' : St) : Array Value → State → Outcome → State → Prop :=
  va_Qd (fun r1 s1 => r1 = r ∧ s1 = σ') (fun s1 t => va_P D vwCl (wd s1) t.heap ∧ va_K D vwCl tys t ∧ va_D A (wd s1)) A
def gQf (D : va_G) (tys : List (ClassId × FieldType)) (A : Nat → Prop) (wd : St → va_W) (r : UInt32) (σ' : St) : Array Value → State → Outcome → State → Prop :=
  va_Qf (fun r1 s1 => r1 = r ∧ s1 = σ') (fun s1 t => va_P D vwCl (wd s1) t.heap ∧ va_K D vwCl tys t ∧ va_D A (wd s1)) A
theorem g_dret {σ' : St} {v r : UInt64} (G : GC p s m args meth c cc maxL own (some .double) A D tys ST) (hP : va_P D vwCl (gwd N sh cA ad a fr σ) H) (hD : va_D A (gwd N sh cA ad a fr σ)) (hS : va_S A s.heap H locs) (h : (some (v, σ) : Option (UInt64 × St)) = some (r, σ')) (hdg : decode cc pc = .ok (.dreturn, 1)) : W p l e R s m args below meth c H locs 0 0 (MQ below (gQd D tys A (gwd N sh cA ad a fr) r σ') args s 0 0 A) (F0 m pc ls [.double v]) := by
  cases h
  obtain ⟨hx, hb, hml, hown, hts, hr, hlocks, hA, hK, hN, hX, hT⟩ := G
  exact W.dret hx hb hr (fun t ht hW => ⟨⟨v, σ, rfl, ⟨rfl, rfl⟩, by rw [ht]; exact hP, va_K.moved hW.alike hK, hD⟩, hS.F ht⟩) hS.2.2 hdg
theorem g_fret {σ' : St} {v r : UInt32} (G : GC p s m args meth c cc maxL own (some .float) A D tys ST) (hP : va_P D vwCl (gwd N sh cA ad a fr σ) H) (hD : va_D A (gwd N sh cA ad a fr σ)) (hS : va_S A s.heap H locs) (h : (some (v, σ) : Option (UInt32 × St)) = some (r, σ')) (hdg : decode cc pc = .ok (.freturn, 1)) : W p l e R s m args below meth c H locs 0 0 (MQ below (gQf D tys A (gwd N sh cA ad a fr) r σ') args s 0 0 A) (F0 m pc ls [.float v]) := by
  cases h
  obtain ⟨hx, hb, hml, hown, hts, hr, hlocks, hA, hK, hN, hX, hT⟩ := G
  exact W.fret hx hb hr (fun t ht hW => ⟨⟨v, σ, rfl, ⟨rfl, rfl⟩, by rw [ht]; exact hP, va_K.moved hW.alike hK, hD⟩, hS.F ht⟩) hS.2.2 hdg
theorem g_callSv {d d1 : Nat} {y : MethodName} {bytes : ByteArray} {n nA index : Nat} {ret' : Option FieldType} {σ1 : St} {As st0 : List Value} (hM : gMet l y bytes n ret' d1 D tys ST (gwd N sh cA ad a fr σ) As (fun A => gQv D tys A (gwd N sh cA ad a fr) σ1)) (G : GC p s m args meth c cc maxL own ret A D tys ST) (hP : va_P D vwCl (gwd N sh cA ad a fr σ) H) (hD : va_D A (gwd N sh cA ad a fr σ)) (hS : va_S A s.heap H locs)
    (hg : GoodIn BIG (wsS own index y (.code y bytes n ret' :: BIG))) (hd : y.cls = own ∧ y.cls ≠ "java/lang/invoke/MethodHandle" ∧ y.cls ≠ "java/lang/invoke/VarHandle" ∧ (parseMethodDescriptor y.desc).map (fun d => d.parameters.length) = some nA) (hr : d1 + 1 ≤ d ∧ n ≤ 21) (hn : As.length = nA) (hls : ls.size = maxL) (rest : List Value) (hst : st0 = As.reverse ++ rest) (hcat : (rest.map fun v => v.category).sum ≤ 8) (hdg : decode cc pc = .ok (.invokestatic index, 3))
    (kk : ∀ (H1 : Heap) (locs1 : List Loc), va_P D vwCl (gwd N sh cA ad a fr σ1) H1 → va_D A (gwd N sh cA ad a fr σ1) → va_S A s.heap H1 locs1 → W p l e (RM d) s m args below meth c H1 locs1 0 0 Q (F0 m (pc + 3) ls rest)) : W p l e (RM d) s m args below meth c H locs 0 0 Q (F0 m pc ls st0) := by
  obtain ⟨hx, hb, hml, hown, hts, -, hlocks, hA, hK, hN, hX, hT⟩ := G
  have hF := g_free hD hS hA
  refine va_callv (va_runS (As := As) (rest := rest) ⟨hx, hb, hml, hown, hts⟩ (hM H.size) (cwS nA hts hg rfl rfl rfl hd ⟨by show d1 + 1 ≤ d; exact hr.1, by show 8 + (n + 11) + 40 * d1 ≤ 40 * d; omega⟩) ⟨gPre_blind hT, fun U hU hW => ⟨rfl, by rw [hU], by rw [hU]; exact hP, va_K.moved hW.alike hK, hD.weaken (fun _ _ _ _ => trivial), hN.warm hW, hT.2 _ _ _ _ _ _ hX hS hU hW hF⟩⟩ rfl hn hls hst (lv_room hcat) hdg ⟨Nat.zero_le _, Nat.zero_le _⟩) hS (fun q _ h => hF q h) hF (fun u9 t H1 locs1 ht hvm hw hB hz1 hk1 hS1 => ?_)
  subst hw
  obtain ⟨hP1, hK1, hD1⟩ := hB
  rw [ht] at hP1
  exact kk H1 locs1 hP1 (hD1.weaken (fun _ q _ h => hF q.1 h)) hS1
end SW
