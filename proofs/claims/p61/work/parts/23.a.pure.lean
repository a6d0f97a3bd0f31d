-- ===== how the noises and the wheels that hold them change =====
theorem er_perm : ∀ {L : List E4} {i : Nat}, i < L.length → L.Perm (L.getD i z4 :: L.eraseIdx i) := by
  intro L
  induction L with
  | nil => intro i h; cases h
  | cons a L ih =>
    intro i h
    cases i with
    | zero => exact List.Perm.refl _
    | succ i =>
      rw [List.getD_cons_succ, List.eraseIdx_cons_succ]
      exact ((ih (Nat.lt_of_succ_lt_succ h)).cons a).trans (List.Perm.swap _ _ _)
theorem er_getD {L : List E4} {i j : Nat} : (L.eraseIdx i).getD j z4 = if j < i then L.getD j z4 else L.getD (j + 1) z4 := by
  rw [List.getD_eq_getElem?_getD, List.getElem?_eraseIdx]
  by_cases h : j < i
  · rw [if_pos h, if_pos h, List.getD_eq_getElem?_getD]
  · rw [if_neg h, if_neg h, List.getD_eq_getElem?_getD]
theorem ap_getD {L : List E4} {e : E4} {j : Nat} (h : j ≤ L.length) : (L ++ [e]).getD j z4 = if j = L.length then e else L.getD j z4 := by
  rw [List.getD_eq_getElem?_getD, List.getD_eq_getElem?_getD]
  by_cases hj : j = L.length
  · rw [if_pos hj, hj, List.getElem?_append_right (Nat.le_refl _)]
    simp
  · rw [if_neg hj, List.getElem?_append_left (by omega)]
theorem sl_getD {L : List E4} {e : E4} {i j : Nat} (h : i < L.length) : (L.set i e).getD j z4 = if j = i then e else L.getD j z4 := by
  rw [List.getD_eq_getElem?_getD, List.getD_eq_getElem?_getD, List.getElem?_set]
  by_cases hj : i = j
  · subst hj
    rw [if_pos rfl, if_pos h, if_pos rfl]
    rfl
  · rw [if_neg hj, if_neg (fun q => hj q.symm)]
theorem nd_perm {L R : List E4} {e : E4} (h : L.Perm (e :: R)) (hn : (L.map (·.1)).Nodup) : (R.map (·.1)).Nodup ∧ ∀ o ∈ R, o.1 ≠ e.1 := by
  have h1 := (h.map (·.1)).nodup hn
  rw [List.map_cons, List.nodup_cons] at h1
  exact ⟨h1.2, fun o ho hq => h1.1 (hq ▸ List.mem_map_of_mem ho)⟩
theorem wt_upd {sc : Nat → Nat} {w n v : Nat} {o : E4} (hw : w < 3) (h : sc (13 + w) = 0 ∨ sc (13 + w) = n + 1) (ho : o.1 ≠ n) (hv : v = 0 ∨ v = n + 1) : wt (upN sc (13 + w) v) o = wt sc o := by
  rw [Bool.eq_iff_iff, wt_t, wt_t]
  rcases (show w = 0 ∨ w = 1 ∨ w = 2 by omega) with rfl | rfl | rfl
  · rw [upN_e (k := 13 + 0) (j := 13) rfl, upN_n (k := 13 + 0) (j := 14) (by omega), upN_n (k := 13 + 0) (j := 15) (by omega)]
    have h : sc 13 = 0 ∨ sc 13 = n + 1 := h
    omega
  · rw [upN_n (k := 13 + 1) (j := 13) (by omega), upN_e (k := 13 + 1) (j := 14) rfl, upN_n (k := 13 + 1) (j := 15) (by omega)]
    have h : sc 14 = 0 ∨ sc 14 = n + 1 := h
    omega
  · rw [upN_n (k := 13 + 2) (j := 13) (by omega), upN_n (k := 13 + 2) (j := 14) (by omega), upN_e (k := 13 + 2) (j := 15) rfl]
    have h : sc 15 = 0 ∨ sc 15 = n + 1 := h
    omega
theorem wt_same {sc sd : Nat → Nat} (h : ∀ w, w < 3 → sd (13 + w) = sc (13 + w)) : wt sd = wt sc := by
  funext e
  unfold wt hb
  rw [show sd 13 = sc 13 from h 0 (by omega), show sd 14 = sc 14 from h 1 (by omega), show sd 15 = sc 15 from h 2 (by omega)]
theorem wt_held {sc : Nat → Nat} {w : Nat} {e : E4} (hw : w < 3) (h : sc (13 + w) = e.1 + 1) : wt sc e = false := by
  rw [wt_f]
  rcases (show w = 0 ∨ w = 1 ∨ w = 2 by omega) with rfl | rfl | rfl
  · exact Or.inl h
  · exact Or.inr (Or.inl h)
  · exact Or.inr (Or.inr h)
theorem wt_not {sc : Nat → Nat} {w : Nat} {e : E4} (hw : w < 3) (h : wt sc e = true) : sc (13 + w) ≠ e.1 + 1 := fun q => by
  rw [wt_held hw q] at h
  cases h
/-- which wheel holds it -/
theorem wt_f_ex {sc : Nat → Nat} {e : E4} (h : wt sc e = false) : ∃ w, w < 3 ∧ sc (13 + w) = e.1 + 1 := by
  rcases wt_f.mp h with h | h | h
  · exact ⟨0, by omega, h⟩
  · exact ⟨1, by omega, h⟩
  · exact ⟨2, by omega, h⟩
theorem cnt_len {sc : Nat → Nat} {L : List E4} : L.countP (wt sc) = (L.filter (wt sc)).length := List.countP_eq_length_filter
theorem nz_same {sc sd : Nat → Nat} (h : ∀ w, w < 3 → sd (13 + w) = sc (13 + w)) : sumF (nzf sd) 0 3 = sumF (nzf sc) 0 3 := sumF_same fun j _ hj => by
  show (if sd (13 + j) = 0 then 0 else 1) = _
  rw [h j (by omega)]
theorem nz_up {sc : Nat → Nat} {w v : Nat} (hw : w < 3) (h0 : sc (13 + w) = 0) (hv : v ≠ 0) : sumF (nzf (upN sc (13 + w) v)) 0 3 = sumF (nzf sc) 0 3 + 1 := by
  refine sumF_upd (k := w) (by omega) (by omega) (fun j _ _ hj => ?_) ?_
  · show (if upN sc (13 + w) v (13 + j) = 0 then 0 else 1) = _
    rw [upN_n (by omega)]
  · show (if upN sc (13 + w) v (13 + w) = 0 then 0 else 1) = (if sc (13 + w) = 0 then 0 else 1) + 1
    rw [upN_e rfl, if_neg hv, if_pos h0]
theorem nz_down {sc : Nat → Nat} {w : Nat} (hw : w < 3) (h0 : sc (13 + w) ≠ 0) : sumF (nzf sc) 0 3 = sumF (nzf (upN sc (13 + w) 0)) 0 3 + 1 := by
  refine sumF_upd (k := w) (by omega) (by omega) (fun j _ _ hj => ?_) ?_
  · show (if sc (13 + j) = 0 then 0 else 1) = (if upN sc (13 + w) 0 (13 + j) = 0 then 0 else 1)
    rw [upN_n (by omega)]
  · show (if sc (13 + w) = 0 then 0 else 1) = (if upN sc (13 + w) 0 (13 + w) = 0 then 0 else 1) + 1
    rw [upN_e rfl, if_neg h0, if_pos rfl]
/-- scalars that are not the wheels' nor the next number don't matter here -/
theorem IN.sc {sc sd : Nat → Nat} {L : List E4} (h : IN sc L) (h1 : sc 1 ≤ sd 1) (hs : ∀ w, w < 3 → sd (13 + w) = sc (13 + w)) : IN sd L := by
  obtain ⟨a, b, c, d, e, f⟩ := h
  refine ⟨a, fun o ho => ⟨Nat.lt_of_lt_of_le (b o ho).1 h1, (b o ho).2⟩, by rw [wt_same hs]; exact c, fun w hw => by rw [hs w hw]; exact d w hw, fun w v hw hv hne => by rw [hs w hw, hs v hv]; exact e w v hw hv hne, ?_⟩
  rw [wt_same hs]
  exact Nat.le_trans f (by rw [nz_same hs]; omega)
theorem IN_add {sc sd : Nat → Nat} {L : List E4} {e : E4} (h : IN sc L) (he : e.1 = sc 1 ∧ e.2.1 < 8 ∧ 1 ≤ e.2.2.1 ∧ e.2.2.1 ≤ 9 ∧ 1 ≤ e.2.2.2 ∧ e.2.2.2 ≤ 60) (hc : L.countP (wt sc) < 12) (h1 : sd 1 = sc 1 + 1) (hs : ∀ w, w < 3 → sd (13 + w) = sc (13 + w)) : IN sd (L ++ [e]) ∧ (L ++ [e]).filter (wt sd) = L.filter (wt sc) ++ [e] := by
  have hh := h.held3
  have hw9 := wt_same hs
  have hwe : wt sc e = true := wt_t.mpr (by omega)
  obtain ⟨a, b, c, d, f, g⟩ := h
  refine ⟨⟨?_, ?_, ?_, ?_, ?_, ?_⟩, ?_⟩
  · rw [List.map_append, List.nodup_append]
    refine ⟨a, by simp, fun x hx y hy => ?_⟩
    obtain ⟨o, ho, rfl⟩ := List.mem_map.mp hx
    have := (b o ho).1
    simp at hy
    omega
  · intro o ho
    rcases List.mem_append.mp ho with ho | ho
    · have := b o ho
      omega
    · rw [List.mem_singleton.mp ho]
      omega
  · rw [hw9, List.countP_append, List.countP_singleton, if_pos hwe]
    omega
  · intro w hw
    rw [hs w hw]
    rcases d w hw with q | ⟨o, ho, q⟩
    · exact Or.inl q
    · exact Or.inr ⟨o, List.mem_append_left _ ho, q⟩
  · intro w v hw hv hne
    rw [hs w hw, hs v hv]
    exact f w v hw hv hne
  · rw [hw9, List.countP_append, List.countP_singleton, if_pos hwe, List.length_append, nz_same hs]
    simp only [List.length_singleton]
    have g1 : L.length ≤ L.countP (wt sc) + sumF (nzf sc) 0 3 := g
    omega
  · rw [hw9, List.filter_append, List.filter_cons_of_pos hwe, List.filter_nil]
/-- a waiting noise is taken out -/
theorem IN_del {sc : Nat → Nat} {L R : List E4} {e : E4} (h : IN sc L) (hp : L.Perm (e :: R)) (hw : wt sc e = true) : IN sc R ∧ (L.filter (wt sc)).Perm (e :: R.filter (wt sc)) := by
  obtain ⟨a, b, c, d, f, g⟩ := h
  have hn := nd_perm hp a
  have hcp : L.countP (wt sc) = R.countP (wt sc) + 1 := by rw [hp.countP_eq, List.countP_cons, if_pos hw]
  refine ⟨⟨hn.1, fun o ho => b o (hp.symm.subset (List.mem_cons_of_mem _ ho)), by omega, fun w hw3 => ?_, f, ?_⟩, ?_⟩
  · rcases d w hw3 with q | ⟨o, ho, q⟩
    · exact Or.inl q
    · refine Or.inr ⟨o, ?_, q⟩
      rcases List.mem_cons.mp (hp.subset ho) with rfl | ho1
      · exact absurd q (wt_not hw3 hw)
      · exact ho1
  · have := hp.length_eq
    rw [List.length_cons] at this
    omega
  · have := hp.filter (wt sc)
    rw [List.filter_cons_of_pos hw] at this
    exact this
/-- a free wheel takes a waiting noise -/
theorem IN_hold {sc : Nat → Nat} {L : List E4} {e : E4} {w : Nat} (h : IN sc L) (he : e ∈ L) (hw : w < 3) (h0 : sc (13 + w) = 0) (hwt : wt sc e = true) : IN (upN sc (13 + w) (e.1 + 1)) L ∧ (L.filter (wt sc)).Perm (e :: L.filter (wt (upN sc (13 + w) (e.1 + 1)))) := by
  obtain ⟨i, hi, rfl⟩ := mem_getD he
  have hp := er_perm hi
  obtain ⟨a, b, c, d, f, g⟩ := h
  have hn := nd_perm hp a
  have hwf : wt (upN sc (13 + w) ((L.getD i z4).1 + 1)) (L.getD i z4) = false := wt_held hw (upN_e rfl)
  have hR : (L.eraseIdx i).filter (wt (upN sc (13 + w) ((L.getD i z4).1 + 1))) = (L.eraseIdx i).filter (wt sc) := List.filter_congr fun o ho => wt_upd hw (Or.inl h0) (hn.2 o ho) (Or.inr rfl)
  have h1 := hp.filter (wt sc)
  have h2 := hp.filter (wt (upN sc (13 + w) ((L.getD i z4).1 + 1)))
  rw [List.filter_cons_of_pos hwt] at h1
  rw [List.filter_cons_of_neg (by rw [hwf]; exact Bool.false_ne_true), hR] at h2
  have hcp : L.countP (wt sc) = L.countP (wt (upN sc (13 + w) ((L.getD i z4).1 + 1))) + 1 := by
    rw [cnt_len, cnt_len, h1.length_eq, h2.length_eq, List.length_cons]
  refine ⟨⟨a, fun o ho => by rw [upN_n (by omega)]; exact b o ho, by omega, fun v hv => ?_, fun v u hv hu hne => ?_, ?_⟩, h1.trans (h2.symm.cons _)⟩
  · by_cases e9 : v = w
    · subst e9
      exact Or.inr ⟨_, he, upN_e rfl⟩
    · rw [upN_n (by omega)]
      exact d v hv
  · by_cases e9 : v = w
    · subst e9
      rw [upN_e rfl, upN_n (by omega)]
      exact Or.inr fun q => wt_not hu hwt q.symm
    · by_cases e8 : u = w
      · subst e8
        rw [upN_n (by omega), upN_e rfl]
        exact Or.inr (wt_not hv hwt)
      · rw [upN_n (by omega), upN_n (by omega)]
        exact f v u hv hu hne
  · show _ ≤ _ + sumF (nzf _) 0 3
    rw [nz_up hw h0 (by omega)]
    have g1 : L.length ≤ L.countP (wt sc) + sumF (nzf sc) 0 3 := g
    omega
/-- a wheel lets its noise go: it waits again -/
theorem IN_free {sc : Nat → Nat} {L : List E4} {e : E4} {w : Nat} (h : IN sc L) (he : e ∈ L) (hw : w < 3) (h0 : sc (13 + w) = e.1 + 1) (hc : L.countP (wt sc) < 12) : IN (upN sc (13 + w) 0) L ∧ (L.filter (wt (upN sc (13 + w) 0))).Perm (e :: L.filter (wt sc)) := by
  obtain ⟨i, hi, rfl⟩ := mem_getD he
  have hp := er_perm hi
  obtain ⟨a, b, c, d, f, g⟩ := h
  have hn := nd_perm hp a
  have hwf : wt sc (L.getD i z4) = false := wt_held hw h0
  have hwt : wt (upN sc (13 + w) 0) (L.getD i z4) = true := by
    rw [wt_t]
    have f1 := fun v (hv : v < 3) (hne : w ≠ v) => f w v hw hv hne
    have g1 : sc (13 + w) = (L.getD i z4).1 + 1 := h0
    rcases (show w = 0 ∨ w = 1 ∨ w = 2 by omega) with rfl | rfl | rfl
    · rw [upN_e (k := 13 + 0) (j := 13) rfl, upN_n (k := 13 + 0) (j := 14) (by omega), upN_n (k := 13 + 0) (j := 15) (by omega)]
      have k1 : sc 13 = 0 ∨ sc 13 ≠ sc 14 := f1 1 (by omega) (by omega)
      have k2 : sc 13 = 0 ∨ sc 13 ≠ sc 15 := f1 2 (by omega) (by omega)
      have k3 : sc 13 = (L.getD i z4).1 + 1 := h0
      omega
    · rw [upN_n (k := 13 + 1) (j := 13) (by omega), upN_e (k := 13 + 1) (j := 14) rfl, upN_n (k := 13 + 1) (j := 15) (by omega)]
      have k1 : sc 14 = 0 ∨ sc 14 ≠ sc 13 := f1 0 (by omega) (by omega)
      have k2 : sc 14 = 0 ∨ sc 14 ≠ sc 15 := f1 2 (by omega) (by omega)
      have k3 : sc 14 = (L.getD i z4).1 + 1 := h0
      omega
    · rw [upN_n (k := 13 + 2) (j := 13) (by omega), upN_n (k := 13 + 2) (j := 14) (by omega), upN_e (k := 13 + 2) (j := 15) rfl]
      have k1 : sc 15 = 0 ∨ sc 15 ≠ sc 13 := f1 0 (by omega) (by omega)
      have k2 : sc 15 = 0 ∨ sc 15 ≠ sc 14 := f1 1 (by omega) (by omega)
      have k3 : sc 15 = (L.getD i z4).1 + 1 := h0
      omega
  have hR : (L.eraseIdx i).filter (wt (upN sc (13 + w) 0)) = (L.eraseIdx i).filter (wt sc) := List.filter_congr fun o ho => wt_upd hw (Or.inr h0) (hn.2 o ho) (Or.inl rfl)
  have h1 := hp.filter (wt sc)
  have h2 := hp.filter (wt (upN sc (13 + w) 0))
  rw [List.filter_cons_of_neg (by rw [hwf]; exact Bool.false_ne_true)] at h1
  rw [List.filter_cons_of_pos hwt, hR] at h2
  have hcp : L.countP (wt (upN sc (13 + w) 0)) = L.countP (wt sc) + 1 := by
    rw [cnt_len, cnt_len, h1.length_eq, h2.length_eq, List.length_cons]
  refine ⟨⟨a, fun o ho => by rw [upN_n (by omega)]; exact b o ho, by omega, fun v hv => ?_, fun v u hv hu hne => ?_, ?_⟩, h2.trans (h1.symm.cons _)⟩
  · by_cases e9 : v = w
    · subst e9
      exact Or.inl (upN_e rfl)
    · rw [upN_n (by omega)]
      exact d v hv
  · by_cases e9 : v = w
    · subst e9
      exact Or.inl (upN_e rfl)
    · by_cases e8 : u = w
      · subst e8
        rw [upN_n (by omega), upN_e rfl]
        have := d v hv
        by_cases e7 : sc (13 + v) = 0
        · exact Or.inl e7
        · exact Or.inr e7
      · rw [upN_n (by omega), upN_n (by omega)]
        exact f v u hv hu hne
  · show _ ≤ _ + sumF (nzf _) 0 3
    have g1 : L.length ≤ L.countP (wt sc) + sumF (nzf sc) 0 3 := g
    rw [nz_down hw (by omega)] at g1
    omega
/-- a held noise is done -/
theorem IN_done {sc : Nat → Nat} {L R : List E4} {e : E4} {w : Nat} (h : IN sc L) (hp : L.Perm (e :: R)) (hw : w < 3) (h0 : sc (13 + w) = e.1 + 1) : IN (upN sc (13 + w) 0) R ∧ (L.filter (wt sc)).Perm (R.filter (wt (upN sc (13 + w) 0))) := by
  obtain ⟨a, b, c, d, f, g⟩ := h
  have hn := nd_perm hp a
  have hwf : wt sc e = false := wt_held hw h0
  have hR : R.filter (wt (upN sc (13 + w) 0)) = R.filter (wt sc) := List.filter_congr fun o ho => wt_upd hw (Or.inr h0) (hn.2 o ho) (Or.inl rfl)
  have h1 := hp.filter (wt sc)
  rw [List.filter_cons_of_neg (by rw [hwf]; exact Bool.false_ne_true)] at h1
  have hcp : R.countP (wt (upN sc (13 + w) 0)) = L.countP (wt sc) := by
    rw [cnt_len, cnt_len, h1.length_eq, hR]
  refine ⟨⟨hn.1, fun o ho => by rw [upN_n (by omega)]; exact b o (hp.symm.subset (List.mem_cons_of_mem _ ho)), by omega, fun v hv => ?_, fun v u hv hu hne => ?_, ?_⟩, by rw [hR]; exact h1⟩
  · by_cases e9 : v = w
    · subst e9
      exact Or.inl (upN_e rfl)
    · rw [upN_n (by omega)]
      rcases d v hv with q | ⟨o, ho, q⟩
      · exact Or.inl q
      · refine Or.inr ⟨o, ?_, q⟩
        rcases List.mem_cons.mp (hp.subset ho) with rfl | ho1
        · have := f w v hw hv (Ne.symm e9)
          omega
        · exact ho1
  · by_cases e9 : v = w
    · subst e9
      exact Or.inl (upN_e rfl)
    · by_cases e8 : u = w
      · subst e8
        rw [upN_n (by omega), upN_e rfl]
        by_cases e7 : sc (13 + v) = 0
        · exact Or.inl e7
        · exact Or.inr e7
      · rw [upN_n (by omega), upN_n (by omega)]
        exact f v u hv hu hne
  · show _ ≤ _ + sumF (nzf _) 0 3
    have g1 : L.length ≤ L.countP (wt sc) + sumF (nzf sc) 0 3 := g
    rw [nz_down hw (by omega)] at g1
    have := hp.length_eq
    rw [List.length_cons] at this
    omega
/-- a held noise has fewer grains -/
theorem IN_set {sc : Nat → Nat} {L : List E4} {i w v : Nat} (h : IN sc L) (hi : i < L.length) (hw : w < 3) (h0 : sc (13 + w) = (L.getD i z4).1 + 1) (hv : 1 ≤ v ∧ v ≤ 60) : IN sc (L.set i ((L.getD i z4).1, (L.getD i z4).2.1, (L.getD i z4).2.2.1, v)) ∧ (L.set i ((L.getD i z4).1, (L.getD i z4).2.1, (L.getD i z4).2.2.1, v)).filter (wt sc) = L.filter (wt sc) ∧ (L.set i ((L.getD i z4).1, (L.getD i z4).2.1, (L.getD i z4).2.2.1, v)).map (·.1) = L.map (·.1) := by
  have hwf : wt sc (L.getD i z4) = false := wt_held hw h0
  have hmap : ∀ (L : List E4) (i : Nat), i < L.length → (L.set i ((L.getD i z4).1, (L.getD i z4).2.1, (L.getD i z4).2.2.1, v)).map (·.1) = L.map (·.1) := by
    intro L
    induction L with
    | nil => intro i h; cases h
    | cons a L ih =>
      intro i h
      cases i with
      | zero => rfl
      | succ i =>
        have := ih i (Nat.lt_of_succ_lt_succ h)
        rw [List.getD_cons_succ, List.set_cons_succ, List.map_cons, List.map_cons, this]
  have hfil : ∀ (L : List E4) (i : Nat), i < L.length → wt sc (L.getD i z4) = false → (L.set i ((L.getD i z4).1, (L.getD i z4).2.1, (L.getD i z4).2.2.1, v)).filter (wt sc) = L.filter (wt sc) := by
    intro L
    induction L with
    | nil => intro i h; cases h
    | cons a L ih =>
      intro i h hf
      cases i with
      | zero =>
        rw [List.getD_cons_zero] at hf ⊢
        have hv0 : wt sc (a.1, a.2.1, a.2.2.1, v) = false := hf
        rw [List.set_cons_zero, List.filter_cons, List.filter_cons, hv0, hf]
        rfl
      | succ i =>
        rw [List.getD_cons_succ] at hf ⊢
        have := ih i (Nat.lt_of_succ_lt_succ h) hf
        rw [List.set_cons_succ, List.filter_cons, List.filter_cons, this]
  have hm := hmap L i hi
  have hf := hfil L i hi hwf
  refine ⟨⟨by rw [hm]; exact h.1, fun o ho => ?_, by rw [cnt_len, hf, ← cnt_len]; exact h.2.2.1, fun u hu => ?_, h.2.2.2.2.1, by rw [cnt_len, hf, ← cnt_len, List.length_set]; exact h.2.2.2.2.2⟩, hf, hm⟩
  · obtain ⟨j, hj, rfl⟩ := mem_getD ho
    rw [sl_getD hi]
    rw [List.length_set] at hj
    by_cases e : j = i
    · rw [if_pos e]
      have := h.at hi
      show (L.getD i z4).1 < sc 1 ∧ (L.getD i z4).2.1 < 8 ∧ 1 ≤ (L.getD i z4).2.2.1 ∧ (L.getD i z4).2.2.1 ≤ 9 ∧ 1 ≤ v ∧ v ≤ 60
      omega
    · rw [if_neg e]
      exact h.at hj
  · rcases h.2.2.2.1 u hu with q | ⟨o, ho, q⟩
    · exact Or.inl q
    · have h1 : o.1 ∈ L.map (·.1) := List.mem_map_of_mem ho
      rw [← hm] at h1
      obtain ⟨o2, h2, h3⟩ := List.mem_map.mp h1
      exact Or.inr ⟨o2, h2, by rw [q]; exact congrArg (· + 1) h3.symm⟩

