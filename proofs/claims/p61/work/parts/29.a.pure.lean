-- ===== the mill's noises: writes =====
def mvS (σ : St) (n p q : Nat) : St := u2 (u2 (u2 (u2 σ (n + 1) q (σ (n + 1) p)) (n + 2) q (σ (n + 2) p)) (n + 3) q (σ (n + 3) p)) (n + 4) q (σ (n + 4) p)
theorem mvS_to {σ : St} {n p q : Nat} {e : E4} (h : slotE σ n p e) : slotE (mvS σ n p q) n q e := by
  unfold mvS
  refine ⟨?_, ?_, ?_, ?_⟩
  · rw [pu_u2n (by omega), pu_u2n (by omega), pu_u2n (by omega), pu_u2e ⟨rfl, rfl⟩]
    exact h.1
  · rw [pu_u2n (by omega), pu_u2n (by omega), pu_u2e ⟨rfl, rfl⟩]
    exact h.2.1
  · rw [pu_u2n (by omega), pu_u2e ⟨rfl, rfl⟩]
    exact h.2.2.1
  · rw [pu_u2e ⟨rfl, rfl⟩]
    exact h.2.2.2
theorem mvS_o {σ : St} {n p q c j : Nat} (h : j ≠ q ∨ c ≤ n ∨ n + 4 < c) : mvS σ n p q c j = σ c j := by
  unfold mvS
  rw [pu_u2n (by omega), pu_u2n (by omega), pu_u2n (by omega), pu_u2n (by omega)]
theorem mvS_row {σ : St} {n p q c : Nat} (h : c ≤ n ∨ n + 4 < c) : mvS σ n p q c = σ c := by
  funext j
  exact mvS_o (Or.inr h)
theorem mvS_keep {σ : St} {n p q r : Nat} {e : E4} (h : slotE σ n r e) (hr : r ≠ q) : slotE (mvS σ n p q) n r e := by
  refine ⟨?_, ?_, ?_, ?_⟩
  · rw [mvS_o (Or.inl hr)]
    exact h.1
  · rw [mvS_o (Or.inl hr)]
    exact h.2.1
  · rw [mvS_o (Or.inl hr)]
    exact h.2.2.1
  · rw [mvS_o (Or.inl hr)]
    exact h.2.2.2
theorem slotE_congr {σ τ : St} {n q : Nat} {e : E4} (h : slotE σ n q e) (hc : ∀ c, 1 ≤ c → c ≤ 4 → τ (n + c) q = σ (n + c) q) : slotE τ n q e :=
  ⟨by rw [hc 1 (by omega) (by omega)]; exact h.1, by rw [hc 2 (by omega) (by omega)]; exact h.2.1, by rw [hc 3 (by omega) (by omega)]; exact h.2.2.1, by rw [hc 4 (by omega) (by omega)]; exact h.2.2.2⟩
/-- the list without the slot q: the last one takes its place -/
def rmW (W : List E4) (q : Nat) : List E4 := (W.set q (W.getD (W.length - 1) z4)).dropLast
theorem rmW_len {W : List E4} {q : Nat} : (rmW W q).length = W.length - 1 := by
  unfold rmW
  rw [List.length_dropLast, List.length_set]
theorem rmW_get {W : List E4} {q j : Nat} (hq : q < W.length) (hj : j < W.length - 1) : (rmW W q).getD j z4 = if j = q then W.getD (W.length - 1) z4 else W.getD j z4 := by
  unfold rmW
  rw [List.getD_eq_getElem?_getD, List.getElem?_dropLast, List.length_set, if_pos hj, ← List.getD_eq_getElem?_getD, sl_getD hq]
theorem set_perm {l : E4} : ∀ {V : List E4} {q : Nat}, q < V.length → (l :: V).Perm (V.getD q z4 :: V.set q l) := by
  intro V
  induction V with
  | nil => intro q h; cases h
  | cons a V ih =>
    intro q h
    cases q with
    | zero => exact List.Perm.swap _ _ _
    | succ q =>
      rw [List.getD_cons_succ, List.set_cons_succ]
      refine (List.Perm.swap a l V).trans ?_
      refine ((ih (Nat.lt_of_succ_lt_succ h)).cons a).trans ?_
      exact List.Perm.swap _ _ _
theorem rmW_perm {W : List E4} {q : Nat} (hq : q < W.length) : W.Perm (W.getD q z4 :: rmW W q) := by
  rcases List.eq_nil_or_concat W with rfl | ⟨V, l, rfl⟩
  · cases hq
  · rw [List.concat_eq_append] at hq ⊢
    have hl : (V ++ [l]).length = V.length + 1 := by rw [List.length_append]; rfl
    rw [hl] at hq
    have hlast : (V ++ [l]).getD ((V ++ [l]).length - 1) z4 = l := by
      rw [hl, Nat.add_sub_cancel, ap_getD (Nat.le_refl _), if_pos rfl]
    unfold rmW
    rw [hlast]
    by_cases c : q = V.length
    · subst c
      rw [ap_getD (Nat.le_refl _), if_pos rfl, List.set_append_right _ _ (Nat.le_refl _), Nat.sub_self, List.set_cons_zero, List.dropLast_concat]
      exact List.perm_append_singleton _ _
    · rw [ap_getD (by omega), if_neg c, List.set_append_left _ _ (by omega), List.dropLast_concat]
      exact (List.perm_append_singleton _ _).trans (set_perm (by omega))
section CL
variable {σ : St} {n m : Nat} {sc : Nat → Nat} {L W : List E4}
theorem cl_move {p q : Nat} (hp : p < 15) (hq : q < 15) : fX7_move n (nI p) (nI q) σ = some (nI 0, mvS σ n p q) := by
  unfold fX7_move mvS
  simp (disch := omega) only [pu_OB, pu_LET, pu_OX0, pu_BND, pu_NZ, pu_BL, pu_m1, nI_add, pk_sub, pk_mul, pk_div, nI_clamp, pu_eq, pu_ne, pu_le_t, pu_le_f, pu_lt_t, pu_lt_f, pu_nm, pu_mm, pu_u2e, pu_u2n, ↓reduceIte, li0, li1, li2, li3, li4, li5, li6, li7, li8, li9, li10, li11, li12, li13, li14, li15, li16, li17, li18, li19, li20, li21, li22, li23, li24, li25, li26, li27, li28, li29, li30, li31, li32, li33, li34, li35, li36, li37, li38, li39, li40, li41, li42, li43, li44, li45, li46, li47, li48, li49, li50, li51, li52, li53, li54, li55, li56, li57, li58, li59, li60, li64, li72, li87, li97, li98, li99, li100, li101, li102, li103, li104, li105, li108, li109, li110, li111, li112, li114, li115, li116, li117, li119, li120, li124, li126, li132, li139, li140, li148, li156, li1000, li1092, li1248]
/-- the last waiting slot goes to the place q -/
theorem cl_removeWaiting {q len : Nat} (h5 : σ n 5 = nI len) (hl : len ≤ 12) (hq : q < len) : fX7_removeWaiting n (nI q) σ = some (nI 0, u2 (mvS σ n (len - 1) q) n 5 (nI (len - 1))) := by
  have e : mvS σ n (len - 1) q n 5 = nI len := by rw [mvS_o (by omega), h5]
  have e2 := cl_move (σ := σ) (n := n) (p := len - 1) (q := q) (by omega) (by omega)
  unfold fX7_removeWaiting
  simp (disch := omega) only [pu_OB, pu_LET, pu_OX0, pu_BND, pu_NZ, pu_BL, pu_m1, nI_add, pk_sub, pk_mul, pk_div, nI_clamp, pu_eq, pu_ne, pu_le_t, pu_le_f, pu_lt_t, pu_lt_f, pu_nm, pu_mm, pu_u2e, pu_u2n, ↓reduceIte, li0, li1, li2, li3, li4, li5, li6, li7, li8, li9, li10, li11, li12, li13, li14, li15, li16, li17, li18, li19, li20, li21, li22, li23, li24, li25, li26, li27, li28, li29, li30, li31, li32, li33, li34, li35, li36, li37, li38, li39, li40, li41, li42, li43, li44, li45, li46, li47, li48, li49, li50, li51, li52, li53, li54, li55, li56, li57, li58, li59, li60, li64, li72, li87, li97, li98, li99, li100, li101, li102, li103, li104, li105, li108, li109, li110, li111, li112, li114, li115, li116, li117, li119, li120, li124, li126, li132, li139, li140, li148, li156, li1000, li1092, li1248, h5, e2, e]
/-- the noises' cells after a waiting slot is taken out, whoever waits then -/
theorem NRW_rm {sd : Nat → Nat} {M : List E4} {τ : St} {q : Nat} (hI : IN sc L) (hn : NRW σ n sc L W) (hq : q < W.length) (hp : (L.filter (wt sc)).Perm (W.getD q z4 :: M.filter (wt sd))) (hs : ∀ c, 1 ≤ c → c ≤ 4 → ∀ j, j < 12 → τ (n + c) j = σ (n + c) j)
    (hw : ∀ w, w < 3 → τ (n + 5) w = nI (hflag (sd (13 + w))) ∧ ∀ e ∈ M, sd (13 + w) = e.1 + 1 → slotE τ n (12 + w) e) : NRW (u2 (mvS τ n (W.length - 1) q) n 5 (nI (W.length - 1))) n sd M (rmW W q) := by
  have hlen : W.length ≤ 12 := by rw [hn.len]; exact hI.2.2.1
  have hsl : ∀ j, j < W.length → slotE τ n j (W.getD j z4) := fun j hj => slotE_congr (hn.2.2.1 j hj) fun c h1 h2 => hs c h1 h2 j (by omega)
  refine ⟨?_, ?_, fun j hj => ?_, fun w hw3 => ?_⟩
  · exact ((rmW_perm hq).symm.trans (hn.1.trans hp)).cons_inv
  · rw [pu_u2e ⟨rfl, rfl⟩, rmW_len]
  · rw [rmW_len] at hj
    rw [rmW_get hq hj]
    refine slotE_congr (σ := mvS τ n (W.length - 1) q) ?_ fun c h1 h2 => pu_u2n (by omega)
    by_cases c : j = q
    · subst c
      rw [if_pos rfl]
      exact mvS_to (hsl _ (by omega))
    · rw [if_neg c]
      exact mvS_keep (hsl _ (by omega)) c
  · have h := hw w hw3
    refine ⟨by rw [pu_u2n (by omega), mvS_o (by omega)]; exact h.1, fun e he hh => ?_⟩
    refine slotE_congr (σ := mvS τ n (W.length - 1) q) ?_ fun c h1 h2 => pu_u2n (by omega)
    exact mvS_keep (h.2 e he hh) (by omega)
theorem cl_take {w q : Nat} (hn : NRW σ n sc L W) (hI : IN sc L) (hF : 2000 ≤ m) (hw : w < 3) (h0 : sc (13 + w) = 0) (hq : q < W.length) (hf : fX7_firstWaiting m n σ = some (nI q, σ)) : ∃ τ, fX7_takeFirst m n (nI w) σ = some (nI 0, τ) ∧ NRW τ n (upN sc (13 + w) ((W.getD q z4).1 + 1)) L (rmW W q) ∧ (∀ c, c < n ∨ n + 5 < c → τ c = σ c) ∧ τ n 6 = σ n 6 := by
  have hlen : W.length ≤ 12 := by rw [hn.len]; exact hI.2.2.1
  have hat := hn.at hq
  have hh := IN_hold hI hat.1 hw h0 hat.2
  refine ⟨u2 (mvS (u2 (mvS σ n q (12 + w)) (n + 5) w (nI 1)) n (W.length - 1) q) n 5 (nI (W.length - 1)), ?_, ?_, fun c hc => ?_, ?_⟩
  · have e5 : u2 (mvS σ n q (12 + w)) (n + 5) w (nI 1) n 5 = nI W.length := by rw [pu_u2n (by omega), mvS_o (by omega), hn.2.1]
    have e6 : vp_nar .boolean (nI 1) = nI 1 := rfl
    have e7 := cl_move (σ := σ) (n := n) (p := q) (q := 12 + w) (by omega) (by omega)
    have e8 := cl_removeWaiting (σ := u2 (mvS σ n q (12 + w)) (n + 5) w (nI 1)) (n := n) (q := q) e5 hlen hq
    unfold fX7_takeFirst
    simp (disch := omega) only [pu_OB, pu_LET, pu_OX0, pu_BND, pu_NZ, pu_BL, pu_m1, nI_add, pk_sub, pk_mul, pk_div, nI_clamp, pu_eq, pu_ne, pu_le_t, pu_le_f, pu_lt_t, pu_lt_f, pu_nm, pu_mm, pu_u2e, pu_u2n, ↓reduceIte, li0, li1, li2, li3, li4, li5, li6, li7, li8, li9, li10, li11, li12, li13, li14, li15, li16, li17, li18, li19, li20, li21, li22, li23, li24, li25, li26, li27, li28, li29, li30, li31, li32, li33, li34, li35, li36, li37, li38, li39, li40, li41, li42, li43, li44, li45, li46, li47, li48, li49, li50, li51, li52, li53, li54, li55, li56, li57, li58, li59, li60, li64, li72, li87, li97, li98, li99, li100, li101, li102, li103, li104, li105, li108, li109, li110, li111, li112, li114, li115, li116, li117, li119, li120, li124, li126, li132, li139, li140, li148, li156, li1000, li1092, li1248, hf, cl_slotOn, e7, e6, e8]
  · refine NRW_rm hI hn hq hh.2 (fun c h1 h2 j hj => ?_) fun v hv => ?_
    · rw [pu_u2n (by omega), mvS_o (by omega)]
    · by_cases c : v = w
      · subst c
        refine ⟨?_, fun e he h1 => ?_⟩
        · rw [pu_u2e ⟨rfl, rfl⟩, upN_e rfl]
          rfl
        · rw [upN_e rfl] at h1
          obtain rfl : W.getD q z4 = e := nd_inj hI.1 hat.1 he (by omega)
          exact slotE_congr (mvS_to (hn.2.2.1 q hq)) fun c h1 h2 => pu_u2n (by omega)
      · have h := hn.2.2.2 v hv
        rw [upN_n (by omega)]
        refine ⟨by rw [pu_u2n (by omega), mvS_o (by omega)]; exact h.1, fun e he h1 => ?_⟩
        exact slotE_congr (mvS_keep (q := 12 + w) (p := q) (h.2 e he h1) (by omega)) fun c h1 h2 => pu_u2n (by omega)
  · rw [pu_u2r (by omega), mvS_row (by omega), pu_u2r (by omega), mvS_row (by omega)]
  · rw [pu_u2n (by omega), mvS_o (by omega), pu_u2n (by omega), mvS_o (by omega)]
/-- a held noise that isn't any wheel's any more leaves -/
theorem NRW_leave {w : Nat} {M : List E4} {τ : St} {sd : Nat → Nat} (hn : NRW σ n sc L W) (hI : IN sc L) (hw : w < 3) {e : E4} (h0 : sc (13 + w) = e.1 + 1) (hp : L.Perm (e :: M)) (h5 : τ n 5 = σ n 5) (hs : ∀ c, 1 ≤ c → c ≤ 4 → ∀ j, j ≠ 12 + w → τ (n + c) j = σ (n + c) j) (hh : ∀ v, v < 3 → v ≠ w → τ (n + 5) v = σ (n + 5) v) (hz : τ (n + 5) w = nI 0) (hsd : ∀ v, v < 3 → sd (13 + v) = upN sc (13 + w) 0 (13 + v)) : NRW τ n sd M W := by
  have hd := IN_done hI hp hw h0
  have hlen : W.length ≤ 12 := by rw [hn.len]; exact hI.2.2.1
  refine ⟨?_, by rw [h5]; exact hn.2.1, fun q hq => slotE_congr (hn.2.2.1 q hq) fun c h1 h2 => hs c h1 h2 q (by omega), fun v hv => ?_⟩
  · rw [wt_same hsd]
    exact hn.1.trans hd.2
  · rw [hsd v hv]
    by_cases c : v = w
    · subst c
      rw [upN_e rfl]
      refine ⟨hz, fun f hf h1 => ?_⟩
      omega
    · rw [upN_n (by omega)]
      have h := hn.2.2.2 v hv
      refine ⟨by rw [hh v hv c]; exact h.1, fun f hf h1 => ?_⟩
      exact slotE_congr (h.2 f (hp.symm.subset (List.mem_cons_of_mem _ hf)) h1) fun c h1 h2 => hs c h1 h2 _ (by omega)
/-- the amount of a held noise is written -/
theorem NRW.set {w i v : Nat} {x : Int32} (hn : NRW σ n sc L W) (hI : IN sc L) (hi : i < L.length) (hw : w < 3) (h0 : sc (13 + w) = (L.getD i z4).1 + 1) (hv : 1 ≤ v ∧ v ≤ 60) (hx : x = nI v) : NRW (u2 σ (n + 4) (12 + w) x) n sc (L.set i ((L.getD i z4).1, (L.getD i z4).2.1, (L.getD i z4).2.2.1, v)) W := by
  subst hx
  have hlen : W.length ≤ 12 := by rw [hn.len]; exact hI.2.2.1
  have hs := IN_set hI hi hw h0 hv
  refine ⟨by rw [hs.2.1]; exact hn.1, by rw [pu_u2n (by omega)]; exact hn.2.1, fun q hq => slotE_congr (hn.2.2.1 q hq) fun c h1 h2 => pu_u2n (by omega), fun u hu => ?_⟩
  have h := hn.2.2.2 u hu
  refine ⟨by rw [pu_u2n (by omega)]; exact h.1, fun f hf h1 => ?_⟩
  obtain ⟨j, hj, rfl⟩ := mem_getD hf
  rw [List.length_set] at hj
  rw [sl_getD hi] at h1 ⊢
  by_cases c : j = i
  · rw [if_pos c] at h1 ⊢
    have hu9 : u = w := by
      by_cases g : u = w
      · exact g
      · have h1 : sc (13 + u) = (L.getD i z4).1 + 1 := h1
        have := hI.2.2.2.2.1 u w hu hw g
        omega
    subst hu9
    have h2 := h.2 _ (getD_mem hi) h0
    refine ⟨?_, ?_, ?_, ?_⟩
    · rw [pu_u2n (by omega)]
      exact h2.1
    · rw [pu_u2n (by omega)]
      exact h2.2.1
    · rw [pu_u2n (by omega)]
      exact h2.2.2.1
    · exact pu_u2e ⟨rfl, rfl⟩
  · rw [if_neg c] at h1 ⊢
    have h2 := h.2 _ (getD_mem hj) h1
    have hu9 : u ≠ w := fun g => by
      subst g
      exact c (nd_ix hI.1 hj hi (by omega))
    exact slotE_congr h2 fun c h1 h2 => pu_u2n (by omega)
end CL

