-- ===== mean loudness, share of lost grains =====
theorem sumF_map (f : E4 → Nat) (L : List E4) : sumF (fun j => f (L.getD j z4)) 0 L.length = (L.map f).sum := by
  induction L with
  | nil => rfl
  | cons a L ih =>
    rw [List.length_cons, sumF_S, sumF_shift, List.map_cons, List.sum_cons, ← ih]
    simp only [List.getD_cons_zero, List.getD_cons_succ]
theorem sum_filter (q : E4 → Bool) (f : E4 → Nat) (L : List E4) : ((L.filter q).map f).sum = (L.map fun e => if q e = true then f e else 0).sum := by
  induction L with
  | nil => rfl
  | cons a L ih =>
    rw [List.filter_cons, List.map_cons, List.sum_cons, ← ih]
    by_cases h : q a = true
    · rw [if_pos h, if_pos h, List.map_cons, List.sum_cons]
    · rw [if_neg h, if_neg h, Nat.zero_add]
theorem pu_ND {α : Type} {i : UInt64} {K : Option α} (h : vf_n64 i) : ND i K = K := if_pos h
theorem pu_NF {α : Type} {i : UInt32} {K : Option α} (h : vf_n32 i) : NF i K = K := if_pos h
section PR
variable {σ s : St} {m C : Nat} {T : List Nat}
theorem cl_wl_S (k r : Nat) (x1 x2 : Int32) (σ : St) : fX7_waitingLoudness_L4 m k (r + 1) x1 x2 σ = fX7_waitingLoudness_L4b m k (fX7_waitingLoudness_L4 m k r) x1 x2 σ := rfl
theorem cl_wl {sc : Nat → Nat} {L W : List E4} {n : Nat} (hF : 2000 ≤ m) (hn : NRW σ n sc L W) (hl : W.length ≤ 12) : fX7_waitingLoudness m n σ = some (nI (0 + (W.map (·.2.2.1)).sum), σ) := by
  have h5 := hn.2.1
  have key : ∀ d r i x, i + d = W.length → d < r → fX7_waitingLoudness_L4 m n r (nI x) (nI i) σ = some (nI (x + sumF (fun j => (W.getD j z4).2.2.1) i d), σ) := by
    intro d
    induction d with
    | zero =>
      intro r i x h1 h2
      obtain ⟨r, rfl⟩ : ∃ q, r = q + 1 := ⟨r - 1, by omega⟩
      simp (disch := omega) only [pu_OB, pu_LET, pu_OX0, pu_BND, pu_NZ, pu_BL, pu_m1, nI_add, pk_sub, pk_mul, pk_div, nI_clamp, pu_eq, pu_ne, pu_le_t, pu_le_f, pu_lt_t, pu_lt_f, pu_nm, pu_mm, pu_u2e, pu_u2n, ↓reduceIte, li0, li1, li2, li3, li4, li5, li6, li7, li8, li9, li10, li11, li12, li13, li14, li15, li16, li17, li18, li19, li20, li21, li22, li23, li24, li25, li26, li27, li28, li29, li30, li31, li32, li33, li34, li35, li36, li37, li38, li39, li40, li41, li42, li43, li44, li45, li46, li47, li48, li49, li50, li51, li52, li53, li54, li55, li56, li57, li58, li59, li60, li64, li72, li87, li97, li98, li99, li100, li101, li102, li103, li104, li105, li108, li109, li110, li111, li112, li114, li115, li116, li117, li119, li120, li124, li126, li132, li139, li140, li148, li156, li1000, li1092, li1248, cl_wl_S, fX7_waitingLoudness_L4b, h5, sumF_0, Nat.add_zero]
    | succ d ih =>
      intro r i x h1 h2
      obtain ⟨r, rfl⟩ : ∃ q, r = q + 1 := ⟨r - 1, by omega⟩
      have e1 := (hn.2.2.1 i (by omega)).2.2.1
      rw [sumF_S, ← Nat.add_assoc]
      simp (disch := omega) only [pu_OB, pu_LET, pu_OX0, pu_BND, pu_NZ, pu_BL, pu_m1, nI_add, pk_sub, pk_mul, pk_div, nI_clamp, pu_eq, pu_ne, pu_le_t, pu_le_f, pu_lt_t, pu_lt_f, pu_nm, pu_mm, pu_u2e, pu_u2n, ↓reduceIte, li0, li1, li2, li3, li4, li5, li6, li7, li8, li9, li10, li11, li12, li13, li14, li15, li16, li17, li18, li19, li20, li21, li22, li23, li24, li25, li26, li27, li28, li29, li30, li31, li32, li33, li34, li35, li36, li37, li38, li39, li40, li41, li42, li43, li44, li45, li46, li47, li48, li49, li50, li51, li52, li53, li54, li55, li56, li57, li58, li59, li60, li64, li72, li87, li97, li98, li99, li100, li101, li102, li103, li104, li105, li108, li109, li110, li111, li112, li114, li115, li116, li117, li119, li120, li124, li126, li132, li139, li140, li148, li156, li1000, li1092, li1248, cl_wl_S, fX7_waitingLoudness_L4b, h5, e1, ih r (i + 1)]
  have h := key W.length m 0 0 (by omega) (by omega)
  rw [sumF_map (fun e => e.2.2.1)] at h
  exact h
end PR

