-- ===== p61: the mean loudness =====
/-- the loudness of the waiting noises together -/
def lS (A : AM) : Nat := ((A.2.filter (wt A.1)).map (fun e => e.2.2.1)).sum
theorem q_mean {σ : St} {m C : Nat} {A : AM} {H : List AM} {S : Option AM} {B : List Nat} {er fl : Option Nat} (hF : 2000 ≤ m) (h : KG σ A H S B er fl C) (h0 : 0 < wN A) : fX11_meanLoudness m σ = ND (FP.ddiv (FP.i2d (nI (lS A))) (FP.i2d (nI (wN A)))) (some ((0, FP.ddiv (FP.i2d (nI (lS A))) (FP.i2d (nI (wN A)))), σ)) := by
  obtain ⟨-, W, hn⟩ := h.1
  have hlen : W.length ≤ 12 := by rw [hn.len]; exact h.2.2.1.1.2.2.1
  have h5 := hn.2.1
  have hwl : W.length = wN A := hn.len
  have hc := cl_wl (m := m) hF hn hlen
  have hs : 0 + (W.map (fun e => e.2.2.1)).sum = lS A := by
    rw [Nat.zero_add, (hn.1.map (fun e => e.2.2.1)).sum_nat]
    rfl
  rw [hs] at hc
  rw [hwl] at h5
  have hw12 : wN A ≤ 12 := by omega
  unfold fX11_meanLoudness
  simp (disch := omega) only [pu_OB, pu_LET, pu_OX0, pu_BND, pu_NZ, pu_BL, pu_m1, nI_add, pk_sub, pk_mul, pk_div, nI_clamp, pu_eq, pu_ne, pu_le_t, pu_le_f, pu_lt_t, pu_lt_f, pu_nm, pu_mm, pu_u2e, pu_u2n, ↓reduceIte, li0, li1, li2, li3, li4, li5, li6, li7, li8, li9, li10, li11, li12, li13, li14, li15, li16, li17, li18, li19, li20, li21, li22, li23, li24, li25, li26, li27, li28, li29, li30, li31, li32, li33, li34, li35, li36, li37, li38, li39, li40, li41, li42, li43, li44, li45, li46, li47, li48, li49, li50, li51, li52, li53, li54, li55, li56, li57, li58, li59, li60, li64, li72, li87, li97, li98, li99, li100, li101, li102, li103, li104, li105, li108, li109, li110, li111, li112, li114, li115, li116, li117, li119, li120, li124, li126, li132, li139, li140, li148, li156, li1000, li1092, li1248, h5, hc]

