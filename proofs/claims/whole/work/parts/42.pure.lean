-- ===== ranks by the queue; the check; undo and snapshot; the buffer =====
section PR
variable {σ s : St} {m C : Nat} {T : List Nat}
theorem range_map {W : List E4} : (List.range W.length).map (fun q => W.getD q z4) = W := by
  apply List.ext_getElem?
  intro i
  rw [List.getElem?_map]
  by_cases h : i < W.length
  · rw [List.getElem?_range h, List.getElem?_eq_getElem h]
    show some (W.getD i z4) = _
    rw [List.getD_eq_getElem?_getD, List.getElem?_eq_getElem h]
    rfl
  · rw [List.getElem?_eq_none (by simpa using h), List.getElem?_eq_none (by omega)]
    rfl
/-- the least of the slots behind the first t has rank t -/
theorem q_rank {sc : Nat → Nat} {L W : List E4} {n q : Nat} {Tk Q : List Nat} (hn : NRW σ n sc L W) (hp : (Tk ++ Q).Perm (List.range W.length)) (hb9 : ∀ x ∈ Tk, ∀ y ∈ Q, bef (W.getD x z4) (W.getD y z4) = true) (hq : q ∈ Q) (hm : ∀ o ∈ Q, o ≠ q → bef (W.getD q z4) (W.getD o z4) = true) : rk sc L (W.getD q z4) = Tk.length := by
  rw [← hn.rk]
  have e : W.countP (fun o => bef o (W.getD q z4)) = ((Tk ++ Q).map (fun q => W.getD q z4)).countP (fun o => bef o (W.getD q z4)) := by
    rw [(hp.map _).countP_eq, range_map]
  rw [e, List.map_append, List.countP_append, List.countP_map, List.countP_map]
  have e1 : Tk.countP ((fun o => bef o (W.getD q z4)) ∘ fun q => W.getD q z4) = Tk.length := List.countP_eq_length.mpr fun x hx => hb9 x hx q hq
  have e2 : Q.countP ((fun o => bef o (W.getD q z4)) ∘ fun q => W.getD q z4) = 0 := List.countP_eq_zero.mpr fun o ho h => by
    have h : bef (W.getD o z4) (W.getD q z4) = true := h
    by_cases c : o = q
    · subst c
      have := bef_t.mp h
      omega
    · have g1 := bef_t.mp (hm o ho c)
      have g2 := bef_t.mp h
      omega
  rw [e1, e2, Nat.add_zero]
theorem cl_sar_S (r : Nat) (x1 x2 : Int32) (σ : St) : fX11_slotAtRank_L36 m (r + 1) x1 x2 σ = fX11_slotAtRank_L36b m (fX11_slotAtRank_L36 m r) x1 x2 σ := rfl
theorem cl_slotAtRank {A : AM} {W : List E4} {r : Nat} (hF : 2000 ≤ m) (hn : NRW σ (0 + 1) A.1 A.2 W) (hI : IN A.1 A.2) (hB : A.1 1 < 2 ^ 30) (hr : r < W.length) : ∃ q τ, q < W.length ∧ fX11_slotAtRank m (nI r) σ = some (nI q, τ) ∧ rk A.1 A.2 (W.getD q z4) = r ∧ ∀ c, c ≠ 212 → c ≠ 213 → τ c = σ c := by
  have hlen : W.length ≤ 12 := by rw [hn.len]; exact hI.2.2.1
  obtain ⟨t, t1, t2, t3⟩ := cl_fill (m := m) hF hn hlen
  have key : ∀ d f i (τ : St) (Tk Q : List Nat), i + d = r → d < f → QR τ Q → Tk.length = i → (Tk ++ Q).Perm (List.range W.length) → (∀ x ∈ Tk, ∀ y ∈ Q, bef (W.getD x z4) (W.getD y z4) = true) → (∀ c, c ≠ 212 → c ≠ 213 → τ c = σ c) → ∃ q υ, q < W.length ∧ fX11_slotAtRank_L36 m f (nI r) (nI i) τ = some (nI q, υ) ∧ rk A.1 A.2 (W.getD q z4) = r ∧ ∀ c, c ≠ 212 → c ≠ 213 → υ c = σ c := by
    intro d
    induction d with
    | zero =>
      intro f i τ Tk Q h1 h2 hQ hT hp hb9 hf
      obtain ⟨f, rfl⟩ : ∃ q, f = q + 1 := ⟨f - 1, by omega⟩
      have hnτ : NRW τ (0 + 1) A.1 A.2 W := hn.congr (by rw [hf _ (by omega) (by omega)]) (fun c a b => hf _ (by omega) (by omega)) fun w hw => rfl
      have hpl := hp.length_eq
      rw [List.length_append, List.length_range] at hpl
      have hnd : (Tk ++ Q).Nodup := hp.symm.nodup List.nodup_range
      obtain ⟨a, υ, a1, a2, a3, a4, a5⟩ := cl_qtake (m := m) hF hnτ hI hB (by omega) hQ (by omega) (fun q hq => List.mem_range.mp (hp.subset (List.mem_append_right _ hq))) (List.nodup_append.mp hnd).2.1
      have hmem := ngetD_mem a1
      refine ⟨Q.getD a 0, υ, List.mem_range.mp (hp.subset (List.mem_append_right _ hmem)), ?_, ?_, fun c x y => by rw [a5 c x y, hf c x y]⟩
      · simp (disch := omega) only [pu_OB, pu_LET, pu_OX0, pu_BND, pu_NZ, pu_BL, pu_m1, nI_add, pk_sub, pk_mul, pk_div, nI_clamp, pu_eq, pu_ne, pu_le_t, pu_le_f, pu_lt_t, pu_lt_f, pu_nm, pu_mm, pu_u2e, pu_u2n, ↓reduceIte, li0, li1, li2, li3, li4, li5, li6, li7, li8, li9, li10, li11, li12, li13, li14, li15, li16, li17, li18, li19, li20, li21, li22, li23, li24, li25, li26, li27, li28, li29, li30, li31, li32, li33, li34, li35, li36, li37, li38, li39, li40, li41, li42, li43, li44, li45, li46, li47, li48, li49, li50, li51, li52, li53, li54, li55, li56, li57, li58, li59, li60, li64, li72, li87, li97, li98, li99, li100, li101, li102, li103, li104, li105, li108, li109, li110, li111, li112, li114, li115, li116, li117, li119, li120, li124, li126, li132, li139, li140, li148, li156, li1000, li1092, li1248, cl_sar_S, fX11_slotAtRank_L36b, a2]
      · rw [q_rank hn hp hb9 hmem a4]
        omega
    | succ d ih =>
      intro f i τ Tk Q h1 h2 hQ hT hp hb9 hf
      obtain ⟨f, rfl⟩ : ∃ q, f = q + 1 := ⟨f - 1, by omega⟩
      have hnτ : NRW τ (0 + 1) A.1 A.2 W := hn.congr (by rw [hf _ (by omega) (by omega)]) (fun c a b => hf _ (by omega) (by omega)) fun w hw => rfl
      have hpl := hp.length_eq
      rw [List.length_append, List.length_range] at hpl
      have hnd : (Tk ++ Q).Nodup := hp.symm.nodup List.nodup_range
      obtain ⟨a, υ, a1, a2, a3, a4, a5⟩ := cl_qtake (m := m) hF hnτ hI hB (by omega) hQ (by omega) (fun q hq => List.mem_range.mp (hp.subset (List.mem_append_right _ hq))) (List.nodup_append.mp hnd).2.1
      have hmem := ngetD_mem a1
      have hqp := rmQ_perm a1
      have hQnd := (List.nodup_append.mp hnd).2.1
      have hQ2 : Q.getD a 0 ∉ rmQ Q a := (List.nodup_cons.mp (hqp.nodup hQnd)).1
      obtain ⟨q, υ2, b1, b2, b3, b4⟩ := ih f (i + 1) υ (Tk ++ [Q.getD a 0]) (rmQ Q a) (by omega) (by omega) a3 (by rw [List.length_append, hT]; rfl) (by
        rw [List.append_assoc]
        exact (List.Perm.append_left Tk hqp.symm).trans hp) (fun x hx y hy => by
        have hy2 : y ∈ Q := hqp.symm.subset (List.mem_cons_of_mem _ hy)
        rcases List.mem_append.mp hx with hx | hx
        · exact hb9 x hx y hy2
        · rw [List.mem_singleton.mp hx]
          exact a4 y hy2 fun e => hQ2 (e ▸ hy)) (fun c x y => by rw [a5 c x y, hf c x y])
      refine ⟨q, υ2, b1, ?_, b3, b4⟩
      simp (disch := omega) only [pu_OB, pu_LET, pu_OX0, pu_BND, pu_NZ, pu_BL, pu_m1, nI_add, pk_sub, pk_mul, pk_div, nI_clamp, pu_eq, pu_ne, pu_le_t, pu_le_f, pu_lt_t, pu_lt_f, pu_nm, pu_mm, pu_u2e, pu_u2n, ↓reduceIte, li0, li1, li2, li3, li4, li5, li6, li7, li8, li9, li10, li11, li12, li13, li14, li15, li16, li17, li18, li19, li20, li21, li22, li23, li24, li25, li26, li27, li28, li29, li30, li31, li32, li33, li34, li35, li36, li37, li38, li39, li40, li41, li42, li43, li44, li45, li46, li47, li48, li49, li50, li51, li52, li53, li54, li55, li56, li57, li58, li59, li60, li64, li72, li87, li97, li98, li99, li100, li101, li102, li103, li104, li105, li108, li109, li110, li111, li112, li114, li115, li116, li117, li119, li120, li124, li126, li132, li139, li140, li148, li156, li1000, li1092, li1248, cl_sar_S, fX11_slotAtRank_L36b, a2]
      exact b2
  obtain ⟨q, υ, u1, u2', u3, u4⟩ := key r m 0 t [] (List.range W.length) (by omega) (by omega) t2 rfl (List.Perm.refl _) (fun x hx => by cases hx) t3
  refine ⟨q, υ, u1, ?_, u3, u4⟩
  unfold fX11_slotAtRank
  have h5 := hn.2.1
  simp (disch := omega) only [pu_OB, pu_LET, pu_OX0, pu_BND, pu_NZ, pu_BL, pu_m1, nI_add, pk_sub, pk_mul, pk_div, nI_clamp, pu_eq, pu_ne, pu_le_t, pu_le_f, pu_lt_t, pu_lt_f, pu_nm, pu_mm, pu_u2e, pu_u2n, ↓reduceIte, li0, li1, li2, li3, li4, li5, li6, li7, li8, li9, li10, li11, li12, li13, li14, li15, li16, li17, li18, li19, li20, li21, li22, li23, li24, li25, li26, li27, li28, li29, li30, li31, li32, li33, li34, li35, li36, li37, li38, li39, li40, li41, li42, li43, li44, li45, li46, li47, li48, li49, li50, li51, li52, li53, li54, li55, li56, li57, li58, li59, li60, li64, li72, li87, li97, li98, li99, li100, li101, li102, li103, li104, li105, li108, li109, li110, li111, li112, li114, li115, li116, li117, li119, li120, li124, li126, li132, li139, li140, li148, li156, li1000, li1092, li1248, t1, h5]
  exact u2'
theorem rk_lt_len {A : AM} {W : List E4} {n : Nat} (hn : NRW σ n A.1 A.2 W) {e : E4} (he : e ∈ A.2) (hw : wt A.1 e = true) : rk A.1 A.2 e < W.length := by
  rw [← hn.rk]
  obtain ⟨q, hq, rfl⟩ := mem_getD (hn.mem.mpr ⟨he, hw⟩)
  rw [(rmW_perm hq).countP_eq, List.countP_cons, if_neg (by simp [bef]), (rmW_perm hq).length_eq, List.length_cons]
  have := List.countP_le_length (p := fun o => bef o (W.getD q z4)) (l := rmW W q)
  omega
theorem ca_waitingAt (hF : 2000 ≤ m) (hC : C < 512) (h : GG σ s C T) (p : Int32) : CASE (fX11_waitingAt m p σ) (fX12_waitingAt m p s) [3] C T := by
  have h0 := h
  obtain ⟨A, H, S, B, er, fl, ⟨g0, W, hn⟩, g2, g3, g4, g5, g6, g7, g8, g9⟩ := h0
  have hB := g5.B (by omega)
  have hlen : W.length ≤ 12 := by rw [hn.len]; exact g5.1.2.2.1
  have h5 := hn.2.1
  rcases rng0 p (n := W.length) (by omega) with hp | ⟨r, hr, rfl⟩
  · have e1 : fX12_ranked m p s = some (mI, s) := rf_ranked_none hF g3.1 g3.2 g5.1 hB fun j hj hwj e => by
      have := rk_lt_len hn (getD_mem hj) hwj
      exact in_bad (by omega) hp this e.symm
    refine q_x (c := 3) (k := 1) (r := 0) (r' := nI 0) h ?_ ?_ (by decide) (by omega) (by decide +kernel)
    · have es : fX11_slotAtRank m p σ = some (mI, σ) := by
        unfold fX11_slotAtRank
        by_cases c : p < 0
        · rw [if_pos c]
          rfl
        · rw [if_neg c, h5, if_neg]
          · rfl
          · intro h9
            have h8 := hp.resolve_left c
            rw [Int32.le_iff_toInt_le] at h8
            rw [Int32.lt_iff_toInt_lt] at h9
            omega
      unfold fX11_waitingAt
      simp (disch := omega) only [pu_OB, pu_LET, pu_OX0, pu_BND, pu_NZ, pu_BL, pu_m1, nI_add, pk_sub, pk_mul, pk_div, nI_clamp, pu_eq, pu_ne, pu_le_t, pu_le_f, pu_lt_t, pu_lt_f, pu_nm, pu_mm, pu_u2e, pu_u2n, ↓reduceIte, li0, li1, li2, li3, li4, li5, li6, li7, li8, li9, li10, li11, li12, li13, li14, li15, li16, li17, li18, li19, li20, li21, li22, li23, li24, li25, li26, li27, li28, li29, li30, li31, li32, li33, li34, li35, li36, li37, li38, li39, li40, li41, li42, li43, li44, li45, li46, li47, li48, li49, li50, li51, li52, li53, li54, li55, li56, li57, li58, li59, li60, li64, li72, li87, li97, li98, li99, li100, li101, li102, li103, li104, li105, li108, li109, li110, li111, li112, li114, li115, li116, li117, li119, li120, li124, li126, li132, li139, li140, li148, li156, li1000, li1092, li1248, es]
    · unfold fX12_waitingAt
      simp (disch := omega) only [pu_OB, pu_LET, pu_OX0, pu_BND, pu_NZ, pu_BL, pu_m1, nI_add, pk_sub, pk_mul, pk_div, nI_clamp, pu_eq, pu_ne, pu_le_t, pu_le_f, pu_lt_t, pu_lt_f, pu_nm, pu_mm, pu_u2e, pu_u2n, ↓reduceIte, li0, li1, li2, li3, li4, li5, li6, li7, li8, li9, li10, li11, li12, li13, li14, li15, li16, li17, li18, li19, li20, li21, li22, li23, li24, li25, li26, li27, li28, li29, li30, li31, li32, li33, li34, li35, li36, li37, li38, li39, li40, li41, li42, li43, li44, li45, li46, li47, li48, li49, li50, li51, li52, li53, li54, li55, li56, li57, li58, li59, li60, li64, li72, li87, li97, li98, li99, li100, li101, li102, li103, li104, li105, li108, li109, li110, li111, li112, li114, li115, li116, li117, li119, li120, li124, li126, li132, li139, li140, li148, li156, li1000, li1092, li1248, e1, rf_fails]
  · obtain ⟨q, τ, q1, q2, q3, q4⟩ := cl_slotAtRank (m := m) hF hn g5.1 hB hr
    have hat := hn.at q1
    obtain ⟨i, hi, hei⟩ := mem_getD hat.1
    have hl := g5.1.len
    have e1 := rf_ranked_at (m := m) hF g3.1 g3.2 g5.1 hB hi (by rw [hei]; exact hat.2)
    rw [hei, q3] at e1
    have e2 := (g3.2.2 i hi).1
    rw [hei] at e2
    have e3 : τ (0 + 1 + 1) q = nI (W.getD q z4).1 := by
      rw [q4 _ (by omega) (by omega)]
      exact (hn.2.2.1 q q1).1
    have hG := h.trial (τ := τ) fun c hc => q4 c (by omega) (by omega)
    refine ⟨0, nI (W.getD q z4).1, τ, nI (W.getD q z4).1, _, ?_, ?_, Or.inl rfl, ?_, fun _ => rfl, hG.th (k := nI 0)⟩
    · unfold fX11_waitingAt
      simp (disch := omega) only [pu_OB, pu_LET, pu_OX0, pu_BND, pu_NZ, pu_BL, pu_m1, nI_add, pk_sub, pk_mul, pk_div, nI_clamp, pu_eq, pu_ne, pu_le_t, pu_le_f, pu_lt_t, pu_lt_f, pu_nm, pu_mm, pu_u2e, pu_u2n, ↓reduceIte, li0, li1, li2, li3, li4, li5, li6, li7, li8, li9, li10, li11, li12, li13, li14, li15, li16, li17, li18, li19, li20, li21, li22, li23, li24, li25, li26, li27, li28, li29, li30, li31, li32, li33, li34, li35, li36, li37, li38, li39, li40, li41, li42, li43, li44, li45, li46, li47, li48, li49, li50, li51, li52, li53, li54, li55, li56, li57, li58, li59, li60, li64, li72, li87, li97, li98, li99, li100, li101, li102, li103, li104, li105, li108, li109, li110, li111, li112, li114, li115, li116, li117, li119, li120, li124, li126, li132, li139, li140, li148, li156, li1000, li1092, li1248, h5, q2, e3]
    · unfold fX12_waitingAt
      simp (disch := omega) only [pu_OB, pu_LET, pu_OX0, pu_BND, pu_NZ, pu_BL, pu_m1, nI_add, pk_sub, pk_mul, pk_div, nI_clamp, pu_eq, pu_ne, pu_le_t, pu_le_f, pu_lt_t, pu_lt_f, pu_nm, pu_mm, pu_u2e, pu_u2n, ↓reduceIte, li0, li1, li2, li3, li4, li5, li6, li7, li8, li9, li10, li11, li12, li13, li14, li15, li16, li17, li18, li19, li20, li21, li22, li23, li24, li25, li26, li27, li28, li29, li30, li31, li32, li33, li34, li35, li36, li37, li38, li39, li40, li41, li42, li43, li44, li45, li46, li47, li48, li49, li50, li51, li52, li53, li54, li55, li56, li57, li58, li59, li60, li64, li72, li87, li97, li98, li99, li100, li101, li102, li103, li104, li105, li108, li109, li110, li111, li112, li114, li115, li116, li117, li119, li120, li124, li126, li132, li139, li140, li148, li156, li1000, li1092, li1248, e1, e2, rf_done]
    · rw [pu_u2e ⟨rfl, rfl⟩]
      decide +kernel
theorem cl_ra_S (r : Nat) (x1 : Int32) (σ : St) : fX11_ranksAgree_L2 m (r + 1) x1 σ = fX11_ranksAgree_L2b m (fX11_ranksAgree_L2 m r) x1 σ := rfl
theorem cl_ranksAgree {A : AM} {W : List E4} (hF : 2000 ≤ m) (hn : NRW σ (0 + 1) A.1 A.2 W) (hI : IN A.1 A.2) (hB : A.1 1 < 2 ^ 30) : ∃ τ, fX11_ranksAgree m σ = some (nI 1, τ) ∧ ∀ c, c ≠ 212 → c ≠ 213 → τ c = σ c := by
  have hlen : W.length ≤ 12 := by rw [hn.len]; exact hI.2.2.1
  have key : ∀ d f i (τ : St), i + d = W.length → d < f → (∀ c, c ≠ 212 → c ≠ 213 → τ c = σ c) → ∃ υ, fX11_ranksAgree_L2 m f (nI i) τ = some (nI 1, υ) ∧ ∀ c, c ≠ 212 → c ≠ 213 → υ c = σ c := by
    intro d
    induction d with
    | zero =>
      intro f i τ h1 h2 hf
      obtain ⟨f, rfl⟩ : ∃ q, f = q + 1 := ⟨f - 1, by omega⟩
      have h5 : τ (0 + 1) 5 = nI W.length := by rw [hf _ (by omega) (by omega)]; exact hn.2.1
      refine ⟨τ, ?_, hf⟩
      simp (disch := omega) only [pu_OB, pu_LET, pu_OX0, pu_BND, pu_NZ, pu_BL, pu_m1, nI_add, pk_sub, pk_mul, pk_div, nI_clamp, pu_eq, pu_ne, pu_le_t, pu_le_f, pu_lt_t, pu_lt_f, pu_nm, pu_mm, pu_u2e, pu_u2n, ↓reduceIte, li0, li1, li2, li3, li4, li5, li6, li7, li8, li9, li10, li11, li12, li13, li14, li15, li16, li17, li18, li19, li20, li21, li22, li23, li24, li25, li26, li27, li28, li29, li30, li31, li32, li33, li34, li35, li36, li37, li38, li39, li40, li41, li42, li43, li44, li45, li46, li47, li48, li49, li50, li51, li52, li53, li54, li55, li56, li57, li58, li59, li60, li64, li72, li87, li97, li98, li99, li100, li101, li102, li103, li104, li105, li108, li109, li110, li111, li112, li114, li115, li116, li117, li119, li120, li124, li126, li132, li139, li140, li148, li156, li1000, li1092, li1248, cl_ra_S, fX11_ranksAgree_L2b, h5]
    | succ d ih =>
      intro f i τ h1 h2 hf
      obtain ⟨f, rfl⟩ : ∃ q, f = q + 1 := ⟨f - 1, by omega⟩
      have h5 : τ (0 + 1) 5 = nI W.length := by rw [hf _ (by omega) (by omega)]; exact hn.2.1
      have hnτ : NRW τ (0 + 1) A.1 A.2 W := hn.congr (by rw [hf _ (by omega) (by omega)]) (fun c a b => hf _ (by omega) (by omega)) fun w hw => rfl
      obtain ⟨q, υ, q1, q2, q3, q4⟩ := cl_slotAtRank (m := m) hF hnτ hI hB (show i < W.length by omega)
      have hnυ : NRW υ (0 + 1) A.1 A.2 W := hnτ.congr (by rw [q4 _ (by omega) (by omega)]) (fun c a b => q4 _ (by omega) (by omega)) fun w hw => rfl
      have e1 := cl_countBefore (m := m) hnυ hI hB hF (show q < 15 by omega) (hnυ.2.2.1 q q1) (hnυ.bd hI hB q1)
      rw [q3] at e1
      obtain ⟨υ2, u1, u2'⟩ := ih f (i + 1) υ (by omega) (by omega) (fun c a b => by rw [q4 c a b, hf c a b])
      refine ⟨υ2, ?_, u2'⟩
      simp (disch := omega) only [pu_OB, pu_LET, pu_OX0, pu_BND, pu_NZ, pu_BL, pu_m1, nI_add, pk_sub, pk_mul, pk_div, nI_clamp, pu_eq, pu_ne, pu_le_t, pu_le_f, pu_lt_t, pu_lt_f, pu_nm, pu_mm, pu_u2e, pu_u2n, ↓reduceIte, li0, li1, li2, li3, li4, li5, li6, li7, li8, li9, li10, li11, li12, li13, li14, li15, li16, li17, li18, li19, li20, li21, li22, li23, li24, li25, li26, li27, li28, li29, li30, li31, li32, li33, li34, li35, li36, li37, li38, li39, li40, li41, li42, li43, li44, li45, li46, li47, li48, li49, li50, li51, li52, li53, li54, li55, li56, li57, li58, li59, li60, li64, li72, li87, li97, li98, li99, li100, li101, li102, li103, li104, li105, li108, li109, li110, li111, li112, li114, li115, li116, li117, li119, li120, li124, li126, li132, li139, li140, li148, li156, li1000, li1092, li1248, cl_ra_S, fX11_ranksAgree_L2b, h5, q2, e1]
      exact u1
  exact key W.length m 0 σ (by omega) (by omega) fun c a b => rfl
theorem cl_fa_S (r : Nat) (x1 : Int32) (σ : St) : fX11_flourAgrees_L2 m (r + 1) x1 σ = fX11_flourAgrees_L2b m (fX11_flourAgrees_L2 m r) x1 σ := rfl
theorem cl_flourAgrees {A : AM} {T' N' : Nat} (hF : 2000 ≤ m) (hC : CR σ 0 A) (hs : IS A.1 0 T' N') : fX11_flourAgrees m σ = some (nI 1, σ) := by
  have key : ∀ d f i, i + d = 4 → d < f → fX11_flourAgrees_L2 m f (nI i) σ = some (nI 1, σ) := by
    intro d
    induction d with
    | zero =>
      intro f i h1 h2
      obtain ⟨f, rfl⟩ : ∃ q, f = q + 1 := ⟨f - 1, by omega⟩
      simp (disch := omega) only [pu_OB, pu_LET, pu_OX0, pu_BND, pu_NZ, pu_BL, pu_m1, nI_add, pk_sub, pk_mul, pk_div, nI_clamp, pu_eq, pu_ne, pu_le_t, pu_le_f, pu_lt_t, pu_lt_f, pu_nm, pu_mm, pu_u2e, pu_u2n, ↓reduceIte, li0, li1, li2, li3, li4, li5, li6, li7, li8, li9, li10, li11, li12, li13, li14, li15, li16, li17, li18, li19, li20, li21, li22, li23, li24, li25, li26, li27, li28, li29, li30, li31, li32, li33, li34, li35, li36, li37, li38, li39, li40, li41, li42, li43, li44, li45, li46, li47, li48, li49, li50, li51, li52, li53, li54, li55, li56, li57, li58, li59, li60, li64, li72, li87, li97, li98, li99, li100, li101, li102, li103, li104, li105, li108, li109, li110, li111, li112, li114, li115, li116, li117, li119, li120, li124, li126, li132, li139, li140, li148, li156, li1000, li1092, li1248, cl_fa_S, fX11_flourAgrees_L2b]
    | succ d ih =>
      intro f i h1 h2
      obtain ⟨f, rfl⟩ : ∃ q, f = q + 1 := ⟨f - 1, by omega⟩
      have e1 := cl_rls (m := m) hF hC hs (show i < 4 by omega)
      have e2 := hC.1.flour (show i < 4 by omega)
      simp (disch := omega) only [pu_OB, pu_LET, pu_OX0, pu_BND, pu_NZ, pu_BL, pu_m1, nI_add, pk_sub, pk_mul, pk_div, nI_clamp, pu_eq, pu_ne, pu_le_t, pu_le_f, pu_lt_t, pu_lt_f, pu_nm, pu_mm, pu_u2e, pu_u2n, ↓reduceIte, li0, li1, li2, li3, li4, li5, li6, li7, li8, li9, li10, li11, li12, li13, li14, li15, li16, li17, li18, li19, li20, li21, li22, li23, li24, li25, li26, li27, li28, li29, li30, li31, li32, li33, li34, li35, li36, li37, li38, li39, li40, li41, li42, li43, li44, li45, li46, li47, li48, li49, li50, li51, li52, li53, li54, li55, li56, li57, li58, li59, li60, li64, li72, li87, li97, li98, li99, li100, li101, li102, li103, li104, li105, li108, li109, li110, li111, li112, li114, li115, li116, li117, li119, li120, li124, li126, li132, li139, li140, li148, li156, li1000, li1092, li1248, cl_fa_S, fX11_flourAgrees_L2b, e1, e2, ih f (i + 1)]
  exact key 4 m 0 (by omega) (by omega)
theorem cl_pa_S (r : Nat) (x1 : Int32) (σ : St) : fX11_predictionsAgree_L2 m (r + 1) x1 σ = fX11_predictionsAgree_L2b m (fX11_predictionsAgree_L2 m r) x1 σ := rfl
theorem cl_predAgree {A : AM} {T' N : Nat} (hF : 2000 ≤ m) (hC : CR σ 0 A) (hI : IN A.1 A.2) (hs : IS A.1 0 T' N) (hT : T' + 60 < 10 ^ 7) (hNN : N < 10 ^ 7) : ∃ τ, fX11_predictionsAgree m σ = some (nI 1, τ) ∧ ∀ c, c < 19 ∨ 19 + 19 ≤ c → τ c = σ c := by
  have key : ∀ d f i (τ : St), i + d = 3 → d < f → (∀ c, c < 19 ∨ 19 + 19 ≤ c → τ c = σ c) → ∃ υ, fX11_predictionsAgree_L2 m f (nI i) τ = some (nI 1, υ) ∧ ∀ c, c < 19 ∨ 19 + 19 ≤ c → υ c = σ c := by
    intro d
    induction d with
    | zero =>
      intro f i τ h1 h2 hf
      obtain ⟨f, rfl⟩ : ∃ q, f = q + 1 := ⟨f - 1, by omega⟩
      refine ⟨τ, ?_, hf⟩
      simp (disch := omega) only [pu_OB, pu_LET, pu_OX0, pu_BND, pu_NZ, pu_BL, pu_m1, nI_add, pk_sub, pk_mul, pk_div, nI_clamp, pu_eq, pu_ne, pu_le_t, pu_le_f, pu_lt_t, pu_lt_f, pu_nm, pu_mm, pu_u2e, pu_u2n, ↓reduceIte, li0, li1, li2, li3, li4, li5, li6, li7, li8, li9, li10, li11, li12, li13, li14, li15, li16, li17, li18, li19, li20, li21, li22, li23, li24, li25, li26, li27, li28, li29, li30, li31, li32, li33, li34, li35, li36, li37, li38, li39, li40, li41, li42, li43, li44, li45, li46, li47, li48, li49, li50, li51, li52, li53, li54, li55, li56, li57, li58, li59, li60, li64, li72, li87, li97, li98, li99, li100, li101, li102, li103, li104, li105, li108, li109, li110, li111, li112, li114, li115, li116, li117, li119, li120, li124, li126, li132, li139, li140, li148, li156, li1000, li1092, li1248, cl_pa_S, fX11_predictionsAgree_L2b]
    | succ d ih =>
      intro f i τ h1 h2 hf
      obtain ⟨f, rfl⟩ : ∃ q, f = q + 1 := ⟨f - 1, by omega⟩
      have hCτ : CR τ 0 A := hC.of fun c hc => hf _ (by omega)
      obtain ⟨x, υ, a1, a2, a3⟩ := cl_simDone (m := m) hF hCτ hI hs hT hNN (show i < 3 by omega)
      have hCυ : CR υ 0 A := hCτ.of fun c hc => a3 _ (by omega)
      obtain ⟨y, b1, b2⟩ := cl_byRate hCυ hI hs (show i < 3 by omega)
      obtain rfl := pdI_u hI a2 b2
      obtain ⟨υ2, u1, u2'⟩ := ih f (i + 1) υ (by omega) (by omega) (fun c hc => by rw [a3 c hc, hf c hc])
      refine ⟨υ2, ?_, u2'⟩
      rw [cl_pa_S]
      unfold fX11_predictionsAgree_L2b
      simp (disch := omega) only [pu_OB, pu_LET, pu_OX0, pu_BND, pu_NZ, pu_BL, pu_m1, nI_add, pk_sub, pk_mul, pk_div, nI_clamp, pu_eq, pu_ne, pu_le_t, pu_le_f, pu_lt_t, pu_lt_f, pu_nm, pu_mm, pu_u2e, pu_u2n, ↓reduceIte, li0, li1, li2, li3, li4, li5, li6, li7, li8, li9, li10, li11, li12, li13, li14, li15, li16, li17, li18, li19, li20, li21, li22, li23, li24, li25, li26, li27, li28, li29, li30, li31, li32, li33, li34, li35, li36, li37, li38, li39, li40, li41, li42, li43, li44, li45, li46, li47, li48, li49, li50, li51, li52, li53, li54, li55, li56, li57, li58, li59, li60, li64, li72, li87, li97, li98, li99, li100, li101, li102, li103, li104, li105, li108, li109, li110, li111, li112, li114, li115, li116, li117, li119, li120, li124, li126, li132, li139, li140, li148, li156, li1000, li1092, li1248, a1, b1]
      exact u1
  exact key 3 m 0 σ (by omega) (by omega) fun c hc => rfl
theorem ca_isConsistent (hF : 2000 ≤ m) (hC : C < 512) (h : GG σ s C T) : CASI (fX11_isConsistent m σ) (fX12_isConsistent s) C T := by
  have h0 := h
  obtain ⟨A, H, S, B, er, fl, g1, g2, g3, g4, g5, g6, g7, g8, g9⟩ := h0
  have hB := g5.B (by omega)
  have e1 := cl_ral (m := m) hF g1 g5.2
  have e2 := g1.1.ground
  have e3 := cl_flourAgrees (m := m) hF g1 g5.2
  obtain ⟨t, t1, t2⟩ := cl_predAgree (m := m) hF g1 g5.1 g5.2 (by omega) (by omega)
  have hC1 : CR t 0 A := g1.of fun c hc => t2 _ (by omega)
  obtain ⟨-, W, hn⟩ := hC1
  obtain ⟨u, u1, u2'⟩ := cl_ranksAgree (m := m) hF hn g5.1 hB
  have hG := h.trial (τ := u) fun c hc => by rw [u2' c (by omega) (by omega), t2 c (by omega)]
  refine ⟨nI 1, u, _, ?_, ?_, hG.th (k := nI 0)⟩
  · unfold fX11_isConsistent
    simp (disch := omega) only [pu_OB, pu_LET, pu_OX0, pu_BND, pu_NZ, pu_BL, pu_m1, nI_add, pk_sub, pk_mul, pk_div, nI_clamp, pu_eq, pu_ne, pu_le_t, pu_le_f, pu_lt_t, pu_lt_f, pu_nm, pu_mm, pu_u2e, pu_u2n, ↓reduceIte, li0, li1, li2, li3, li4, li5, li6, li7, li8, li9, li10, li11, li12, li13, li14, li15, li16, li17, li18, li19, li20, li21, li22, li23, li24, li25, li26, li27, li28, li29, li30, li31, li32, li33, li34, li35, li36, li37, li38, li39, li40, li41, li42, li43, li44, li45, li46, li47, li48, li49, li50, li51, li52, li53, li54, li55, li56, li57, li58, li59, li60, li64, li72, li87, li97, li98, li99, li100, li101, li102, li103, li104, li105, li108, li109, li110, li111, li112, li114, li115, li116, li117, li119, li120, li124, li126, li132, li139, li140, li148, li156, li1000, li1092, li1248, e1, e2, e3, t1, u1]
  · unfold fX12_isConsistent
    simp (disch := omega) only [pu_OB, pu_LET, pu_OX0, pu_BND, pu_NZ, pu_BL, pu_m1, nI_add, pk_sub, pk_mul, pk_div, nI_clamp, pu_eq, pu_ne, pu_le_t, pu_le_f, pu_lt_t, pu_lt_f, pu_nm, pu_mm, pu_u2e, pu_u2n, ↓reduceIte, li0, li1, li2, li3, li4, li5, li6, li7, li8, li9, li10, li11, li12, li13, li14, li15, li16, li17, li18, li19, li20, li21, li22, li23, li24, li25, li26, li27, li28, li29, li30, li31, li32, li33, li34, li35, li36, li37, li38, li39, li40, li41, li42, li43, li44, li45, li46, li47, li48, li49, li50, li51, li52, li53, li54, li55, li56, li57, li58, li59, li60, li64, li72, li87, li97, li98, li99, li100, li101, li102, li103, li104, li105, li108, li109, li110, li111, li112, li114, li115, li116, li117, li119, li120, li124, li126, li132, li139, li140, li148, li156, li1000, li1092, li1248]
-- undo, snapshot
theorem ca_save (hF : 2000 ≤ m) (hC : C < 512) (h : GG σ s C T) : CASI (fX11_save m σ) (fX12_save m s) C T := by
  obtain ⟨A, H, S, B, er, fl, g1, g2, g3, g4, g5, g6, g7, g8, g9⟩ := h
  have hB := g5.B (by omega)
  obtain ⟨t, t1, t2, t3⟩ := cl_copy (k := 38) hF g1 g5.1 g5.2 (by omega)
  have hC1 : CR (u2 t 209 3 (nI 1)) 0 A := g1.of fun c hc => by rw [pu_u2r (by omega), t3 _ (by omega)]
  have hC2 : CR (u2 t 209 3 (nI 1)) 38 A := t2.of fun c hc => pu_u2r (by omega)
  have hCW := hC1
  obtain ⟨-, W, hn⟩ := hCW
  have e5 := hn.2.1
  rw [hn.len, pu_u2n (by omega)] at e5
  have ec1 := rf_copy (m := m) (s := s) (p := 1) (pn := 156) (q := 5) (qn := 156) (a := 0) (b := 0) hF (by omega) (by omega) (by omega) (by omega) (by omega)
  have hS' : SM (u2 (cpS s 1 0 5 0 0) 0 6 (nI 1)) 1 A.1 := g3.1.other (by rw [pu_u2r (by omega), cpS_row (by omega)])
  have hN' : NM (u2 (cpS s 1 0 5 0 0) 0 6 (nI 1)) 1 A.2 := g3.2.other (by rw [pu_u2r (by omega), cpS_row (by omega)])
  have ew := rf_waiting hF hS' hN' g5.1 hB
  refine ⟨nI (A.2.countP (wt A.1)), u2 t 209 3 (nI 1), u2 (u2 (cpS s 1 0 5 0 0) 0 6 (nI 1)) 0 13 (nI 0), ?_, ?_, A, H, some A, B, er, fl, hC1, ?_, ⟨hS'.other (pu_u2r (by omega)), hN'.other (pu_u2r (by omega))⟩, ?_, g5.mono (by omega), fun i hi => (g6 i hi).mono (by omega), fun X hX => by cases hX; exact g5.mono (by omega), g8, g9⟩
  · unfold fX11_save
    simp (disch := omega) only [pu_OB, pu_LET, pu_OX0, pu_BND, pu_NZ, pu_BL, pu_m1, nI_add, pk_sub, pk_mul, pk_div, nI_clamp, pu_eq, pu_ne, pu_le_t, pu_le_f, pu_lt_t, pu_lt_f, pu_nm, pu_mm, pu_u2e, pu_u2n, ↓reduceIte, li0, li1, li2, li3, li4, li5, li6, li7, li8, li9, li10, li11, li12, li13, li14, li15, li16, li17, li18, li19, li20, li21, li22, li23, li24, li25, li26, li27, li28, li29, li30, li31, li32, li33, li34, li35, li36, li37, li38, li39, li40, li41, li42, li43, li44, li45, li46, li47, li48, li49, li50, li51, li52, li53, li54, li55, li56, li57, li58, li59, li60, li64, li72, li87, li97, li98, li99, li100, li101, li102, li103, li104, li105, li108, li109, li110, li111, li112, li114, li115, li116, li117, li119, li120, li124, li126, li132, li139, li140, li148, li156, li1000, li1092, li1248, t1, e5]
  · unfold fX12_save
    simp (disch := omega) only [pu_OB, pu_LET, pu_OX0, pu_BND, pu_NZ, pu_BL, pu_m1, nI_add, pk_sub, pk_mul, pk_div, nI_clamp, pu_eq, pu_ne, pu_le_t, pu_le_f, pu_lt_t, pu_lt_f, pu_nm, pu_mm, pu_u2e, pu_u2n, ↓reduceIte, li0, li1, li2, li3, li4, li5, li6, li7, li8, li9, li10, li11, li12, li13, li14, li15, li16, li17, li18, li19, li20, li21, li22, li23, li24, li25, li26, li27, li28, li29, li30, li31, li32, li33, li34, li35, li36, li37, li38, li39, li40, li41, li42, li43, li44, li45, li46, li47, li48, li49, li50, li51, li52, li53, li54, li55, li56, li57, li58, li59, li60, li64, li72, li87, li97, li98, li99, li100, li101, li102, li103, li104, li105, li108, li109, li110, li111, li112, li114, li115, li116, li117, li119, li120, li124, li126, li132, li139, li140, li148, li156, li1000, li1092, li1248, ec1, ew, rf_done]
  · obtain ⟨⟨a1, a2⟩, ⟨nx, b1, b2, b3, b4, b5⟩, ⟨c1, c2, c3⟩, d1, d2⟩ := g2
    exact ⟨⟨pu_u2e ⟨rfl, rfl⟩, fun X hX => by cases hX; exact hC2⟩, ⟨nx, b1, by rw [pu_u2r (by omega), t3 _ (by omega)]; exact b2, by rw [pu_u2r (by omega), t3 _ (by omega)]; exact b3, b4, fun i hi => (b5 i hi).of fun c hc => by rw [pu_u2r (by omega), t3 _ (by omega)]⟩, ⟨by rw [pu_u2r (by omega), t3 _ (by omega)]; exact c1, c2, fun j hj => by rw [pu_u2r (by omega), t3 _ (by omega)]; exact c3 j hj⟩, by rw [pu_u2n (by omega), t3 _ (by omega)]; exact d1, by rw [pu_u2n (by omega), t3 _ (by omega)]; exact d2⟩
  · have he : ∀ j, j < 156 → (u2 (u2 (cpS s 1 0 5 0 0) 0 6 (nI 1)) 0 13 (nI 0)) 5 j = s 1 j := fun j hj => by
      rw [pu_u2n (by omega), pu_u2n (by omega)]
      have := cpS_in (s := s) (p := 1) (a := 0) (q := 5) (b := 0) hj
      rw [Nat.zero_add] at this
      exact this
    obtain ⟨⟨a1, a2⟩, ⟨b1, b2, b3⟩, ⟨c1, c2, c3⟩, d1, d2, d3, d4, d5⟩ := g4
    refine ⟨⟨by rw [pu_u2n (by omega), pu_u2e ⟨rfl, rfl⟩]; rfl, fun X hX => by cases hX; exact ⟨g3.1.ext he, g3.2.ext g5.1.len he⟩⟩, ⟨by rw [pu_u2n (by omega), pu_u2n (by omega), cpS_out (by omega)]; exact b1, b2, ?_⟩, ⟨by rw [pu_u2n (by omega), pu_u2n (by omega), cpS_out (by omega)]; exact c1, c2, fun j hj => by rw [pu_u2r (by omega), pu_u2r (by omega), cpS_row (by omega)]; exact c3 j hj⟩, by rw [pu_u2n (by omega), pu_u2n (by omega), cpS_out (by omega)]; exact d1, by rw [pu_u2n (by omega), pu_u2n (by omega), cpS_out (by omega)]; exact d2, by rw [pu_u2n (by omega), pu_u2n (by omega), cpS_out (by omega)]; exact d3, d4, fun j hj => by rw [pu_u2r (by omega), pu_u2r (by omega), cpS_row (by omega)]; exact d5 j hj⟩
    rw [pu_u2r (by omega), pu_u2r (by omega), cpS_row (by omega)]
    exact b3
theorem ca_restore (hF : 2000 ≤ m) (hC : C < 512) (h : GG σ s C T) : CASE (fX11_restore m σ) (fX12_restore m s) [4] C T := by
  have h0 := h
  obtain ⟨A, H, S, B, er, fl, g1, g2, g3, g4, g5, g6, g7, g8, g9⟩ := h0
  cases S with
  | none =>
    have e1 : σ 209 3 = nI 0 := g2.1.1
    have e2 : s 0 6 = nI 0 := g4.1.1
    refine q_x (c := 4) (k := 1) (r := 0) (r' := nI 0) h ?_ ?_ (by decide) (by omega) (by decide +kernel)
    · unfold fX11_restore
      rw [e1]
      exact if_pos rfl
    · unfold fX12_restore
      simp (disch := omega) only [pu_OB, pu_LET, pu_OX0, pu_BND, pu_NZ, pu_BL, pu_m1, nI_add, pk_sub, pk_mul, pk_div, nI_clamp, pu_eq, pu_ne, pu_le_t, pu_le_f, pu_lt_t, pu_lt_f, pu_nm, pu_mm, pu_u2e, pu_u2n, ↓reduceIte, li0, li1, li2, li3, li4, li5, li6, li7, li8, li9, li10, li11, li12, li13, li14, li15, li16, li17, li18, li19, li20, li21, li22, li23, li24, li25, li26, li27, li28, li29, li30, li31, li32, li33, li34, li35, li36, li37, li38, li39, li40, li41, li42, li43, li44, li45, li46, li47, li48, li49, li50, li51, li52, li53, li54, li55, li56, li57, li58, li59, li60, li64, li72, li87, li97, li98, li99, li100, li101, li102, li103, li104, li105, li108, li109, li110, li111, li112, li114, li115, li116, li117, li119, li120, li124, li126, li132, li139, li140, li148, li156, li1000, li1092, li1248, e2, rf_fails]
  | some X =>
    have hVX := g7 X rfl
    have hB := hVX.B (by omega)
    have e1 : σ 209 3 = nI 1 := g2.1.1
    have e2 : s 0 6 = nI 1 := g4.1.1
    have hX38 := g2.1.2 X rfl
    have hX5 := g4.1.2 X rfl
    obtain ⟨t, t1, t2, t3⟩ := cl_copy (k := 0) hF hX38 hVX.1 hVX.2 (by omega)
    have hC1 : CR (u2 t 210 2 (nI 0)) 0 X := t2.of fun c hc => pu_u2r (by omega)
    have hCW := hC1
    obtain ⟨-, W, hn⟩ := hCW
    have e5 := hn.2.1
    rw [hn.len, pu_u2n (by omega)] at e5
    have ec1 := rf_copy (m := m) (s := s) (p := 5) (pn := 156) (q := 1) (qn := 156) (a := 0) (b := 0) hF (by omega) (by omega) (by omega) (by omega) (by omega)
    have he : ∀ j, j < 156 → (u2 (cpS s 5 0 1 0 0) 0 4 (nI 0)) 1 j = s 5 j := fun j hj => by
      rw [pu_u2n (by omega)]
      have := cpS_in (s := s) (p := 5) (a := 0) (q := 1) (b := 0) hj
      rw [Nat.zero_add] at this
      exact this
    have hS' := hX5.1.ext he
    have hN' := hX5.2.ext hVX.1.len he
    have ew := rf_waiting hF hS' hN' hVX.1 hB
    refine ⟨0, nI (X.2.countP (wt X.1)), u2 t 210 2 (nI 0), nI (X.2.countP (wt X.1)), u2 (u2 (cpS s 5 0 1 0 0) 0 4 (nI 0)) 0 13 (nI 0), ?_, ?_, Or.inl rfl, ?_, fun _ => rfl, X, [], some X, B, er, fl, hC1, ?_, ⟨hS'.other (pu_u2r (by omega)), hN'.other (pu_u2r (by omega))⟩, ?_, hVX.mono (by omega), fun i hi => absurd hi (Nat.not_lt_zero _), fun Y hY => (g7 Y hY).mono (by omega), g8, g9⟩
    · unfold fX11_restore fX3_forget
      simp (disch := omega) only [pu_OB, pu_LET, pu_OX0, pu_BND, pu_NZ, pu_BL, pu_m1, nI_add, pk_sub, pk_mul, pk_div, nI_clamp, pu_eq, pu_ne, pu_le_t, pu_le_f, pu_lt_t, pu_lt_f, pu_nm, pu_mm, pu_u2e, pu_u2n, ↓reduceIte, li0, li1, li2, li3, li4, li5, li6, li7, li8, li9, li10, li11, li12, li13, li14, li15, li16, li17, li18, li19, li20, li21, li22, li23, li24, li25, li26, li27, li28, li29, li30, li31, li32, li33, li34, li35, li36, li37, li38, li39, li40, li41, li42, li43, li44, li45, li46, li47, li48, li49, li50, li51, li52, li53, li54, li55, li56, li57, li58, li59, li60, li64, li72, li87, li97, li98, li99, li100, li101, li102, li103, li104, li105, li108, li109, li110, li111, li112, li114, li115, li116, li117, li119, li120, li124, li126, li132, li139, li140, li148, li156, li1000, li1092, li1248, e1, t1, e5]
    · unfold fX12_restore
      simp (disch := omega) only [pu_OB, pu_LET, pu_OX0, pu_BND, pu_NZ, pu_BL, pu_m1, nI_add, pk_sub, pk_mul, pk_div, nI_clamp, pu_eq, pu_ne, pu_le_t, pu_le_f, pu_lt_t, pu_lt_f, pu_nm, pu_mm, pu_u2e, pu_u2n, ↓reduceIte, li0, li1, li2, li3, li4, li5, li6, li7, li8, li9, li10, li11, li12, li13, li14, li15, li16, li17, li18, li19, li20, li21, li22, li23, li24, li25, li26, li27, li28, li29, li30, li31, li32, li33, li34, li35, li36, li37, li38, li39, li40, li41, li42, li43, li44, li45, li46, li47, li48, li49, li50, li51, li52, li53, li54, li55, li56, li57, li58, li59, li60, li64, li72, li87, li97, li98, li99, li100, li101, li102, li103, li104, li105, li108, li109, li110, li111, li112, li114, li115, li116, li117, li119, li120, li124, li126, li132, li139, li140, li148, li156, li1000, li1092, li1248, e2, ec1, ew, rf_done]
    · rw [pu_u2e ⟨rfl, rfl⟩]
      decide +kernel
    · obtain ⟨⟨a1, a2⟩, ⟨nx, b1, b2, b3, b4, b5⟩, ⟨c1, c2, c3⟩, d1, d2⟩ := g2
      exact ⟨⟨by rw [pu_u2r (by omega), t3 _ (by omega)]; exact a1, fun Y hY => (a2 Y hY).of fun c hc => by rw [pu_u2r (by omega), t3 _ (by omega)]⟩, ⟨nx, b1, by rw [pu_u2n (by omega), t3 _ (by omega)]; exact b2, pu_u2e ⟨rfl, rfl⟩, Nat.zero_le _, fun i hi => absurd hi (Nat.not_lt_zero _)⟩, ⟨by rw [pu_u2r (by omega), t3 _ (by omega)]; exact c1, c2, fun j hj => by rw [pu_u2r (by omega), t3 _ (by omega)]; exact c3 j hj⟩, by rw [pu_u2r (by omega), t3 _ (by omega)]; exact d1, by rw [pu_u2r (by omega), t3 _ (by omega)]; exact d2⟩
    · obtain ⟨⟨a1, a2⟩, ⟨b1, b2, b3⟩, ⟨c1, c2, c3⟩, d1, d2, d3, d4, d5⟩ := g4
      exact ⟨⟨by rw [pu_u2n (by omega), pu_u2n (by omega), cpS_out (by omega)]; exact a1, fun Y hY => ⟨(a2 Y hY).1.other (by rw [pu_u2r (by omega), pu_u2r (by omega), cpS_row (by omega)]), (a2 Y hY).2.other (by rw [pu_u2r (by omega), pu_u2r (by omega), cpS_row (by omega)])⟩⟩, ⟨by rw [pu_u2n (by omega), pu_u2e ⟨rfl, rfl⟩]; rfl, Nat.zero_le _, fun i hi => absurd hi (Nat.not_lt_zero _)⟩, ⟨by rw [pu_u2n (by omega), pu_u2n (by omega), cpS_out (by omega)]; exact c1, c2, fun j hj => by rw [pu_u2r (by omega), pu_u2r (by omega), cpS_row (by omega)]; exact c3 j hj⟩, by rw [pu_u2n (by omega), pu_u2n (by omega), cpS_out (by omega)]; exact d1, by rw [pu_u2n (by omega), pu_u2n (by omega), cpS_out (by omega)]; exact d2, by rw [pu_u2n (by omega), pu_u2n (by omega), cpS_out (by omega)]; exact d3, d4, fun j hj => by rw [pu_u2r (by omega), pu_u2r (by omega), cpS_row (by omega)]; exact d5 j hj⟩
theorem ca_undo (hF : 2000 ≤ m) (hC : C < 512) (h : GG σ s C T) : CASE (fX11_undo m σ) (fX12_undo m s) [4] C T := by
  have h0 := h
  obtain ⟨A, H, S, B, er, fl, g1, g2, g3, g4, g5, g6, g7, g8, g9⟩ := h0
  have e2 := g4.2.1.1
  have hl8 := g4.2.1.2.1
  obtain ⟨nx, b1, b2, b3, b4, b5⟩ := g2.2.1
  by_cases c : H.length = 0
  · rw [c] at e2 b3
    refine q_x (c := 4) (k := 1) (r := 0) (r' := nI 0) h ?_ ?_ (by decide) (by omega) (by decide +kernel)
    · unfold fX11_undo
      rw [b3]
      exact if_neg (by decide +kernel)
    · unfold fX12_undo
      simp (disch := omega) only [pu_OB, pu_LET, pu_OX0, pu_BND, pu_NZ, pu_BL, pu_m1, nI_add, pk_sub, pk_mul, pk_div, nI_clamp, pu_eq, pu_ne, pu_le_t, pu_le_f, pu_lt_t, pu_lt_f, pu_nm, pu_mm, pu_u2e, pu_u2n, ↓reduceIte, li0, li1, li2, li3, li4, li5, li6, li7, li8, li9, li10, li11, li12, li13, li14, li15, li16, li17, li18, li19, li20, li21, li22, li23, li24, li25, li26, li27, li28, li29, li30, li31, li32, li33, li34, li35, li36, li37, li38, li39, li40, li41, li42, li43, li44, li45, li46, li47, li48, li49, li50, li51, li52, li53, li54, li55, li56, li57, li58, li59, li60, li64, li72, li87, li97, li98, li99, li100, li101, li102, li103, li104, li105, li108, li109, li110, li111, li112, li114, li115, li116, li117, li119, li120, li124, li126, li132, li139, li140, li148, li156, li1000, li1092, li1248, e2, rf_fails]
  · have hVX := g6 (H.length - 1) (by omega)
    obtain ⟨t, t1, t2, t3, t4⟩ := cl_pop hF g2 (by omega) hVX
    have ec1 := rf_copy (m := m) (s := u2 s 0 4 (nI (H.length - 1))) (p := 4) (pn := 1248) (q := 1) (qn := 156) (a := (H.length - 1) * 156) (b := 0) hF (by omega) (by omega) (by omega) (by omega) (by omega)
    have hrow := g4.2.1.2.2 (H.length - 1) (by omega)
    have he : ∀ j, j < 156 → (cpS (u2 s 0 4 (nI (H.length - 1))) 4 ((H.length - 1) * 156) 1 0 0) 1 j = s 4 (156 * (H.length - 1) + j) := fun j hj => by
      have := cpS_in (s := u2 s 0 4 (nI (H.length - 1))) (p := 4) (a := (H.length - 1) * 156) (q := 1) (b := 0) hj
      rw [Nat.zero_add] at this
      rw [this, pu_u2n (by omega), Nat.mul_comm]
    have hS' := hrow.1.ext he
    have hN' := hrow.2.ext hVX.1.len he
    have e9 : cpS (u2 s 0 4 (nI (H.length - 1))) 4 ((H.length - 1) * 156) 1 0 0 0 4 = nI (H.length - 1) := by rw [cpS_out (by omega), pu_u2e ⟨rfl, rfl⟩]
    have hdl : H.dropLast.length = H.length - 1 := List.length_dropLast
    have hget : ∀ i, i < H.length - 1 → H.dropLast.getD i A0 = H.getD i A0 := fun i hi => by
      rw [List.getD_eq_getElem?_getD, List.getElem?_dropLast, if_pos hi, List.getD_eq_getElem?_getD]
    refine ⟨0, nI (H.length - 1), t, nI (H.length - 1), u2 (cpS (u2 s 0 4 (nI (H.length - 1))) 4 ((H.length - 1) * 156) 1 0 0) 0 13 (nI 0), ?_, ?_, Or.inl rfl, ?_, fun _ => rfl, H.getD (H.length - 1) A0, H.dropLast, S, B, er, fl, t2, t3, ⟨hS'.other (pu_u2r (by omega)), hN'.other (pu_u2r (by omega))⟩, ?_, hVX.mono (by omega), fun i hi => by rw [hget i (by omega)]; exact (g6 i (by omega)).mono (by omega), fun Y hY => (g7 Y hY).mono (by omega), g8, g9⟩
    · unfold fX11_undo
      simp (disch := omega) only [pu_OB, pu_LET, pu_OX0, pu_BND, pu_NZ, pu_BL, pu_m1, nI_add, pk_sub, pk_mul, pk_div, nI_clamp, pu_eq, pu_ne, pu_le_t, pu_le_f, pu_lt_t, pu_lt_f, pu_nm, pu_mm, pu_u2e, pu_u2n, ↓reduceIte, li0, li1, li2, li3, li4, li5, li6, li7, li8, li9, li10, li11, li12, li13, li14, li15, li16, li17, li18, li19, li20, li21, li22, li23, li24, li25, li26, li27, li28, li29, li30, li31, li32, li33, li34, li35, li36, li37, li38, li39, li40, li41, li42, li43, li44, li45, li46, li47, li48, li49, li50, li51, li52, li53, li54, li55, li56, li57, li58, li59, li60, li64, li72, li87, li97, li98, li99, li100, li101, li102, li103, li104, li105, li108, li109, li110, li111, li112, li114, li115, li116, li117, li119, li120, li124, li126, li132, li139, li140, li148, li156, li1000, li1092, li1248, b3, t1, t4]
    · unfold fX12_undo
      simp (disch := omega) only [pu_OB, pu_LET, pu_OX0, pu_BND, pu_NZ, pu_BL, pu_m1, nI_add, pk_sub, pk_mul, pk_div, nI_clamp, pu_eq, pu_ne, pu_le_t, pu_le_f, pu_lt_t, pu_lt_f, pu_nm, pu_mm, pu_u2e, pu_u2n, ↓reduceIte, li0, li1, li2, li3, li4, li5, li6, li7, li8, li9, li10, li11, li12, li13, li14, li15, li16, li17, li18, li19, li20, li21, li22, li23, li24, li25, li26, li27, li28, li29, li30, li31, li32, li33, li34, li35, li36, li37, li38, li39, li40, li41, li42, li43, li44, li45, li46, li47, li48, li49, li50, li51, li52, li53, li54, li55, li56, li57, li58, li59, li60, li64, li72, li87, li97, li98, li99, li100, li101, li102, li103, li104, li105, li108, li109, li110, li111, li112, li114, li115, li116, li117, li119, li120, li124, li126, li132, li139, li140, li148, li156, li1000, li1092, li1248, e2, ec1, e9, rf_done]
    · rw [pu_u2e ⟨rfl, rfl⟩]
      decide +kernel
    · obtain ⟨⟨a1, a2⟩, ⟨b1, b2, b3⟩, ⟨c1, c2, c3⟩, d1, d2, d3, d4, d5⟩ := g4
      refine ⟨⟨by rw [pu_u2n (by omega), cpS_out (by omega), pu_u2n (by omega)]; exact a1, fun Y hY => ⟨(a2 Y hY).1.other (by rw [pu_u2r (by omega), cpS_row (by omega), pu_u2r (by omega)]), (a2 Y hY).2.other (by rw [pu_u2r (by omega), cpS_row (by omega), pu_u2r (by omega)])⟩⟩, ⟨by rw [pu_u2n (by omega), e9, hdl], by omega, fun i hi => ?_⟩, ⟨by rw [pu_u2n (by omega), cpS_out (by omega), pu_u2n (by omega)]; exact c1, c2, fun j hj => by rw [pu_u2r (by omega), cpS_row (by omega), pu_u2r (by omega)]; exact c3 j hj⟩, by rw [pu_u2n (by omega), cpS_out (by omega), pu_u2n (by omega)]; exact d1, by rw [pu_u2n (by omega), cpS_out (by omega), pu_u2n (by omega)]; exact d2, by rw [pu_u2n (by omega), cpS_out (by omega), pu_u2n (by omega)]; exact d3, d4, fun j hj => by rw [pu_u2r (by omega), cpS_row (by omega), pu_u2r (by omega)]; exact d5 j hj⟩
      rw [hget i (by omega), pu_u2r (by omega), cpS_row (by omega), pu_u2r (by omega)]
      exact b3 i (by omega)
-- the buffer
theorem ca_errorPosition (h : GG σ s C T) : CASE (fX11_errorPosition σ) (fX12_errorPosition s) [3] C T := by
  have h0 := h
  obtain ⟨A, H, S, B, er, fl, g1, g2, g3, g4, g5, g6, g7, g8, g9⟩ := h0
  have e1 : σ 209 8 = oI er := g2.2.2.2.1
  have e2 : s 0 9 = oI er := g4.2.2.2.1
  by_cases c : oI er = mI
  · rw [c] at e1 e2
    refine q_x (c := 3) (k := 1) (r := 0) (r' := nI 0) h ?_ ?_ (by decide) (by omega) (by decide +kernel)
    · unfold fX11_errorPosition
      rw [e1]
      exact if_pos rfl
    · unfold fX12_errorPosition
      simp (disch := omega) only [pu_OB, pu_LET, pu_OX0, pu_BND, pu_NZ, pu_BL, pu_m1, nI_add, pk_sub, pk_mul, pk_div, nI_clamp, pu_eq, pu_ne, pu_le_t, pu_le_f, pu_lt_t, pu_lt_f, pu_nm, pu_mm, pu_u2e, pu_u2n, ↓reduceIte, li0, li1, li2, li3, li4, li5, li6, li7, li8, li9, li10, li11, li12, li13, li14, li15, li16, li17, li18, li19, li20, li21, li22, li23, li24, li25, li26, li27, li28, li29, li30, li31, li32, li33, li34, li35, li36, li37, li38, li39, li40, li41, li42, li43, li44, li45, li46, li47, li48, li49, li50, li51, li52, li53, li54, li55, li56, li57, li58, li59, li60, li64, li72, li87, li97, li98, li99, li100, li101, li102, li103, li104, li105, li108, li109, li110, li111, li112, li114, li115, li116, li117, li119, li120, li124, li126, li132, li139, li140, li148, li156, li1000, li1092, li1248, e2, rf_fails]
  · refine q_ok (r := oI er) h ?_ ?_
    · unfold fX11_errorPosition
      rw [e1]
      exact if_neg c
    · unfold fX12_errorPosition
      rw [e2]
      exact if_neg c
theorem ca_failedCommand (h : GG σ s C T) : CASE (fX11_failedCommand σ) (fX12_failedCommand s) [3] C T := by
  have h0 := h
  obtain ⟨A, H, S, B, er, fl, g1, g2, g3, g4, g5, g6, g7, g8, g9⟩ := h0
  have e1 : σ 209 9 = oI fl := g2.2.2.2.2
  have e2 : s 0 10 = oI fl := g4.2.2.2.2.1
  by_cases c : oI fl = mI
  · rw [c] at e1 e2
    refine q_x (c := 3) (k := 1) (r := 0) (r' := nI 0) h ?_ ?_ (by decide) (by omega) (by decide +kernel)
    · unfold fX11_failedCommand
      rw [e1]
      exact if_pos rfl
    · unfold fX12_failedCommand
      simp (disch := omega) only [pu_OB, pu_LET, pu_OX0, pu_BND, pu_NZ, pu_BL, pu_m1, nI_add, pk_sub, pk_mul, pk_div, nI_clamp, pu_eq, pu_ne, pu_le_t, pu_le_f, pu_lt_t, pu_lt_f, pu_nm, pu_mm, pu_u2e, pu_u2n, ↓reduceIte, li0, li1, li2, li3, li4, li5, li6, li7, li8, li9, li10, li11, li12, li13, li14, li15, li16, li17, li18, li19, li20, li21, li22, li23, li24, li25, li26, li27, li28, li29, li30, li31, li32, li33, li34, li35, li36, li37, li38, li39, li40, li41, li42, li43, li44, li45, li46, li47, li48, li49, li50, li51, li52, li53, li54, li55, li56, li57, li58, li59, li60, li64, li72, li87, li97, li98, li99, li100, li101, li102, li103, li104, li105, li108, li109, li110, li111, li112, li114, li115, li116, li117, li119, li120, li124, li126, li132, li139, li140, li148, li156, li1000, li1092, li1248, e2, rf_fails]
  · refine q_ok (r := oI fl) h ?_ ?_
    · unfold fX11_failedCommand
      rw [e1]
      exact if_neg c
    · unfold fX12_failedCommand
      rw [e2]
      exact if_neg c
theorem nar_ch {b : Nat} (h : b < 65536) : vp_nar .char (nI b) = nI b := by
  have := (pk_charN h).1
  unfold vp_nar
  rw [this]
theorem ca_type (hC : C < 512) (h : GG σ s C T) (p : Int32) : CASE (fX11_type p σ) (fX12_type p s) [1, 4] C T := by
  have h0 := h
  obtain ⟨A, H, S, B, er, fl, g1, g2, g3, g4, g5, g6, g7, g8, g9⟩ := h0
  have hl := g4.2.2.1.2.1
  have e1 := g2.2.2.1.1
  have e2 := g4.2.2.1.1
  have bad : (p < 32 ∨ nI 127 ≤ p) → CASE (fX11_type p σ) (fX12_type p s) [1, 4] C T := fun hp => by
    refine q_x (c := 1) (k := 1) (r := 0) (r' := nI 0) h ?_ ?_ (by decide) (by omega) (by decide +kernel)
    · unfold fX11_type
      by_cases c : p < 32
      · rw [if_pos c]
      · rw [if_neg c, if_neg]
        intro h9
        have h8 := hp.resolve_left c
        rw [Int32.le_iff_toInt_le, nI_toInt (by omega)] at h8
        rw [Int32.le_iff_toInt_le, show (126 : Int32).toInt = 126 from rfl] at h9
        omega
    · have e : fX12_in p (nI 32) (nI 126) s = some (nI 0, s) := rf_in_bad (lo := 32) (hi := 126) hp (by omega)
      unfold fX12_type
      simp (disch := omega) only [pu_OB, pu_LET, pu_OX0, pu_BND, pu_NZ, pu_BL, pu_m1, nI_add, pk_sub, pk_mul, pk_div, nI_clamp, pu_eq, pu_ne, pu_le_t, pu_le_f, pu_lt_t, pu_lt_f, pu_nm, pu_mm, pu_u2e, pu_u2n, ↓reduceIte, li0, li1, li2, li3, li4, li5, li6, li7, li8, li9, li10, li11, li12, li13, li14, li15, li16, li17, li18, li19, li20, li21, li22, li23, li24, li25, li26, li27, li28, li29, li30, li31, li32, li33, li34, li35, li36, li37, li38, li39, li40, li41, li42, li43, li44, li45, li46, li47, li48, li49, li50, li51, li52, li53, li54, li55, li56, li57, li58, li59, li60, li64, li72, li87, li97, li98, li99, li100, li101, li102, li103, li104, li105, li108, li109, li110, li111, li112, li114, li115, li116, li117, li119, li120, li124, li126, li132, li139, li140, li148, li156, li1000, li1092, li1248, e, rf_fails]
  rcases rng0 p (n := 127) (by omega) with hp | ⟨b, hb9, rfl⟩
  · rcases hp with hp | hp
    · refine bad (Or.inl ?_)
      rw [Int32.lt_iff_toInt_lt] at hp ⊢
      rw [Int32.toInt_zero] at hp
      rw [show (32 : Int32).toInt = 32 from rfl]
      omega
    · exact bad (Or.inr hp)
  · by_cases c32 : b < 32
    · exact bad (Or.inl (nI_lt (b := 32) c32 (by omega)))
    · have hful : fX8_isFull σ = some (nI (if B.length < 60 then 0 else 1), σ) := by
        unfold fX8_isFull
        by_cases c : B.length < 60
        · simp (disch := omega) only [pu_OB, pu_LET, pu_OX0, pu_BND, pu_NZ, pu_BL, pu_m1, nI_add, pk_sub, pk_mul, pk_div, nI_clamp, pu_eq, pu_ne, pu_le_t, pu_le_f, pu_lt_t, pu_lt_f, pu_nm, pu_mm, pu_u2e, pu_u2n, ↓reduceIte, li0, li1, li2, li3, li4, li5, li6, li7, li8, li9, li10, li11, li12, li13, li14, li15, li16, li17, li18, li19, li20, li21, li22, li23, li24, li25, li26, li27, li28, li29, li30, li31, li32, li33, li34, li35, li36, li37, li38, li39, li40, li41, li42, li43, li44, li45, li46, li47, li48, li49, li50, li51, li52, li53, li54, li55, li56, li57, li58, li59, li60, li64, li72, li87, li97, li98, li99, li100, li101, li102, li103, li104, li105, li108, li109, li110, li111, li112, li114, li115, li116, li117, li119, li120, li124, li126, li132, li139, li140, li148, li156, li1000, li1092, li1248, e1, if_pos c]
        · simp (disch := omega) only [pu_OB, pu_LET, pu_OX0, pu_BND, pu_NZ, pu_BL, pu_m1, nI_add, pk_sub, pk_mul, pk_div, nI_clamp, pu_eq, pu_ne, pu_le_t, pu_le_f, pu_lt_t, pu_lt_f, pu_nm, pu_mm, pu_u2e, pu_u2n, ↓reduceIte, li0, li1, li2, li3, li4, li5, li6, li7, li8, li9, li10, li11, li12, li13, li14, li15, li16, li17, li18, li19, li20, li21, li22, li23, li24, li25, li26, li27, li28, li29, li30, li31, li32, li33, li34, li35, li36, li37, li38, li39, li40, li41, li42, li43, li44, li45, li46, li47, li48, li49, li50, li51, li52, li53, li54, li55, li56, li57, li58, li59, li60, li64, li72, li87, li97, li98, li99, li100, li101, li102, li103, li104, li105, li108, li109, li110, li111, li112, li114, li115, li116, li117, li119, li120, li124, li126, li132, li139, li140, li148, li156, li1000, li1092, li1248, e1, if_neg c]
      by_cases c : B.length < 60
      · rw [if_pos c] at hful
        have en := nar_ch (show b < 65536 by omega)
        have hbl : (B ++ [b]).length = B.length + 1 := by rw [List.length_append]; rfl
        refine ⟨0, nI (B.length + 1), u2 (u2 σ 215 B.length (nI b)) 214 1 (nI (B.length + 1)), nI (B.length + 1), u2 (u2 (u2 s 6 B.length (nI b)) 0 8 (nI (B.length + 1))) 0 13 (nI 0), ?_, ?_, Or.inl rfl, ?_, fun _ => rfl, A, H, S, B ++ [b], er, fl, ?_, ?_, ?_, ?_, g5.mono (by omega), fun i hi => (g6 i hi).mono (by omega), fun X hX => (g7 X hX).mono (by omega), fun x hx => ?_, g9⟩
        · unfold fX11_type fX8_append
          simp (disch := omega) only [pu_OB, pu_LET, pu_OX0, pu_BND, pu_NZ, pu_BL, pu_m1, nI_add, pk_sub, pk_mul, pk_div, nI_clamp, pu_eq, pu_ne, pu_le_t, pu_le_f, pu_lt_t, pu_lt_f, pu_nm, pu_mm, pu_u2e, pu_u2n, ↓reduceIte, li0, li1, li2, li3, li4, li5, li6, li7, li8, li9, li10, li11, li12, li13, li14, li15, li16, li17, li18, li19, li20, li21, li22, li23, li24, li25, li26, li27, li28, li29, li30, li31, li32, li33, li34, li35, li36, li37, li38, li39, li40, li41, li42, li43, li44, li45, li46, li47, li48, li49, li50, li51, li52, li53, li54, li55, li56, li57, li58, li59, li60, li64, li72, li87, li97, li98, li99, li100, li101, li102, li103, li104, li105, li108, li109, li110, li111, li112, li114, li115, li116, li117, li119, li120, li124, li126, li132, li139, li140, li148, li156, li1000, li1092, li1248, hful, e1, en]
        · unfold fX12_type
          simp (disch := omega) only [pu_OB, pu_LET, pu_OX0, pu_BND, pu_NZ, pu_BL, pu_m1, nI_add, pk_sub, pk_mul, pk_div, nI_clamp, pu_eq, pu_ne, pu_le_t, pu_le_f, pu_lt_t, pu_lt_f, pu_nm, pu_mm, pu_u2e, pu_u2n, ↓reduceIte, li0, li1, li2, li3, li4, li5, li6, li7, li8, li9, li10, li11, li12, li13, li14, li15, li16, li17, li18, li19, li20, li21, li22, li23, li24, li25, li26, li27, li28, li29, li30, li31, li32, li33, li34, li35, li36, li37, li38, li39, li40, li41, li42, li43, li44, li45, li46, li47, li48, li49, li50, li51, li52, li53, li54, li55, li56, li57, li58, li59, li60, li64, li72, li87, li97, li98, li99, li100, li101, li102, li103, li104, li105, li108, li109, li110, li111, li112, li114, li115, li116, li117, li119, li120, li124, li126, li132, li139, li140, li148, li156, li1000, li1092, li1248, rf_in_good, e2, en, rf_done]
        · rw [pu_u2e ⟨rfl, rfl⟩]
          decide +kernel
        · exact g1.of fun c hc => by rw [pu_u2r (by omega), pu_u2r (by omega)]
        · obtain ⟨⟨a1, a2⟩, ⟨nx, b1, b2, b3, b4, b5⟩, ⟨c1, c2, c3⟩, d1, d2⟩ := g2
          refine ⟨⟨by rw [pu_u2r (by omega), pu_u2r (by omega)]; exact a1, fun X hX => (a2 X hX).of fun c hc => by rw [pu_u2r (by omega), pu_u2r (by omega)]⟩, ⟨nx, b1, by rw [pu_u2r (by omega), pu_u2r (by omega)]; exact b2, by rw [pu_u2r (by omega), pu_u2r (by omega)]; exact b3, b4, fun i hi => (b5 i hi).of fun c hc => by rw [pu_u2r (by omega), pu_u2r (by omega)]⟩, ⟨by rw [pu_u2e ⟨rfl, rfl⟩, hbl], by omega, fun j hj => ?_⟩, by rw [pu_u2r (by omega), pu_u2r (by omega)]; exact d1, by rw [pu_u2r (by omega), pu_u2r (by omega)]; exact d2⟩
          rw [hbl] at hj
          rw [nap_getD (by omega), pu_u2n (by omega)]
          by_cases c9 : j = B.length
          · rw [if_pos c9, c9, pu_u2e ⟨rfl, rfl⟩]
          · rw [if_neg c9, pu_u2n (by omega)]
            exact c3 j (by omega)
        · exact ⟨g3.1.other (by rw [pu_u2r (by omega), pu_u2r (by omega), pu_u2r (by omega)]), g3.2.other (by rw [pu_u2r (by omega), pu_u2r (by omega), pu_u2r (by omega)])⟩
        · obtain ⟨⟨a1, a2⟩, ⟨b1, b2, b3⟩, ⟨c1, c2, c3⟩, d1, d2, d3, d4, d5⟩ := g4
          refine ⟨⟨by rw [pu_u2n (by omega), pu_u2n (by omega), pu_u2n (by omega)]; exact a1, fun Y hY => ⟨(a2 Y hY).1.other (by rw [pu_u2r (by omega), pu_u2r (by omega), pu_u2r (by omega)]), (a2 Y hY).2.other (by rw [pu_u2r (by omega), pu_u2r (by omega), pu_u2r (by omega)])⟩⟩, ⟨by rw [pu_u2n (by omega), pu_u2n (by omega), pu_u2n (by omega)]; exact b1, b2, ?_⟩, ⟨by rw [pu_u2n (by omega), pu_u2e ⟨rfl, rfl⟩, hbl], by omega, fun j hj => ?_⟩, by rw [pu_u2n (by omega), pu_u2n (by omega), pu_u2n (by omega)]; exact d1, by rw [pu_u2n (by omega), pu_u2n (by omega), pu_u2n (by omega)]; exact d2, by rw [pu_u2n (by omega), pu_u2n (by omega), pu_u2n (by omega)]; exact d3, d4, fun j hj => by rw [pu_u2r (by omega), pu_u2r (by omega), pu_u2r (by omega)]; exact d5 j hj⟩
          · rw [pu_u2r (by omega), pu_u2r (by omega), pu_u2r (by omega)]
            exact b3
          · rw [hbl] at hj
            rw [nap_getD (by omega), pu_u2n (by omega), pu_u2n (by omega)]
            by_cases c9 : j = B.length
            · rw [if_pos c9, c9, pu_u2e ⟨rfl, rfl⟩]
            · rw [if_neg c9, pu_u2n (by omega)]
              exact c3 j (by omega)
        · rcases List.mem_append.mp hx with hx | hx
          · exact g8 x hx
          · rw [List.mem_singleton.mp hx]
            omega
      · rw [if_neg c] at hful
        have h60 : B.length = 60 := by omega
        refine q_x (c := 4) (k := 2) (r := 0) (r' := nI 0) h ?_ ?_ (by decide) (by omega) (by decide +kernel)
        · unfold fX11_type
          simp (disch := omega) only [pu_OB, pu_LET, pu_OX0, pu_BND, pu_NZ, pu_BL, pu_m1, nI_add, pk_sub, pk_mul, pk_div, nI_clamp, pu_eq, pu_ne, pu_le_t, pu_le_f, pu_lt_t, pu_lt_f, pu_nm, pu_mm, pu_u2e, pu_u2n, ↓reduceIte, li0, li1, li2, li3, li4, li5, li6, li7, li8, li9, li10, li11, li12, li13, li14, li15, li16, li17, li18, li19, li20, li21, li22, li23, li24, li25, li26, li27, li28, li29, li30, li31, li32, li33, li34, li35, li36, li37, li38, li39, li40, li41, li42, li43, li44, li45, li46, li47, li48, li49, li50, li51, li52, li53, li54, li55, li56, li57, li58, li59, li60, li64, li72, li87, li97, li98, li99, li100, li101, li102, li103, li104, li105, li108, li109, li110, li111, li112, li114, li115, li116, li117, li119, li120, li124, li126, li132, li139, li140, li148, li156, li1000, li1092, li1248, hful]
        · rw [h60] at e2
          unfold fX12_type
          simp (disch := omega) only [pu_OB, pu_LET, pu_OX0, pu_BND, pu_NZ, pu_BL, pu_m1, nI_add, pk_sub, pk_mul, pk_div, nI_clamp, pu_eq, pu_ne, pu_le_t, pu_le_f, pu_lt_t, pu_lt_f, pu_nm, pu_mm, pu_u2e, pu_u2n, ↓reduceIte, li0, li1, li2, li3, li4, li5, li6, li7, li8, li9, li10, li11, li12, li13, li14, li15, li16, li17, li18, li19, li20, li21, li22, li23, li24, li25, li26, li27, li28, li29, li30, li31, li32, li33, li34, li35, li36, li37, li38, li39, li40, li41, li42, li43, li44, li45, li46, li47, li48, li49, li50, li51, li52, li53, li54, li55, li56, li57, li58, li59, li60, li64, li72, li87, li97, li98, li99, li100, li101, li102, li103, li104, li105, li108, li109, li110, li111, li112, li114, li115, li116, li117, li119, li120, li124, li126, li132, li139, li140, li148, li156, li1000, li1092, li1248, rf_in_good, e2, rf_fails]
end PR
