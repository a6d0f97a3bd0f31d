-- ===== ranks by the queue; the check; undo and snapshot; the buffer =====
section PR
variable {σ s : St} {m C : Nat} {T : List Nat}
theorem range_map {W : List E4} : (List.range W.length).map (fun q => W.getD q z4) = W := by
  apply List.ext_getElem?
  intro i
  rw [List.getElem?_map]
  by_cases h : i < W.length
  · rw [List.getElem?_range h, List.getElem?_eq_getElem h]
    show some (W.getD i z4) = _
    rw [List.getD_eq_getElem?_getD, List.getElem?_eq_getElem h]
    rfl
  · rw [List.getElem?_eq_none (by simpa using h), List.getElem?_eq_none (by omega)]
    rfl
/-- the least of the slots behind the first t has rank t -/
theorem q_rank {sc : Nat → Nat} {L W : List E4} {n q : Nat} {Tk Q : List Nat} (hn : NRW σ n sc L W) (hp : (Tk ++ Q).Perm (List.range W.length)) (hb9 : ∀ x ∈ Tk, ∀ y ∈ Q, bef (W.getD x z4) (W.getD y z4) = true) (hq : q ∈ Q) (hm : ∀ o ∈ Q, o ≠ q → bef (W.getD q z4) (W.getD o z4) = true) : rk sc L (W.getD q z4) = Tk.length := by
  rw [← hn.rk]
  have e : W.countP (fun o => bef o (W.getD q z4)) = ((Tk ++ Q).map (fun q => W.getD q z4)).countP (fun o => bef o (W.getD q z4)) := by
    rw [(hp.map _).countP_eq, range_map]
  rw [e, List.map_append, List.countP_append, List.countP_map, List.countP_map]
  have e1 : Tk.countP ((fun o => bef o (W.getD q z4)) ∘ fun q => W.getD q z4) = Tk.length := List.countP_eq_length.mpr fun x hx => hb9 x hx q hq
  have e2 : Q.countP ((fun o => bef o (W.getD q z4)) ∘ fun q => W.getD q z4) = 0 := List.countP_eq_zero.mpr fun o ho h => by
    have h : bef (W.getD o z4) (W.getD q z4) = true := h
    by_cases c : o = q
    · subst c
      have := bef_t.mp h
      omega
    · have g1 := bef_t.mp (hm o ho c)
      have g2 := bef_t.mp h
      omega
  rw [e1, e2, Nat.add_zero]
theorem cl_sar_S (r : Nat) (x1 x2 : Int32) (σ : St) : fX11_slotAtRank_L36 m (r + 1) x1 x2 σ = fX11_slotAtRank_L36b m (fX11_slotAtRank_L36 m r) x1 x2 σ := rfl
theorem cl_slotAtRank {A : AM} {W : List E4} {r : Nat} (hF : 2000 ≤ m) (hn : NRW σ (0 + 1) A.1 A.2 W) (hI : IN A.1 A.2) (hB : A.1 1 < 2 ^ 30) (hr : r < W.length) : ∃ q τ, q < W.length ∧ fX11_slotAtRank m (nI r) σ = some (nI q, τ) ∧ rk A.1 A.2 (W.getD q z4) = r ∧ ∀ c, c ≠ 212 → c ≠ 213 → τ c = σ c := by
  have hlen : W.length ≤ 12 := by rw [hn.len]; exact hI.2.2.1
  obtain ⟨t, t1, t2, t3⟩ := cl_fill (m := m) hF hn hlen
  have key : ∀ d f i (τ : St) (Tk Q : List Nat), i + d = r → d < f → QR τ Q → Tk.length = i → (Tk ++ Q).Perm (List.range W.length) → (∀ x ∈ Tk, ∀ y ∈ Q, bef (W.getD x z4) (W.getD y z4) = true) → (∀ c, c ≠ 212 → c ≠ 213 → τ c = σ c) → ∃ q υ, q < W.length ∧ fX11_slotAtRank_L36 m f (nI r) (nI i) τ = some (nI q, υ) ∧ rk A.1 A.2 (W.getD q z4) = r ∧ ∀ c, c ≠ 212 → c ≠ 213 → υ c = σ c := by
    intro d
    induction d with
    | zero =>
      intro f i τ Tk Q h1 h2 hQ hT hp hb9 hf
      obtain ⟨f, rfl⟩ : ∃ q, f = q + 1 := ⟨f - 1, by omega⟩
      have hnτ : NRW τ (0 + 1) A.1 A.2 W := hn.congr (by rw [hf _ (by omega) (by omega)]) (fun c a b => hf _ (by omega) (by omega)) fun w hw => rfl
      have hpl := hp.length_eq
      rw [List.length_append, List.length_range] at hpl
      have hnd : (Tk ++ Q).Nodup := hp.symm.nodup List.nodup_range
      obtain ⟨a, υ, a1, a2, a3, a4, a5⟩ := cl_qtake (m := m) hF hnτ hI hB (by omega) hQ (by omega) (fun q hq => List.mem_range.mp (hp.subset (List.mem_append_right _ hq))) (List.nodup_append.mp hnd).2.1
      have hmem := ngetD_mem a1
      refine ⟨Q.getD a 0, υ, List.mem_range.mp (hp.subset (List.mem_append_right _ hmem)), ?_, ?_, fun c x y => by rw [a5 c x y, hf c x y]⟩
      · simp (disch := omega) only [pu_OB, pu_LET, pu_OX0, pu_BND, pu_NZ, pu_BL, pu_m1, nI_add, pk_sub, pk_mul, pk_div, nI_clamp, pu_eq, pu_ne, pu_le_t, pu_le_f, pu_lt_t, pu_lt_f, pu_nm, pu_mm, pu_u2e, pu_u2n, ↓reduceIte, li0, li1, li2, li3, li4, li5, li6, li7, li8, li9, li10, li11, li12, li13, li14, li15, li16, li17, li18, li19, li20, li21, li22, li23, li24, li25, li26, li27, li28, li29, li30, li31, li32, li33, li34, li35, li36, li37, li38, li39, li40, li41, li42, li43, li44, li45, li46, li47, li48, li49, li50, li51, li52, li53, li54, li55, li56, li57, li58, li59, li60, li64, li72, li87, li97, li98, li99, li100, li101, li102, li103, li104, li105, li108, li109, li110, li111, li112, li114, li115, li116, li117, li119, li120, li124, li126, li132, li139, li140, li148, li156, li1000, li1092, li1248, cl_sar_S, fX11_slotAtRank_L36b, a2]
      · rw [q_rank hn hp hb9 hmem a4]
        omega
    | succ d ih =>
      intro f i τ Tk Q h1 h2 hQ hT hp hb9 hf
      obtain ⟨f, rfl⟩ : ∃ q, f = q + 1 := ⟨f - 1, by omega⟩
      have hnτ : NRW τ (0 + 1) A.1 A.2 W := hn.congr (by rw [hf _ (by omega) (by omega)]) (fun c a b => hf _ (by omega) (by omega)) fun w hw => rfl
      have hpl := hp.length_eq
      rw [List.length_append, List.length_range] at hpl
      have hnd : (Tk ++ Q).Nodup := hp.symm.nodup List.nodup_range
      obtain ⟨a, υ, a1, a2, a3, a4, a5⟩ := cl_qtake (m := m) hF hnτ hI hB (by omega) hQ (by omega) (fun q hq => List.mem_range.mp (hp.subset (List.mem_append_right _ hq))) (List.nodup_append.mp hnd).2.1
      have hmem := ngetD_mem a1
      have hqp := rmQ_perm a1
      have hQnd := (List.nodup_append.mp hnd).2.1
      have hQ2 : Q.getD a 0 ∉ rmQ Q a := (List.nodup_cons.mp (hqp.nodup hQnd)).1
      obtain ⟨q, υ2, b1, b2, b3, b4⟩ := ih f (i + 1) υ (Tk ++ [Q.getD a 0]) (rmQ Q a) (by omega) (by omega) a3 (by rw [List.length_append, hT]; rfl) (by
        rw [List.append_assoc]
        exact (List.Perm.append_left Tk hqp.symm).trans hp) (fun x hx y hy => by
        have hy2 : y ∈ Q := hqp.symm.subset (List.mem_cons_of_mem _ hy)
        rcases List.mem_append.mp hx with hx | hx
        · exact hb9 x hx y hy2
        · rw [List.mem_singleton.mp hx]
          exact a4 y hy2 fun e => hQ2 (e ▸ hy)) (fun c x y => by rw [a5 c x y, hf c x y])
      refine ⟨q, υ2, b1, ?_, b3, b4⟩
      simp (disch := omega) only [pu_OB, pu_LET, pu_OX0, pu_BND, pu_NZ, pu_BL, pu_m1, nI_add, pk_sub, pk_mul, pk_div, nI_clamp, pu_eq, pu_ne, pu_le_t, pu_le_f, pu_lt_t, pu_lt_f, pu_nm, pu_mm, pu_u2e, pu_u2n, ↓reduceIte, li0, li1, li2, li3, li4, li5, li6, li7, li8, li9, li10, li11, li12, li13, li14, li15, li16, li17, li18, li19, li20, li21, li22, li23, li24, li25, li26, li27, li28, li29, li30, li31, li32, li33, li34, li35, li36, li37, li38, li39, li40, li41, li42, li43, li44, li45, li46, li47, li48, li49, li50, li51, li52, li53, li54, li55, li56, li57, li58, li59, li60, li64, li72, li87, li97, li98, li99, li100, li101, li102, li103, li104, li105, li108, li109, li110, li111, li112, li114, li115, li116, li117, li119, li120, li124, li126, li132, li139, li140, li148, li156, li1000, li1092, li1248, cl_sar_S, fX11_slotAtRank_L36b, a2]
      exact b2
  obtain ⟨q, υ, u1, u2', u3, u4⟩ := key r m 0 t [] (List.range W.length) (by omega) (by omega) t2 rfl (List.Perm.refl _) (fun x hx => by cases hx) t3
  refine ⟨q, υ, u1, ?_, u3, u4⟩
  unfold fX11_slotAtRank
  have h5 := hn.2.1
  simp (disch := omega) only [pu_OB, pu_LET, pu_OX0, pu_BND, pu_NZ, pu_BL, pu_m1, nI_add, pk_sub, pk_mul, pk_div, nI_clamp, pu_eq, pu_ne, pu_le_t, pu_le_f, pu_lt_t, pu_lt_f, pu_nm, pu_mm, pu_u2e, pu_u2n, ↓reduceIte, li0, li1, li2, li3, li4, li5, li6, li7, li8, li9, li10, li11, li12, li13, li14, li15, li16, li17, li18, li19, li20, li21, li22, li23, li24, li25, li26, li27, li28, li29, li30, li31, li32, li33, li34, li35, li36, li37, li38, li39, li40, li41, li42, li43, li44, li45, li46, li47, li48, li49, li50, li51, li52, li53, li54, li55, li56, li57, li58, li59, li60, li64, li72, li87, li97, li98, li99, li100, li101, li102, li103, li104, li105, li108, li109, li110, li111, li112, li114, li115, li116, li117, li119, li120, li124, li126, li132, li139, li140, li148, li156, li1000, li1092, li1248, t1, h5]
  exact u2'
theorem rk_lt_len {A : AM} {W : List E4} {n : Nat} (hn : NRW σ n A.1 A.2 W) {e : E4} (he : e ∈ A.2) (hw : wt A.1 e = true) : rk A.1 A.2 e < W.length := by
  rw [← hn.rk]
  obtain ⟨q, hq, rfl⟩ := mem_getD (hn.mem.mpr ⟨he, hw⟩)
  rw [(rmW_perm hq).countP_eq, List.countP_cons, if_neg (by simp [bef]), (rmW_perm hq).length_eq, List.length_cons]
  have := List.countP_le_length (p := fun o => bef o (W.getD q z4)) (l := rmW W q)
  omega
theorem cl_ra_S (r : Nat) (x1 : Int32) (σ : St) : fX11_ranksAgree_L2 m (r + 1) x1 σ = fX11_ranksAgree_L2b m (fX11_ranksAgree_L2 m r) x1 σ := rfl
theorem cl_ranksAgree {A : AM} {W : List E4} (hF : 2000 ≤ m) (hn : NRW σ (0 + 1) A.1 A.2 W) (hI : IN A.1 A.2) (hB : A.1 1 < 2 ^ 30) : ∃ τ, fX11_ranksAgree m σ = some (nI 1, τ) ∧ ∀ c, c ≠ 212 → c ≠ 213 → τ c = σ c := by
  have hlen : W.length ≤ 12 := by rw [hn.len]; exact hI.2.2.1
  have key : ∀ d f i (τ : St), i + d = W.length → d < f → (∀ c, c ≠ 212 → c ≠ 213 → τ c = σ c) → ∃ υ, fX11_ranksAgree_L2 m f (nI i) τ = some (nI 1, υ) ∧ ∀ c, c ≠ 212 → c ≠ 213 → υ c = σ c := by
    intro d
    induction d with
    | zero =>
      intro f i τ h1 h2 hf
      obtain ⟨f, rfl⟩ : ∃ q, f = q + 1 := ⟨f - 1, by omega⟩
      have h5 : τ (0 + 1) 5 = nI W.length := by rw [hf _ (by omega) (by omega)]; exact hn.2.1
      refine ⟨τ, ?_, hf⟩
      simp (disch := omega) only [pu_OB, pu_LET, pu_OX0, pu_BND, pu_NZ, pu_BL, pu_m1, nI_add, pk_sub, pk_mul, pk_div, nI_clamp, pu_eq, pu_ne, pu_le_t, pu_le_f, pu_lt_t, pu_lt_f, pu_nm, pu_mm, pu_u2e, pu_u2n, ↓reduceIte, li0, li1, li2, li3, li4, li5, li6, li7, li8, li9, li10, li11, li12, li13, li14, li15, li16, li17, li18, li19, li20, li21, li22, li23, li24, li25, li26, li27, li28, li29, li30, li31, li32, li33, li34, li35, li36, li37, li38, li39, li40, li41, li42, li43, li44, li45, li46, li47, li48, li49, li50, li51, li52, li53, li54, li55, li56, li57, li58, li59, li60, li64, li72, li87, li97, li98, li99, li100, li101, li102, li103, li104, li105, li108, li109, li110, li111, li112, li114, li115, li116, li117, li119, li120, li124, li126, li132, li139, li140, li148, li156, li1000, li1092, li1248, cl_ra_S, fX11_ranksAgree_L2b, h5]
    | succ d ih =>
      intro f i τ h1 h2 hf
      obtain ⟨f, rfl⟩ : ∃ q, f = q + 1 := ⟨f - 1, by omega⟩
      have h5 : τ (0 + 1) 5 = nI W.length := by rw [hf _ (by omega) (by omega)]; exact hn.2.1
      have hnτ : NRW τ (0 + 1) A.1 A.2 W := hn.congr (by rw [hf _ (by omega) (by omega)]) (fun c a b => hf _ (by omega) (by omega)) fun w hw => rfl
      obtain ⟨q, υ, q1, q2, q3, q4⟩ := cl_slotAtRank (m := m) hF hnτ hI hB (show i < W.length by omega)
      have hnυ : NRW υ (0 + 1) A.1 A.2 W := hnτ.congr (by rw [q4 _ (by omega) (by omega)]) (fun c a b => q4 _ (by omega) (by omega)) fun w hw => rfl
      have e1 := cl_countBefore (m := m) hnυ hI hB hF (show q < 15 by omega) (hnυ.2.2.1 q q1) (hnυ.bd hI hB q1)
      rw [q3] at e1
      obtain ⟨υ2, u1, u2'⟩ := ih f (i + 1) υ (by omega) (by omega) (fun c a b => by rw [q4 c a b, hf c a b])
      refine ⟨υ2, ?_, u2'⟩
      simp (disch := omega) only [pu_OB, pu_LET, pu_OX0, pu_BND, pu_NZ, pu_BL, pu_m1, nI_add, pk_sub, pk_mul, pk_div, nI_clamp, pu_eq, pu_ne, pu_le_t, pu_le_f, pu_lt_t, pu_lt_f, pu_nm, pu_mm, pu_u2e, pu_u2n, ↓reduceIte, li0, li1, li2, li3, li4, li5, li6, li7, li8, li9, li10, li11, li12, li13, li14, li15, li16, li17, li18, li19, li20, li21, li22, li23, li24, li25, li26, li27, li28, li29, li30, li31, li32, li33, li34, li35, li36, li37, li38, li39, li40, li41, li42, li43, li44, li45, li46, li47, li48, li49, li50, li51, li52, li53, li54, li55, li56, li57, li58, li59, li60, li64, li72, li87, li97, li98, li99, li100, li101, li102, li103, li104, li105, li108, li109, li110, li111, li112, li114, li115, li116, li117, li119, li120, li124, li126, li132, li139, li140, li148, li156, li1000, li1092, li1248, cl_ra_S, fX11_ranksAgree_L2b, h5, q2, e1]
      exact u1
  exact key W.length m 0 σ (by omega) (by omega) fun c a b => rfl
theorem cl_fa_S (r : Nat) (x1 : Int32) (σ : St) : fX11_flourAgrees_L2 m (r + 1) x1 σ = fX11_flourAgrees_L2b m (fX11_flourAgrees_L2 m r) x1 σ := rfl
theorem cl_flourAgrees {A : AM} {T' N' : Nat} (hF : 2000 ≤ m) (hC : CR σ 0 A) (hs : IS A.1 0 T' N') : fX11_flourAgrees m σ = some (nI 1, σ) := by
  have key : ∀ d f i, i + d = 4 → d < f → fX11_flourAgrees_L2 m f (nI i) σ = some (nI 1, σ) := by
    intro d
    induction d with
    | zero =>
      intro f i h1 h2
      obtain ⟨f, rfl⟩ : ∃ q, f = q + 1 := ⟨f - 1, by omega⟩
      simp (disch := omega) only [pu_OB, pu_LET, pu_OX0, pu_BND, pu_NZ, pu_BL, pu_m1, nI_add, pk_sub, pk_mul, pk_div, nI_clamp, pu_eq, pu_ne, pu_le_t, pu_le_f, pu_lt_t, pu_lt_f, pu_nm, pu_mm, pu_u2e, pu_u2n, ↓reduceIte, li0, li1, li2, li3, li4, li5, li6, li7, li8, li9, li10, li11, li12, li13, li14, li15, li16, li17, li18, li19, li20, li21, li22, li23, li24, li25, li26, li27, li28, li29, li30, li31, li32, li33, li34, li35, li36, li37, li38, li39, li40, li41, li42, li43, li44, li45, li46, li47, li48, li49, li50, li51, li52, li53, li54, li55, li56, li57, li58, li59, li60, li64, li72, li87, li97, li98, li99, li100, li101, li102, li103, li104, li105, li108, li109, li110, li111, li112, li114, li115, li116, li117, li119, li120, li124, li126, li132, li139, li140, li148, li156, li1000, li1092, li1248, cl_fa_S, fX11_flourAgrees_L2b]
    | succ d ih =>
      intro f i h1 h2
      obtain ⟨f, rfl⟩ : ∃ q, f = q + 1 := ⟨f - 1, by omega⟩
      have e1 := cl_rls (m := m) hF hC hs (show i < 4 by omega)
      have e2 := hC.1.flour (show i < 4 by omega)
      simp (disch := omega) only [pu_OB, pu_LET, pu_OX0, pu_BND, pu_NZ, pu_BL, pu_m1, nI_add, pk_sub, pk_mul, pk_div, nI_clamp, pu_eq, pu_ne, pu_le_t, pu_le_f, pu_lt_t, pu_lt_f, pu_nm, pu_mm, pu_u2e, pu_u2n, ↓reduceIte, li0, li1, li2, li3, li4, li5, li6, li7, li8, li9, li10, li11, li12, li13, li14, li15, li16, li17, li18, li19, li20, li21, li22, li23, li24, li25, li26, li27, li28, li29, li30, li31, li32, li33, li34, li35, li36, li37, li38, li39, li40, li41, li42, li43, li44, li45, li46, li47, li48, li49, li50, li51, li52, li53, li54, li55, li56, li57, li58, li59, li60, li64, li72, li87, li97, li98, li99, li100, li101, li102, li103, li104, li105, li108, li109, li110, li111, li112, li114, li115, li116, li117, li119, li120, li124, li126, li132, li139, li140, li148, li156, li1000, li1092, li1248, cl_fa_S, fX11_flourAgrees_L2b, e1, e2, ih f (i + 1)]
  exact key 4 m 0 (by omega) (by omega)
theorem cl_pa_S (r : Nat) (x1 : Int32) (σ : St) : fX11_predictionsAgree_L2 m (r + 1) x1 σ = fX11_predictionsAgree_L2b m (fX11_predictionsAgree_L2 m r) x1 σ := rfl
theorem cl_predAgree {A : AM} {T' N : Nat} (hF : 2000 ≤ m) (hC : CR σ 0 A) (hI : IN A.1 A.2) (hs : IS A.1 0 T' N) (hT : T' + 60 < 10 ^ 7) (hNN : N < 10 ^ 7) : ∃ τ, fX11_predictionsAgree m σ = some (nI 1, τ) ∧ ∀ c, c < 19 ∨ 19 + 19 ≤ c → τ c = σ c := by
  have key : ∀ d f i (τ : St), i + d = 3 → d < f → (∀ c, c < 19 ∨ 19 + 19 ≤ c → τ c = σ c) → ∃ υ, fX11_predictionsAgree_L2 m f (nI i) τ = some (nI 1, υ) ∧ ∀ c, c < 19 ∨ 19 + 19 ≤ c → υ c = σ c := by
    intro d
    induction d with
    | zero =>
      intro f i τ h1 h2 hf
      obtain ⟨f, rfl⟩ : ∃ q, f = q + 1 := ⟨f - 1, by omega⟩
      refine ⟨τ, ?_, hf⟩
      simp (disch := omega) only [pu_OB, pu_LET, pu_OX0, pu_BND, pu_NZ, pu_BL, pu_m1, nI_add, pk_sub, pk_mul, pk_div, nI_clamp, pu_eq, pu_ne, pu_le_t, pu_le_f, pu_lt_t, pu_lt_f, pu_nm, pu_mm, pu_u2e, pu_u2n, ↓reduceIte, li0, li1, li2, li3, li4, li5, li6, li7, li8, li9, li10, li11, li12, li13, li14, li15, li16, li17, li18, li19, li20, li21, li22, li23, li24, li25, li26, li27, li28, li29, li30, li31, li32, li33, li34, li35, li36, li37, li38, li39, li40, li41, li42, li43, li44, li45, li46, li47, li48, li49, li50, li51, li52, li53, li54, li55, li56, li57, li58, li59, li60, li64, li72, li87, li97, li98, li99, li100, li101, li102, li103, li104, li105, li108, li109, li110, li111, li112, li114, li115, li116, li117, li119, li120, li124, li126, li132, li139, li140, li148, li156, li1000, li1092, li1248, cl_pa_S, fX11_predictionsAgree_L2b]
    | succ d ih =>
      intro f i τ h1 h2 hf
      obtain ⟨f, rfl⟩ : ∃ q, f = q + 1 := ⟨f - 1, by omega⟩
      have hCτ : CR τ 0 A := hC.of fun c hc => hf _ (by omega)
      obtain ⟨x, υ, a1, a2, a3⟩ := cl_simDone (m := m) hF hCτ hI hs hT hNN (show i < 3 by omega)
      have hCυ : CR υ 0 A := hCτ.of fun c hc => a3 _ (by omega)
      obtain ⟨y, b1, b2⟩ := cl_byRate hCυ hI hs (show i < 3 by omega)
      obtain rfl := pdI_u hI a2 b2
      obtain ⟨υ2, u1, u2'⟩ := ih f (i + 1) υ (by omega) (by omega) (fun c hc => by rw [a3 c hc, hf c hc])
      refine ⟨υ2, ?_, u2'⟩
      rw [cl_pa_S]
      unfold fX11_predictionsAgree_L2b
      simp (disch := omega) only [pu_OB, pu_LET, pu_OX0, pu_BND, pu_NZ, pu_BL, pu_m1, nI_add, pk_sub, pk_mul, pk_div, nI_clamp, pu_eq, pu_ne, pu_le_t, pu_le_f, pu_lt_t, pu_lt_f, pu_nm, pu_mm, pu_u2e, pu_u2n, ↓reduceIte, li0, li1, li2, li3, li4, li5, li6, li7, li8, li9, li10, li11, li12, li13, li14, li15, li16, li17, li18, li19, li20, li21, li22, li23, li24, li25, li26, li27, li28, li29, li30, li31, li32, li33, li34, li35, li36, li37, li38, li39, li40, li41, li42, li43, li44, li45, li46, li47, li48, li49, li50, li51, li52, li53, li54, li55, li56, li57, li58, li59, li60, li64, li72, li87, li97, li98, li99, li100, li101, li102, li103, li104, li105, li108, li109, li110, li111, li112, li114, li115, li116, li117, li119, li120, li124, li126, li132, li139, li140, li148, li156, li1000, li1092, li1248, a1, b1]
      exact u1
  exact key 3 m 0 σ (by omega) (by omega) fun c hc => rfl
-- undo, snapshot
-- the buffer
theorem nar_ch {b : Nat} (h : b < 65536) : vp_nar .char (nI b) = nI b := by
  have := (pk_charN h).1
  unfold vp_nar
  rw [this]
end PR

