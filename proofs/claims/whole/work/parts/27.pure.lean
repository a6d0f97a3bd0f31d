-- ===== the reference's rows copied; its changes =====
theorem SM.ext {s t : St} {i k : Nat} {sc : Nat → Nat} (h : SM s i sc) (he : ∀ j, j < 156 → t k j = s i j) : SM t k sc := fun j h1 h2 h3 => by rw [he j h1, h j h1 h2 h3]
theorem NM.ext {s t : St} {i k : Nat} {L : List E4} (h : NM s i L) (hl : L.length ≤ 15) (he : ∀ j, j < 156 → t k j = s i j) : NM t k L := by
  refine ⟨by rw [he 2 (by omega), h.1], fun p hp => ?_⟩
  rw [he _ (by omega), he _ (by omega), he _ (by omega), he _ (by omega)]
  exact h.2 p hp
/-- k numbers of row p at a, copied to row q at b -/
def cpS (s : St) (p a q b k : Nat) : St := fun c j => if c = q ∧ b + k ≤ j ∧ j < b + 156 then s p (a + (j - b)) else s c j
theorem cpS_in {s : St} {p a q b j : Nat} (h : j < 156) : cpS s p a q b 0 q (b + j) = s p (a + j) := by
  unfold cpS
  rw [if_pos (by omega), Nat.add_sub_cancel_left]
theorem cpS_out {s : St} {p a q b k c j : Nat} (h : c ≠ q ∨ j < b ∨ b + 156 ≤ j) : cpS s p a q b k c j = s c j := if_neg (by omega)
theorem cpS_row {s : St} {p a q b k c : Nat} (h : c ≠ q) : cpS s p a q b k c = s c := by
  funext j
  exact cpS_out (Or.inl h)
section RF
variable {s : St} {m : Nat}
theorem rf_copy_S (p pn q qn k : Nat) (x1 x3 x4 : Int32) (s : St) : fX12_copy_L3 m p pn q qn (k + 1) x1 x3 x4 s = fX12_copy_L3b m p pn q qn (fX12_copy_L3 m p pn q qn k) x1 x3 x4 s := rfl
theorem rf_copy {p pn q qn a b : Nat} (hF : 2000 ≤ m) (hpq : p ≠ q) (ha : a + 156 ≤ pn) (hb9 : b + 156 ≤ qn) (hpn : pn < 10 ^ 6) (hqn : qn < 10 ^ 6) : fX12_copy m p pn q qn (nI a) (nI b) s = some (nI 0, cpS s p a q b 0) := by
  have key : ∀ d n k s, k + d = 156 → d < n → fX12_copy_L3 m p pn q qn n (nI a) (nI b) (nI k) s = some (nI 0, cpS s p a q b k) := by
    intro d
    induction d with
    | zero =>
      intro n k s h1 h2
      obtain ⟨r, rfl⟩ : ∃ r, n = r + 1 := ⟨n - 1, by omega⟩
      have e : cpS s p a q b k = s := by
        funext c j
        exact if_neg (by omega)
      rw [e]
      simp (disch := omega) only [pu_OB, pu_LET, pu_OX0, pu_BND, pu_NZ, pu_BL, pu_m1, nI_add, pk_sub, pk_mul, pk_div, nI_clamp, pu_eq, pu_ne, pu_le_t, pu_le_f, pu_lt_t, pu_lt_f, pu_nm, pu_mm, pu_u2e, pu_u2n, ↓reduceIte, li0, li1, li2, li3, li4, li5, li6, li7, li8, li9, li10, li11, li12, li13, li14, li15, li16, li17, li18, li19, li20, li21, li22, li23, li24, li25, li26, li27, li28, li29, li30, li31, li32, li33, li34, li35, li36, li37, li38, li39, li40, li41, li42, li43, li44, li45, li46, li47, li48, li49, li50, li51, li52, li53, li54, li55, li56, li57, li58, li59, li60, li64, li72, li87, li97, li98, li99, li100, li101, li102, li103, li104, li105, li108, li109, li110, li111, li112, li114, li115, li116, li117, li119, li120, li124, li126, li132, li139, li140, li148, li156, li1000, li1092, li1248, rf_copy_S, fX12_copy_L3b]
    | succ d ih =>
      intro n k s h1 h2
      obtain ⟨r, rfl⟩ : ∃ r, n = r + 1 := ⟨n - 1, by omega⟩
      have e : cpS (u2 s q (b + k) (s p (a + k))) p a q b (k + 1) = cpS s p a q b k := by
        funext c j
        unfold cpS
        by_cases c1 : c = q ∧ j = b + k
        · obtain ⟨rfl, rfl⟩ := c1
          rw [if_neg (by omega), if_pos (by omega), pu_u2e ⟨rfl, rfl⟩, Nat.add_sub_cancel_left]
        · by_cases c2 : c = q ∧ b + (k + 1) ≤ j ∧ j < b + 156
          · rw [if_pos c2, if_pos (by omega), pu_u2n (by omega)]
          · rw [if_neg c2, if_neg (by omega), pu_u2n (by omega)]
      simp (disch := omega) only [pu_OB, pu_LET, pu_OX0, pu_BND, pu_NZ, pu_BL, pu_m1, nI_add, pk_sub, pk_mul, pk_div, nI_clamp, pu_eq, pu_ne, pu_le_t, pu_le_f, pu_lt_t, pu_lt_f, pu_nm, pu_mm, pu_u2e, pu_u2n, ↓reduceIte, li0, li1, li2, li3, li4, li5, li6, li7, li8, li9, li10, li11, li12, li13, li14, li15, li16, li17, li18, li19, li20, li21, li22, li23, li24, li25, li26, li27, li28, li29, li30, li31, li32, li33, li34, li35, li36, li37, li38, li39, li40, li41, li42, li43, li44, li45, li46, li47, li48, li49, li50, li51, li52, li53, li54, li55, li56, li57, li58, li59, li60, li64, li72, li87, li97, li98, li99, li100, li101, li102, li103, li104, li105, li108, li109, li110, li111, li112, li114, li115, li116, li117, li119, li120, li124, li126, li132, li139, li140, li148, li156, li1000, li1092, li1248, rf_copy_S, fX12_copy_L3b, ih r (k + 1), e]
  have := key 156 m 0 s (by omega) (by omega)
  unfold fX12_copy
  exact this
theorem rf_begin (hF : 2000 ≤ m) : fX12_begin m s = some (nI 0, cpS s 1 0 2 0 0) := by
  unfold fX12_begin
  have e := rf_copy (m := m) (s := s) (p := 1) (pn := 156) (q := 2) (qn := 156) (a := 0) (b := 0) hF (by omega) (by omega) (by omega) (by omega) (by omega)
  simp (disch := omega) only [pu_OB, pu_LET, pu_OX0, pu_BND, pu_NZ, pu_BL, pu_m1, nI_add, pk_sub, pk_mul, pk_div, nI_clamp, pu_eq, pu_ne, pu_le_t, pu_le_f, pu_lt_t, pu_lt_f, pu_nm, pu_mm, pu_u2e, pu_u2n, ↓reduceIte, li0, li1, li2, li3, li4, li5, li6, li7, li8, li9, li10, li11, li12, li13, li14, li15, li16, li17, li18, li19, li20, li21, li22, li23, li24, li25, li26, li27, li28, li29, li30, li31, li32, li33, li34, li35, li36, li37, li38, li39, li40, li41, li42, li43, li44, li45, li46, li47, li48, li49, li50, li51, li52, li53, li54, li55, li56, li57, li58, li59, li60, li64, li72, li87, li97, li98, li99, li100, li101, li102, li103, li104, li105, li108, li109, li110, li111, li112, li114, li115, li116, li117, li119, li120, li124, li126, li132, li139, li140, li148, li156, li1000, li1092, li1248, e]
theorem rf_done {p : Int32} : fX12_done p s = some (p, u2 s 0 13 (nI 0)) := rfl
theorem rf_fails {p : Int32} : fX12_fails p s = some (nI 0, u2 s 0 13 p) := rfl
def shH (s : St) (k : Nat) : St := fun c j => if c = 4 ∧ k ≤ j ∧ j < 1092 then s 4 (j + 156) else s c j
theorem rf_kept_S (k : Nat) (x i : Int32) (s : St) : fX12_kept_L33 m (k + 1) x i s = fX12_kept_L33b m (fX12_kept_L33 m k) x i s := rfl
/-- the history's rows after a change -/
def hpS (s : St) (n : Nat) : St := if n = 8 then u2 (cpS (u2 (shH s 0) 0 4 (nI 7)) 2 0 4 1092 0) 0 4 (nI 8) else u2 (cpS s 2 0 4 (156 * n) 0) 0 4 (nI (n + 1))
theorem rf_kept_ok {r : Int32} {n : Nat} (hF : 2000 ≤ m) (h13 : s 0 13 = nI 0) (h4 : s 0 4 = nI n) (hn : n ≤ 8) : fX12_kept m r s = some (r, hpS s n) := by
  have key : ∀ d q k s, k + d = 1092 → d < q → s 0 4 = nI 8 → fX12_kept_L33 m q r (nI k) s = fX12_kept_B72 m r (u2 (shH s k) 0 4 (nI 7)) := by
    intro d
    induction d with
    | zero =>
      intro q k s h1 h2 h4
      obtain ⟨t, rfl⟩ : ∃ t, q = t + 1 := ⟨q - 1, by omega⟩
      have e : shH s k = s := by
        funext c j
        exact if_neg (by omega)
      rw [e]
      simp (disch := omega) only [pu_OB, pu_LET, pu_OX0, pu_BND, pu_NZ, pu_BL, pu_m1, nI_add, pk_sub, pk_mul, pk_div, nI_clamp, pu_eq, pu_ne, pu_le_t, pu_le_f, pu_lt_t, pu_lt_f, pu_nm, pu_mm, pu_u2e, pu_u2n, ↓reduceIte, li0, li1, li2, li3, li4, li5, li6, li7, li8, li9, li10, li11, li12, li13, li14, li15, li16, li17, li18, li19, li20, li21, li22, li23, li24, li25, li26, li27, li28, li29, li30, li31, li32, li33, li34, li35, li36, li37, li38, li39, li40, li41, li42, li43, li44, li45, li46, li47, li48, li49, li50, li51, li52, li53, li54, li55, li56, li57, li58, li59, li60, li64, li72, li87, li97, li98, li99, li100, li101, li102, li103, li104, li105, li108, li109, li110, li111, li112, li114, li115, li116, li117, li119, li120, li124, li126, li132, li139, li140, li148, li156, li1000, li1092, li1248, rf_kept_S, fX12_kept_L33b, h4]
    | succ d ih =>
      intro q k s h1 h2 h4
      obtain ⟨t, rfl⟩ : ∃ t, q = t + 1 := ⟨q - 1, by omega⟩
      have e : shH (u2 s 4 k (s 4 (k + 156))) (k + 1) = shH s k := by
        funext c j
        unfold shH
        by_cases c1 : c = 4 ∧ j = k
        · obtain ⟨rfl, rfl⟩ := c1
          rw [if_neg (by omega), if_pos (by omega), pu_u2e ⟨rfl, rfl⟩]
        · by_cases c2 : c = 4 ∧ k + 1 ≤ j ∧ j < 1092
          · rw [if_pos c2, if_pos (by omega), pu_u2n (by omega)]
          · rw [if_neg c2, if_neg (by omega), pu_u2n (by omega)]
      have e2 := ih t (k + 1) (u2 s 4 k (s 4 (k + 156))) (by omega) (by omega) (by rw [pu_u2n (by omega)]; exact h4)
      rw [e] at e2
      simp (disch := omega) only [pu_OB, pu_LET, pu_OX0, pu_BND, pu_NZ, pu_BL, pu_m1, nI_add, pk_sub, pk_mul, pk_div, nI_clamp, pu_eq, pu_ne, pu_le_t, pu_le_f, pu_lt_t, pu_lt_f, pu_nm, pu_mm, pu_u2e, pu_u2n, ↓reduceIte, li0, li1, li2, li3, li4, li5, li6, li7, li8, li9, li10, li11, li12, li13, li14, li15, li16, li17, li18, li19, li20, li21, li22, li23, li24, li25, li26, li27, li28, li29, li30, li31, li32, li33, li34, li35, li36, li37, li38, li39, li40, li41, li42, li43, li44, li45, li46, li47, li48, li49, li50, li51, li52, li53, li54, li55, li56, li57, li58, li59, li60, li64, li72, li87, li97, li98, li99, li100, li101, li102, li103, li104, li105, li108, li109, li110, li111, li112, li114, li115, li116, li117, li119, li120, li124, li126, li132, li139, li140, li148, li156, li1000, li1092, li1248, rf_kept_S, fX12_kept_L33b, e2]
  have tail : ∀ (s : St) (n : Nat), s 0 4 = nI n → n ≤ 7 → fX12_kept_B72 m r s = some (r, u2 (cpS s 2 0 4 (156 * n) 0) 0 4 (nI (n + 1))) := by
    intro s n h4 hn
    have e := rf_copy (m := m) (s := s) (p := 2) (pn := 156) (q := 4) (qn := 1248) (a := 0) (b := n * 156) hF (by omega) (by omega) (by omega) (by omega) (by omega)
    have e2 : cpS s 2 0 4 (n * 156) 0 0 4 = nI n := by rw [cpS_out (by omega), h4]
    unfold fX12_kept_B72
    rw [Nat.mul_comm 156 n]
    simp (disch := omega) only [pu_OB, pu_LET, pu_OX0, pu_BND, pu_NZ, pu_BL, pu_m1, nI_add, pk_sub, pk_mul, pk_div, nI_clamp, pu_eq, pu_ne, pu_le_t, pu_le_f, pu_lt_t, pu_lt_f, pu_nm, pu_mm, pu_u2e, pu_u2n, ↓reduceIte, li0, li1, li2, li3, li4, li5, li6, li7, li8, li9, li10, li11, li12, li13, li14, li15, li16, li17, li18, li19, li20, li21, li22, li23, li24, li25, li26, li27, li28, li29, li30, li31, li32, li33, li34, li35, li36, li37, li38, li39, li40, li41, li42, li43, li44, li45, li46, li47, li48, li49, li50, li51, li52, li53, li54, li55, li56, li57, li58, li59, li60, li64, li72, li87, li97, li98, li99, li100, li101, li102, li103, li104, li105, li108, li109, li110, li111, li112, li114, li115, li116, li117, li119, li120, li124, li126, li132, li139, li140, li148, li156, li1000, li1092, li1248, h4, e, e2]
  unfold fX12_kept hpS
  by_cases c : n = 8
  · subst c
    have e1 := key 1092 m 0 s (by omega) (by omega) h4
    have e2 := tail (u2 (shH s 0) 0 4 (nI 7)) 7 (pu_u2e ⟨rfl, rfl⟩) (by omega)
    rw [if_pos rfl]
    simp (disch := omega) only [pu_OB, pu_LET, pu_OX0, pu_BND, pu_NZ, pu_BL, pu_m1, nI_add, pk_sub, pk_mul, pk_div, nI_clamp, pu_eq, pu_ne, pu_le_t, pu_le_f, pu_lt_t, pu_lt_f, pu_nm, pu_mm, pu_u2e, pu_u2n, ↓reduceIte, li0, li1, li2, li3, li4, li5, li6, li7, li8, li9, li10, li11, li12, li13, li14, li15, li16, li17, li18, li19, li20, li21, li22, li23, li24, li25, li26, li27, li28, li29, li30, li31, li32, li33, li34, li35, li36, li37, li38, li39, li40, li41, li42, li43, li44, li45, li46, li47, li48, li49, li50, li51, li52, li53, li54, li55, li56, li57, li58, li59, li60, li64, li72, li87, li97, li98, li99, li100, li101, li102, li103, li104, li105, li108, li109, li110, li111, li112, li114, li115, li116, li117, li119, li120, li124, li126, li132, li139, li140, li148, li156, li1000, li1092, li1248, h13, h4, e1, e2, Nat.reduceMul, Nat.reduceAdd]
  · have e2 := tail s n h4 (by omega)
    rw [if_neg c]
    simp (disch := omega) only [pu_OB, pu_LET, pu_OX0, pu_BND, pu_NZ, pu_BL, pu_m1, nI_add, pk_sub, pk_mul, pk_div, nI_clamp, pu_eq, pu_ne, pu_le_t, pu_le_f, pu_lt_t, pu_lt_f, pu_nm, pu_mm, pu_u2e, pu_u2n, ↓reduceIte, li0, li1, li2, li3, li4, li5, li6, li7, li8, li9, li10, li11, li12, li13, li14, li15, li16, li17, li18, li19, li20, li21, li22, li23, li24, li25, li26, li27, li28, li29, li30, li31, li32, li33, li34, li35, li36, li37, li38, li39, li40, li41, li42, li43, li44, li45, li46, li47, li48, li49, li50, li51, li52, li53, li54, li55, li56, li57, li58, li59, li60, li64, li72, li87, li97, li98, li99, li100, li101, li102, li103, li104, li105, li108, li109, li110, li111, li112, li114, li115, li116, li117, li119, li120, li124, li126, li132, li139, li140, li148, li156, li1000, li1092, li1248, h13, h4, e2]
theorem rf_kept_x {r : Int32} {n : Nat} (hF : 2000 ≤ m) (h13 : s 0 13 = nI n) (hn : 0 < n ∧ n < 100) : fX12_kept m r s = some (nI 0, cpS s 2 0 1 0 0) := by
  have e := rf_copy (m := m) (s := s) (p := 2) (pn := 156) (q := 1) (qn := 156) (a := 0) (b := 0) hF (by omega) (by omega) (by omega) (by omega) (by omega)
  unfold fX12_kept
  simp (disch := omega) only [pu_OB, pu_LET, pu_OX0, pu_BND, pu_NZ, pu_BL, pu_m1, nI_add, pk_sub, pk_mul, pk_div, nI_clamp, pu_eq, pu_ne, pu_le_t, pu_le_f, pu_lt_t, pu_lt_f, pu_nm, pu_mm, pu_u2e, pu_u2n, ↓reduceIte, li0, li1, li2, li3, li4, li5, li6, li7, li8, li9, li10, li11, li12, li13, li14, li15, li16, li17, li18, li19, li20, li21, li22, li23, li24, li25, li26, li27, li28, li29, li30, li31, li32, li33, li34, li35, li36, li37, li38, li39, li40, li41, li42, li43, li44, li45, li46, li47, li48, li49, li50, li51, li52, li53, li54, li55, li56, li57, li58, li59, li60, li64, li72, li87, li97, li98, li99, li100, li101, li102, li103, li104, li105, li108, li109, li110, li111, li112, li114, li115, li116, li117, li119, li120, li124, li126, li132, li139, li140, li148, li156, li1000, li1092, li1248, h13, e]
/-- one change of row 1: what it answers, what the row is, what is thrown; nothing else is touched -/
def RO (f : Option (Int32 × St)) (s : St) (r : Int32) (c : Nat) (A : AM) : Prop := ∃ t, f = some (r, t) ∧ SM t 1 A.1 ∧ NM t 1 A.2 ∧ t 0 13 = nI c ∧ (∀ k, 2 ≤ k → t k = s k) ∧ ∀ j, j ≠ 13 → t 0 j = s 0 j
theorem RO.fail {A : AM} {c : Nat} (hS : SM s 1 A.1) (hN : NM s 1 A.2) : RO (some (nI 0, u2 s 0 13 (nI c))) s (nI 0) c A :=
  ⟨_, rfl, hS.other (pu_u2r (by omega)), hN.other (pu_u2r (by omega)), pu_u2e ⟨rfl, rfl⟩, fun k hk => pu_u2r (by omega), fun j hj => pu_u2n (by omega)⟩
theorem RO.done {A : AM} {r : Int32} {t : St} (hS : SM t 1 A.1) (hN : NM t 1 A.2) (hf : ∀ c, c ≠ 1 → t c = s c) : RO (some (r, u2 t 0 13 (nI 0))) s r 0 A :=
  ⟨_, rfl, hS.other (pu_u2r (by omega)), hN.other (pu_u2r (by omega)), pu_u2e ⟨rfl, rfl⟩, fun k hk => by rw [pu_u2r (by omega), hf k (by omega)], fun j hj => by rw [pu_u2n (by omega), hf 0 (by omega)]⟩
def spAdd (A : AM) (b l a : Nat) : AM := (upN A.1 1 (A.1 1 + 1), A.2 ++ [(A.1 1, b, l, a)])
theorem rf_adds {A : AM} {T N : Nat} {b l a : Nat} (hF : 2000 ≤ m) (hS : SM s 1 A.1) (hN : NM s 1 A.2) (hI : IN A.1 A.2) (hs : IS A.1 0 T N) (hNN : N < 10 ^ 7) (hb9 : b < 8) (hl : 1 ≤ l ∧ l ≤ 9) (ha : 1 ≤ a ∧ a ≤ 60) :
    (A.2.countP (wt A.1) = 12 → RO (fX12_adds m (nI b) (nI l) (nI a) s) s (nI 0) 2 A) ∧ (A.2.countP (wt A.1) < 12 → RO (fX12_adds m (nI b) (nI l) (nI a) s) s (nI (A.1 1)) 0 (spAdd A b l a)) := by
  have hlen := hI.len
  have hb1 := hs.1
  have hc := hI.2.2.1
  have hB : A.1 1 < 2 ^ 30 := by omega
  have e1 : s 1 1 = nI (A.1 1) := hS _ (by omega) (by omega) (by omega)
  have e2 := hN.1
  have ew := rf_waiting hF hS hN hI hB
  unfold fX12_adds
  refine ⟨fun c => ?_, fun c => ?_⟩
  · simp (disch := omega) only [pu_OB, pu_LET, pu_OX0, pu_BND, pu_NZ, pu_BL, pu_m1, nI_add, pk_sub, pk_mul, pk_div, nI_clamp, pu_eq, pu_ne, pu_le_t, pu_le_f, pu_lt_t, pu_lt_f, pu_nm, pu_mm, pu_u2e, pu_u2n, ↓reduceIte, li0, li1, li2, li3, li4, li5, li6, li7, li8, li9, li10, li11, li12, li13, li14, li15, li16, li17, li18, li19, li20, li21, li22, li23, li24, li25, li26, li27, li28, li29, li30, li31, li32, li33, li34, li35, li36, li37, li38, li39, li40, li41, li42, li43, li44, li45, li46, li47, li48, li49, li50, li51, li52, li53, li54, li55, li56, li57, li58, li59, li60, li64, li72, li87, li97, li98, li99, li100, li101, li102, li103, li104, li105, li108, li109, li110, li111, li112, li114, li115, li116, li117, li119, li120, li124, li126, li132, li139, li140, li148, li156, li1000, li1092, li1248, rf_isBand hb9, rf_in_good, ew, c, rf_fails]
    exact RO.fail hS hN
  · have hz : ¬ A.2.countP (wt A.1) = 12 := by omega
    have hlt : A.2.length ≤ 14 := by
      have g1 : A.2.length ≤ A.2.countP (wt A.1) + sumF (nzf A.1) 0 3 := hI.2.2.2.2.2
      have h3 : sumF (nzf A.1) 0 3 ≤ 1 * 3 := sumF_le fun j _ _ => by
        show (if A.1 (13 + j) = 0 then 0 else 1) ≤ 1
        split <;> omega
      omega
    simp (disch := omega) only [pu_OB, pu_LET, pu_OX0, pu_BND, pu_NZ, pu_BL, pu_m1, nI_add, pk_sub, pk_mul, pk_div, nI_clamp, pu_eq, pu_ne, pu_le_t, pu_le_f, pu_lt_t, pu_lt_f, pu_nm, pu_mm, pu_u2e, pu_u2n, ↓reduceIte, li0, li1, li2, li3, li4, li5, li6, li7, li8, li9, li10, li11, li12, li13, li14, li15, li16, li17, li18, li19, li20, li21, li22, li23, li24, li25, li26, li27, li28, li29, li30, li31, li32, li33, li34, li35, li36, li37, li38, li39, li40, li41, li42, li43, li44, li45, li46, li47, li48, li49, li50, li51, li52, li53, li54, li55, li56, li57, li58, li59, li60, li64, li72, li87, li97, li98, li99, li100, li101, li102, li103, li104, li105, li108, li109, li110, li111, li112, li114, li115, li116, li117, li119, li120, li124, li126, li132, li139, li140, li148, li156, li1000, li1092, li1248, rf_isBand hb9, rf_in_good, ew, e1, e2, rf_done]
    refine RO.done (A := spAdd A b l a) ?_ ?_ fun c hc => by rw [pu_u2r hc, pu_u2r hc, pu_u2r hc, pu_u2r hc, pu_u2r hc, pu_u2r hc]
    · exact ((((((hS.off (by omega)).off (by omega)).off (by omega)).off (by omega)).off (by omega)).upd rfl)
    · refine ⟨?_, fun p hp => ?_⟩
      · rw [pu_u2n (by omega), pu_u2e ⟨rfl, rfl⟩]
        show nI _ = nI (A.2 ++ [_]).length
        rw [List.length_append]
        rfl
      · have hp9 : p < A.2.length + 1 := by
          have h9 : p < (A.2 ++ [(A.1 1, b, l, a)]).length := hp
          rw [List.length_append] at h9
          exact h9
        show _ = nI ((A.2 ++ [(A.1 1, b, l, a)]).getD p z4).1 ∧ _ = nI ((A.2 ++ [(A.1 1, b, l, a)]).getD p z4).2.1 ∧ _ = nI ((A.2 ++ [(A.1 1, b, l, a)]).getD p z4).2.2.1 ∧ _ = nI ((A.2 ++ [(A.1 1, b, l, a)]).getD p z4).2.2.2
        rw [ap_getD (by omega)]
        by_cases c9 : p = A.2.length
        · subst c9
          rw [if_pos rfl]
          simp (disch := omega) only [pu_u2e, pu_u2n]
          exact ⟨trivial, trivial, trivial, trivial⟩
        · rw [if_neg c9]
          simp (disch := omega) only [pu_u2n]
          exact hN.2 p (by omega)
theorem rf_adds_x {A : AM} {b l a : Int32} (hS : SM s 1 A.1) (hN : NM s 1 A.2) (h : (b < 0 ∨ nI 8 ≤ b) ∨ (l < 1 ∨ nI 10 ≤ l) ∨ (a < 1 ∨ nI 61 ≤ a)) : RO (fX12_adds m b l a s) s (nI 0) 1 A := by
  have hz : RO (fX12_adds_B27 m s) s (nI 0) 1 A := RO.fail (c := 1) hS hN
  have e1 : ∀ p : Int32, (p < 0 ∨ nI 8 ≤ p) → fX12_isBand p s = some (nI 0, s) := fun p h => rf_isBand_x h
  have e2 : (l < 1 ∨ nI 10 ≤ l) → fX12_in l 1 9 s = some (nI 0, s) := fun h => rf_in_bad (lo := 1) (hi := 9) h (by omega)
  have e3 : (a < 1 ∨ nI 61 ≤ a) → fX12_in a 1 60 s = some (nI 0, s) := fun h => rf_in_bad (lo := 1) (hi := 60) h (by omega)
  have fin : ∀ (p lo hi : Int32), fX12_in p lo hi s = some (nI 0, s) ∨ fX12_in p lo hi s = some (nI 1, s) := fun p lo hi => by
    unfold fX12_in
    split
    · exact Or.inl rfl
    · split
      · exact Or.inl rfl
      · exact Or.inr rfl
  have fb : fX12_isBand b s = some (nI 0, s) ∨ fX12_isBand b s = some (nI 1, s) := by
    unfold fX12_isBand
    rcases fin b 0 7 with q | q
    · rw [q]
      exact Or.inl rfl
    · rw [q]
      exact Or.inr rfl
  unfold fX12_adds
  rcases fb with q | q
  · rw [q]
    exact hz
  · rw [q]
    show RO (OB (fX12_in l 1 9 s) _) s (nI 0) 1 A
    rcases fin l 1 9 with q2 | q2
    · rw [q2]
      exact hz
    · rw [q2]
      show RO (OB (fX12_in a 1 60 s) _) s (nI 0) 1 A
      rcases fin a 1 60 with q3 | q3
      · rw [q3]
        exact hz
      · exfalso
        rcases h with h | h | h
        · have := q.symm.trans (e1 b h)
          exact absurd (congrArg (·.map (·.1)) this) (by simp [nI])
        · have := q2.symm.trans (e2 h)
          exact absurd (congrArg (·.map (·.1)) this) (by simp [nI])
        · have := q3.symm.trans (e3 h)
          exact absurd (congrArg (·.map (·.1)) this) (by simp [nI])
end RF
