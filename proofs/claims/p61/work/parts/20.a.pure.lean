-- ===== the pure layer: how the partial functions are evaluated =====
theorem li0 : (0 : Int32) = nI 0 := rfl
theorem li1 : (1 : Int32) = nI 1 := rfl
theorem li2 : (2 : Int32) = nI 2 := rfl
theorem li3 : (3 : Int32) = nI 3 := rfl
theorem li4 : (4 : Int32) = nI 4 := rfl
theorem li5 : (5 : Int32) = nI 5 := rfl
theorem li6 : (6 : Int32) = nI 6 := rfl
theorem li7 : (7 : Int32) = nI 7 := rfl
theorem li8 : (8 : Int32) = nI 8 := rfl
theorem li9 : (9 : Int32) = nI 9 := rfl
theorem li10 : (10 : Int32) = nI 10 := rfl
theorem li11 : (11 : Int32) = nI 11 := rfl
theorem li12 : (12 : Int32) = nI 12 := rfl
theorem li13 : (13 : Int32) = nI 13 := rfl
theorem li14 : (14 : Int32) = nI 14 := rfl
theorem li15 : (15 : Int32) = nI 15 := rfl
theorem li16 : (16 : Int32) = nI 16 := rfl
theorem li17 : (17 : Int32) = nI 17 := rfl
theorem li18 : (18 : Int32) = nI 18 := rfl
theorem li19 : (19 : Int32) = nI 19 := rfl
theorem li20 : (20 : Int32) = nI 20 := rfl
theorem li21 : (21 : Int32) = nI 21 := rfl
theorem li22 : (22 : Int32) = nI 22 := rfl
theorem li23 : (23 : Int32) = nI 23 := rfl
theorem li24 : (24 : Int32) = nI 24 := rfl
theorem li25 : (25 : Int32) = nI 25 := rfl
theorem li26 : (26 : Int32) = nI 26 := rfl
theorem li27 : (27 : Int32) = nI 27 := rfl
theorem li28 : (28 : Int32) = nI 28 := rfl
theorem li29 : (29 : Int32) = nI 29 := rfl
theorem li30 : (30 : Int32) = nI 30 := rfl
theorem li31 : (31 : Int32) = nI 31 := rfl
theorem li32 : (32 : Int32) = nI 32 := rfl
theorem li33 : (33 : Int32) = nI 33 := rfl
theorem li34 : (34 : Int32) = nI 34 := rfl
theorem li35 : (35 : Int32) = nI 35 := rfl
theorem li36 : (36 : Int32) = nI 36 := rfl
theorem li37 : (37 : Int32) = nI 37 := rfl
theorem li38 : (38 : Int32) = nI 38 := rfl
theorem li39 : (39 : Int32) = nI 39 := rfl
theorem li40 : (40 : Int32) = nI 40 := rfl
theorem li41 : (41 : Int32) = nI 41 := rfl
theorem li42 : (42 : Int32) = nI 42 := rfl
theorem li43 : (43 : Int32) = nI 43 := rfl
theorem li44 : (44 : Int32) = nI 44 := rfl
theorem li45 : (45 : Int32) = nI 45 := rfl
theorem li46 : (46 : Int32) = nI 46 := rfl
theorem li47 : (47 : Int32) = nI 47 := rfl
theorem li48 : (48 : Int32) = nI 48 := rfl
theorem li49 : (49 : Int32) = nI 49 := rfl
theorem li50 : (50 : Int32) = nI 50 := rfl
theorem li51 : (51 : Int32) = nI 51 := rfl
theorem li52 : (52 : Int32) = nI 52 := rfl
theorem li53 : (53 : Int32) = nI 53 := rfl
theorem li54 : (54 : Int32) = nI 54 := rfl
theorem li55 : (55 : Int32) = nI 55 := rfl
theorem li56 : (56 : Int32) = nI 56 := rfl
theorem li57 : (57 : Int32) = nI 57 := rfl
theorem li58 : (58 : Int32) = nI 58 := rfl
theorem li59 : (59 : Int32) = nI 59 := rfl
theorem li60 : (60 : Int32) = nI 60 := rfl
theorem li64 : (64 : Int32) = nI 64 := rfl
theorem li72 : (72 : Int32) = nI 72 := rfl
theorem li87 : (87 : Int32) = nI 87 := rfl
theorem li97 : (97 : Int32) = nI 97 := rfl
theorem li98 : (98 : Int32) = nI 98 := rfl
theorem li99 : (99 : Int32) = nI 99 := rfl
theorem li100 : (100 : Int32) = nI 100 := rfl
theorem li101 : (101 : Int32) = nI 101 := rfl
theorem li102 : (102 : Int32) = nI 102 := rfl
theorem li103 : (103 : Int32) = nI 103 := rfl
theorem li104 : (104 : Int32) = nI 104 := rfl
theorem li105 : (105 : Int32) = nI 105 := rfl
theorem li108 : (108 : Int32) = nI 108 := rfl
theorem li109 : (109 : Int32) = nI 109 := rfl
theorem li110 : (110 : Int32) = nI 110 := rfl
theorem li111 : (111 : Int32) = nI 111 := rfl
theorem li112 : (112 : Int32) = nI 112 := rfl
theorem li114 : (114 : Int32) = nI 114 := rfl
theorem li115 : (115 : Int32) = nI 115 := rfl
theorem li116 : (116 : Int32) = nI 116 := rfl
theorem li117 : (117 : Int32) = nI 117 := rfl
theorem li119 : (119 : Int32) = nI 119 := rfl
theorem li120 : (120 : Int32) = nI 120 := rfl
theorem li124 : (124 : Int32) = nI 124 := rfl
theorem li126 : (126 : Int32) = nI 126 := rfl
theorem li132 : (132 : Int32) = nI 132 := rfl
theorem li139 : (139 : Int32) = nI 139 := rfl
theorem li140 : (140 : Int32) = nI 140 := rfl
theorem li148 : (148 : Int32) = nI 148 := rfl
theorem li156 : (156 : Int32) = nI 156 := rfl
theorem li1000 : (1000 : Int32) = nI 1000 := rfl
theorem li1092 : (1092 : Int32) = nI 1092 := rfl
theorem li1248 : (1248 : Int32) = nI 1248 := rfl
def mI : Int32 := -1
theorem pu_m1 : -(nI 1) = mI := rfl
theorem pu_OB {σ α : Type} {r : Int32} {s : σ} {K : Int32 → σ → Option α} : OB (some (r, s)) K = K r s := rfl
theorem pu_LET {α β : Type} {x : α} {K : α → β} : LET x K = K x := rfl
theorem pu_OX0 {α β : Type} {v : α} {s : St} {d : β} {K : α → St → Option ((Nat × β) × St)} : OX (some ((0, v), s)) d K = K v s := rfl
theorem pu_OXc {α β : Type} {c : Nat} {v : α} {s : St} {d : β} {K : α → St → Option ((Nat × β) × St)} (h : c ≠ 0) : OX (some ((c, v), s)) d K = some ((c, d), s) := if_neg h
theorem pu_BND {α : Type} {i n : Nat} {K : Option α} (h : i < n) (hn : n < 2 ^ 31) : BND (nI i) n K = K := if_neg (nI_in h hn)
theorem pu_NZ {α : Type} {i : Nat} {K : Option α} (h : 0 < i) (hn : i < 2 ^ 31) : NZ (nI i) K = K := if_neg (nI_ne0 h hn)
theorem pu_BL {α : Type} {i : Nat} {K : Option α} (h : i ≤ 1) : BL (nI i) K = K := by
  unfold BL
  rw [if_pos]
  rcases (show i = 0 ∨ i = 1 by omega) with rfl | rfl
  · exact Or.inl rfl
  · exact Or.inr rfl
theorem pu_eq {a b : Nat} (h : a = b) : (nI a = nI b) = True := by rw [h]; exact eq_self _
theorem pu_ne {a b : Nat} (h : a ≠ b) (ha : a < 2 ^ 31) (hb : b < 2 ^ 31) : (nI a = nI b) = False := eq_false fun q => h ((nI_eq ha hb).mp q)
theorem pu_le_t {a b : Nat} (h : a ≤ b) (hb : b < 2 ^ 31) : (nI a ≤ nI b) = True := eq_true (nI_le h hb)
theorem pu_le_f {a b : Nat} (h : b < a) (ha : a < 2 ^ 31) : (nI a ≤ nI b) = False := eq_false (nI_ge h ha)
theorem pu_lt_t {a b : Nat} (h : a < b) (hb : b < 2 ^ 31) : (nI a < nI b) = True := eq_true (nI_lt h hb)
theorem pu_lt_f {a b : Nat} (h : b ≤ a) (ha : a < 2 ^ 31) : (nI a < nI b) = False := eq_false (nI_nlt h ha)
theorem mI_toInt : mI.toInt = -1 := by decide +kernel
theorem pu_nm {a : Nat} (ha : a < 2 ^ 31) : (nI a = mI) = False := eq_false fun q => by
  have h := congrArg Int32.toInt q
  rw [nI_toInt ha, mI_toInt] at h
  omega
theorem pu_mn {a : Nat} (ha : a < 2 ^ 31) : (mI = nI a) = False := eq_false fun q => by
  have h := congrArg Int32.toInt q
  rw [nI_toInt ha, mI_toInt] at h
  omega
theorem pu_mm : (mI = mI) = True := eq_self _
theorem pu_u2e {σ : St} {k j c d : Nat} {v : Int32} (h : c = k ∧ d = j) : u2 σ k j v c d = v := by
  obtain ⟨rfl, rfl⟩ := h
  unfold u2 va_up upd
  rw [if_pos rfl, if_pos rfl]
theorem pu_u2n {σ : St} {k j c d : Nat} {v : Int32} (h : c ≠ k ∨ d ≠ j) : u2 σ k j v c d = σ c d := by
  unfold u2 va_up upd
  by_cases hc : c = k
  · subst hc
    rw [if_pos rfl, if_neg (by omega)]
  · rw [if_neg hc]
theorem pu_u2r {σ : St} {k j c : Nat} {v : Int32} (h : c ≠ k) : u2 σ k j v c = σ c := by
  unfold u2 va_up
  rw [if_neg h]
theorem pu_upe {α : Type} {f : Nat → α} {k c : Nat} {v : α} (h : c = k) : va_up f k v c = v := by subst h; exact if_pos rfl
theorem pu_upn {α : Type} {f : Nat → α} {k c : Nat} {v : α} (h : c ≠ k) : va_up f k v c = f c := if_neg h
-- ===== sums over a stretch of indices =====
def sumF (f : Nat → Nat) : Nat → Nat → Nat
  | _, 0 => 0
  | i, d + 1 => f i + sumF f (i + 1) d
theorem sumF_S (f : Nat → Nat) (i d : Nat) : sumF f i (d + 1) = f i + sumF f (i + 1) d := rfl
theorem sumF_0 (f : Nat → Nat) (i : Nat) : sumF f i 0 = 0 := rfl
theorem sumF_congr {f g : Nat → Nat} {d : Nat} : ∀ {i : Nat}, (∀ j, i ≤ j → j < i + d → f j = g j) → sumF f i d = sumF g i d := by
  induction d with
  | zero => intro i _; rfl
  | succ d ih =>
    intro i h
    rw [sumF_S, sumF_S, h i (by omega) (by omega), ih (fun j h1 h2 => h j (by omega) (by omega))]
theorem sumF_shift {f : Nat → Nat} {d : Nat} : ∀ {i : Nat}, sumF f (i + 1) d = sumF (fun j => f (j + 1)) i d := by
  induction d with
  | zero => intro i; rfl
  | succ d ih =>
    intro i
    rw [sumF_S, sumF_S, ih]
theorem sumF_le {f : Nat → Nat} {M d : Nat} : ∀ {i : Nat}, (∀ j, i ≤ j → j < i + d → f j ≤ M) → sumF f i d ≤ M * d := by
  induction d with
  | zero => intro i _; exact Nat.zero_le _
  | succ d ih =>
    intro i h
    rw [sumF_S, Nat.mul_succ]
    have h1 := h i (by omega) (by omega)
    have h2 := ih (i := i + 1) (fun j h1 h2 => h j (by omega) (by omega))
    omega
theorem sumF_upd {f g : Nat → Nat} {k v d : Nat} : ∀ {i : Nat}, i ≤ k → k < i + d → (∀ j, i ≤ j → j < i + d → j ≠ k → g j = f j) → g k = f k + v → sumF g i d = sumF f i d + v := by
  induction d with
  | zero => intro i h1 h2; omega
  | succ d ih =>
    intro i h1 h2 h3 h4
    rw [sumF_S, sumF_S]
    by_cases e : i = k
    · subst e
      rw [h4, sumF_congr (g := f) (fun j q1 q2 => h3 j (by omega) (by omega) (by omega))]
      omega
    · rw [h3 i (by omega) (by omega) e, ih (by omega) (by omega) (fun j q1 q2 q3 => h3 j (by omega) (by omega) q3) h4]
      omega
theorem sumF_same {f g : Nat → Nat} {d i : Nat} (h : ∀ j, i ≤ j → j < i + d → g j = f j) : sumF g i d = sumF f i d := sumF_congr h
theorem sumF_countP {α : Type} (q : α → Bool) (z : α) (L : List α) : sumF (fun j => if q (L.getD j z) then 1 else 0) 0 L.length = L.countP q := by
  induction L with
  | nil => rfl
  | cons a L ih =>
    rw [List.length_cons, sumF_S, sumF_shift, List.countP_cons, ← ih]
    simp only [List.getD_cons_zero, List.getD_cons_succ]
    exact Nat.add_comm _ _
-- ===== updates of rows of numbers =====
def upN (f : Nat → Nat) (k v : Nat) : Nat → Nat := fun j => if j = k then v else f j
theorem upN_e {f : Nat → Nat} {k j v : Nat} (h : j = k) : upN f k v j = v := if_pos h
theorem upN_n {f : Nat → Nat} {k j v : Nat} (h : j ≠ k) : upN f k v j = f j := if_neg h

