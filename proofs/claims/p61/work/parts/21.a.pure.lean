-- ===== the abstract mill: a row of numbers sc (the reference's own places) and the list L of its noises =====
abbrev E4 : Type := Nat × Nat × Nat × Nat
def z4 : E4 := (0, 0, 0, 0)
/-- a wheel holds the noise n -/
def hb (sc : Nat → Nat) (n : Nat) : Bool := sc 13 == n + 1 || (sc 14 == n + 1 || sc 15 == n + 1)
def wt (sc : Nat → Nat) (e : E4) : Bool := !hb sc e.1
/-- one noise comes before another -/
def bef (o e : E4) : Bool := decide (e.2.2.1 < o.2.2.1) || (e.2.2.1 == o.2.2.1 && decide (o.1 < e.1))
theorem hb_t {sc : Nat → Nat} {n : Nat} : hb sc n = true ↔ (sc 13 = n + 1 ∨ sc 14 = n + 1 ∨ sc 15 = n + 1) := by simp [hb]
theorem hb_f {sc : Nat → Nat} {n : Nat} : hb sc n = false ↔ (sc 13 ≠ n + 1 ∧ sc 14 ≠ n + 1 ∧ sc 15 ≠ n + 1) := by simp [hb]
theorem wt_t {sc : Nat → Nat} {e : E4} : wt sc e = true ↔ (sc 13 ≠ e.1 + 1 ∧ sc 14 ≠ e.1 + 1 ∧ sc 15 ≠ e.1 + 1) := by simp [wt, hb]
theorem wt_f {sc : Nat → Nat} {e : E4} : wt sc e = false ↔ (sc 13 = e.1 + 1 ∨ sc 14 = e.1 + 1 ∨ sc 15 = e.1 + 1) := by
  rw [← Bool.not_eq_true, wt_t]
  omega
theorem bef_t {o e : E4} : bef o e = true ↔ (e.2.2.1 < o.2.2.1 ∨ e.2.2.1 = o.2.2.1 ∧ o.1 < e.1) := by simp [bef]
abbrev nzf (sc : Nat → Nat) : Nat → Nat := fun w => if sc (13 + w) = 0 then 0 else 1
/-- the noises' bounds and those of the wheels that hold them -/
def IN (sc : Nat → Nat) (L : List E4) : Prop :=
  (L.map (·.1)).Nodup ∧ (∀ e ∈ L, e.1 < sc 1 ∧ e.2.1 < 8 ∧ 1 ≤ e.2.2.1 ∧ e.2.2.1 ≤ 9 ∧ 1 ≤ e.2.2.2 ∧ e.2.2.2 ≤ 60) ∧ L.countP (wt sc) ≤ 12 ∧ (∀ w, w < 3 → sc (13 + w) = 0 ∨ ∃ e ∈ L, sc (13 + w) = e.1 + 1) ∧ (∀ w v, w < 3 → v < 3 → w ≠ v → sc (13 + w) = 0 ∨ sc (13 + w) ≠ sc (13 + v)) ∧ L.length ≤ L.countP (wt sc) + sumF (nzf sc) 0 3
/-- the scalars' bounds: time, next number, accounts; u wheels have still to act in this step -/
def IS (sc : Nat → Nat) (u T N : Nat) : Prop :=
  (sc 0 ≤ T ∧ sc 1 ≤ N ∧ sc 3 + 10 * u ≤ 30 * sc 0 ∧ sc 6 + u ≤ 3 * sc 0) ∧ (∀ w, w < 3 → 1 ≤ sc (7 + w) ∧ sc (7 + w) ≤ 5 ∧ sc (10 + w) ≤ 16) ∧ (∀ b, b < 8 → sc (16 + b) ≤ 9 ∧ sc (64 + b) ≤ 1) ∧ (∀ g, g < 4 → sc (28 + g) ≤ 139 ∧ sc (28 + g) + 20 * sc (24 + g) = sumF (fun b => sc (32 + 4 * b + g)) 0 8) ∧ sc 3 = sumF (fun r => sc (32 + r)) 0 32 + sc 4 + sc 5
/-- where a scalar lies in a mill of the class: cell and place -/
def lcT : List Nat := [0, 1, 0, 7, 7, 7, 12] ++ List.replicate 3 16 ++ List.replicate 3 17 ++ List.replicate 3 0 ++ List.replicate 8 18 ++ List.replicate 4 9 ++ List.replicate 4 8 ++ List.replicate 32 10 ++ List.replicate 8 11 ++ List.replicate 60 0 ++ List.replicate 8 13 ++ List.replicate 8 14 ++ List.replicate 8 15
def liT : List Nat := [6, 6, 0, 4, 5, 6, 3] ++ List.range 3 ++ List.range 3 ++ List.replicate 3 0 ++ List.range 8 ++ List.range 4 ++ List.range 4 ++ List.range 32 ++ List.range 8 ++ List.replicate 60 0 ++ List.range 8 ++ List.range 8 ++ List.range 8
def lc (j : Nat) : Nat := lcT.getD j 0
def li (j : Nat) : Nat := liT.getD j 0
def scOk (j : Nat) : Bool := decide (j < 156) && (decide (j < 2) || (decide (2 < j) && decide (j < 13)) || (decide (15 < j) && decide (j < 72)) || decide (132 ≤ j))
theorem scOk_t {j : Nat} : scOk j = true ↔ (j < 156 ∧ j ≠ 2 ∧ (j < 13 ∨ 15 < j) ∧ (j < 72 ∨ 132 ≤ j)) := by
  simp [scOk]
  omega
theorem l_inj1 : ((List.range 156).all fun i => (List.range 156).all fun j => !(scOk i && (scOk j && (lc i == lc j && li i == li j))) || i == j) = true := by decide +kernel
theorem l_inj0 (i : Nat) (hi : i < 156) (j : Nat) (hj : j < 156) (h1 : scOk i = true) (h2 : scOk j = true) (h3 : lc i = lc j) (h4 : li i = li j) : i = j := by
  have h := List.all_eq_true.mp (List.all_eq_true.mp l_inj1 i (List.mem_range.mpr hi)) j (List.mem_range.mpr hj)
  rw [h1, h2, h3, h4, beq_self_eq_true, beq_self_eq_true] at h
  exact beq_iff_eq.mp h
def SR (σ : St) (k : Nat) (sc : Nat → Nat) : Prop := ∀ j, scOk j = true → σ (k + lc j) (li j) = nI (sc j)
def slotE (σ : St) (n q : Nat) (e : E4) : Prop := σ (n + 1) q = nI e.1 ∧ σ (n + 2) q = nI e.2.1 ∧ σ (n + 3) q = nI e.2.2.1 ∧ σ (n + 4) q = nI e.2.2.2
def hflag (n : Nat) : Nat := if n = 0 then 0 else 1
/-- a mill's noises: the waiting slots in some order W, the wheels' slots -/
def NRW (σ : St) (n : Nat) (sc : Nat → Nat) (L W : List E4) : Prop := W.Perm (L.filter (wt sc)) ∧ σ n 5 = nI W.length ∧ (∀ q, q < W.length → slotE σ n q (W.getD q z4)) ∧ ∀ w, w < 3 → σ (n + 5) w = nI (hflag (sc (13 + w))) ∧ ∀ e ∈ L, sc (13 + w) = e.1 + 1 → slotE σ n (12 + w) e
def NR (σ : St) (n : Nat) (sc : Nat → Nat) (L : List E4) : Prop := ∃ W : List E4, NRW σ n sc L W
theorem SR.get {σ : St} {k j : Nat} {sc : Nat → Nat} (h : SR σ k sc) (hj : scOk j = true) {c q : Nat} (hc : lc j = c) (hq : li j = q) : σ (k + c) q = nI (sc j) := by
  subst hc
  subst hq
  exact h j hj
theorem SR.upd {σ : St} {k j v c q c9 : Nat} {x : Int32} {sc : Nat → Nat} (h : SR σ k sc) (hj : scOk j = true) (hc : lc j = c) (hq : li j = q) (hx : x = nI v) (h9 : c9 = k + c) : SR (u2 σ c9 q x) k (upN sc j v) := by
  subst hc
  subst hq
  subst hx
  subst h9
  intro i hi
  by_cases e : i = j
  · subst e
    rw [upN_e rfl, pu_u2e ⟨rfl, rfl⟩]
  · rw [upN_n e, pu_u2n, h i hi]
    by_cases e1 : lc i = lc j
    · exact Or.inr fun e2 => e (l_inj0 i (scOk_t.mp hi).1 j (scOk_t.mp hj).1 hi hj e1 e2)
    · exact Or.inl fun e2 => e1 (Nat.add_left_cancel e2)
theorem l_off0 : ∀ j, j < 156 → scOk j = true → (lc j = 1 → li j = 6) ∧ ¬ (2 ≤ lc j ∧ lc j ≤ 6) ∧ lc j < 19 := by decide +kernel
/-- a write into the noises' cells leaves the scalars -/
theorem SR.off {σ : St} {k c q c9 : Nat} {x : Int32} {sc : Nat → Nat} (h : SR σ k sc) (hc : c = 1 ∧ q ≠ 6 ∨ 2 ≤ c ∧ c ≤ 6) (h9 : c9 = k + c) : SR (u2 σ c9 q x) k sc := by
  subst h9
  intro i hi
  have h1 := l_off0 i (scOk_t.mp hi).1 hi
  rw [pu_u2n, h i hi]
  by_cases e : lc i = c
  · refine Or.inr fun e2 => ?_
    rcases hc with ⟨hc, hq⟩ | hc
    · exact hq (e2 ▸ h1.1 (e.trans hc))
    · exact h1.2.1 (by omega)
  · exact Or.inl fun e2 => e (Nat.add_left_cancel e2)
theorem SR.congr {σ τ : St} {k : Nat} {sc : Nat → Nat} (h : SR σ k sc) (hc : ∀ c, c < 19 → τ (k + c) = σ (k + c)) : SR τ k sc := by
  intro i hi
  rw [hc _ (l_off0 i (scOk_t.mp hi).1 hi).2.2, h i hi]
theorem SR.sc {σ : St} {k : Nat} {sc sd : Nat → Nat} (h : SR σ k sc) (he : ∀ j, scOk j = true → sd j = sc j) : SR σ k sd := fun i hi => by rw [he i hi, h i hi]
theorem NRW.congr {σ τ : St} {n : Nat} {sc sd : Nat → Nat} {L W : List E4} (h : NRW σ n sc L W) (hw : τ n 5 = σ n 5) (hc : ∀ c, 1 ≤ c → c ≤ 5 → τ (n + c) = σ (n + c)) (he : ∀ w, w < 3 → sd (13 + w) = sc (13 + w)) : NRW τ n sd L W := by
  have hwt : wt sd = wt sc := by
    funext e
    unfold wt hb
    rw [show sd 13 = sc 13 from he 0 (by omega), show sd 14 = sc 14 from he 1 (by omega), show sd 15 = sc 15 from he 2 (by omega)]
  have hsl : ∀ q e, slotE σ n q e → slotE τ n q e := fun q e ⟨h1, h2, h3, h4⟩ => ⟨by rw [hc 1 (by omega) (by omega), h1], by rw [hc 2 (by omega) (by omega), h2], by rw [hc 3 (by omega) (by omega), h3], by rw [hc 4 (by omega) (by omega), h4]⟩
  obtain ⟨h1, h2, h3, h4⟩ := h
  refine ⟨by rw [hwt]; exact h1, by rw [hw, h2], fun q hq => hsl _ _ (h3 q hq), fun w hw3 => ?_⟩
  rw [he w hw3, hc 5 (by omega) (by omega)]
  exact ⟨(h4 w hw3).1, fun e h5 h6 => hsl _ _ ((h4 w hw3).2 e h5 h6)⟩
-- the places of the scalars
theorem lc_gear {w : Nat} (h : w < 3) : scOk (7 + w) = true ∧ lc (7 + w) = 16 ∧ li (7 + w) = w := by
  rcases (show w = 0 ∨ w = 1 ∨ w = 2 by omega) with rfl | rfl | rfl <;> exact ⟨rfl, rfl, rfl⟩
theorem lc_wear {w : Nat} (h : w < 3) : scOk (10 + w) = true ∧ lc (10 + w) = 17 ∧ li (10 + w) = w := by
  rcases (show w = 0 ∨ w = 1 ∨ w = 2 by omega) with rfl | rfl | rfl <;> exact ⟨rfl, rfl, rfl⟩
theorem lc_all : (∀ b, b < 8 → scOk (16 + b) = true ∧ lc (16 + b) = 18 ∧ li (16 + b) = b) ∧ (∀ b, b < 4 → scOk (24 + b) = true ∧ lc (24 + b) = 9 ∧ li (24 + b) = b) ∧ (∀ b, b < 4 → scOk (28 + b) = true ∧ lc (28 + b) = 8 ∧ li (28 + b) = b) ∧ (∀ b, b < 32 → scOk (32 + b) = true ∧ lc (32 + b) = 10 ∧ li (32 + b) = b) ∧ (∀ b, b < 8 → scOk (64 + b) = true ∧ lc (64 + b) = 11 ∧ li (64 + b) = b) ∧ (∀ b, b < 8 → scOk (132 + b) = true ∧ lc (132 + b) = 13 ∧ li (132 + b) = b) ∧ (∀ b, b < 8 → scOk (140 + b) = true ∧ lc (140 + b) = 14 ∧ li (140 + b) = b) ∧ (∀ b, b < 8 → scOk (148 + b) = true ∧ lc (148 + b) = 15 ∧ li (148 + b) = b) := by decide +kernel
theorem SR.gear {σ : St} {k w : Nat} {sc : Nat → Nat} (h : SR σ k sc) (hw : w < 3) : σ (k + 16) w = nI (sc (7 + w)) := h.get (lc_gear hw).1 (lc_gear hw).2.1 (lc_gear hw).2.2
theorem SR.wear {σ : St} {k w : Nat} {sc : Nat → Nat} (h : SR σ k sc) (hw : w < 3) : σ (k + 17) w = nI (sc (10 + w)) := h.get (lc_wear hw).1 (lc_wear hw).2.1 (lc_wear hw).2.2
theorem SR.mesh {σ : St} {k w : Nat} {sc : Nat → Nat} (h : SR σ k sc) (hw : w < 8) : σ (k + 18) w = nI (sc (16 + w)) := by have a := lc_all.1 w hw; exact h.get a.1 a.2.1 a.2.2
theorem SR.shipped {σ : St} {k w : Nat} {sc : Nat → Nat} (h : SR σ k sc) (hw : w < 4) : σ (k + 7 + 2) w = nI (sc (24 + w)) := by have a := lc_all.2.1 w hw; exact h.get a.1 a.2.1 a.2.2
theorem SR.flour {σ : St} {k w : Nat} {sc : Nat → Nat} (h : SR σ k sc) (hw : w < 4) : σ (k + 7 + 1) w = nI (sc (28 + w)) := by have a := lc_all.2.2.1 w hw; exact h.get a.1 a.2.1 a.2.2
theorem SR.rec {σ : St} {k w : Nat} {sc : Nat → Nat} (h : SR σ k sc) (hw : w < 32) : σ (k + 7 + 3) w = nI (sc (32 + w)) := by have a := lc_all.2.2.2.1 w hw; exact h.get a.1 a.2.1 a.2.2
theorem SR.touched {σ : St} {k w : Nat} {sc : Nat → Nat} (h : SR σ k sc) (hw : w < 8) : σ (k + 7 + 4) w = nI (sc (64 + w)) := by have a := lc_all.2.2.2.2.1 w hw; exact h.get a.1 a.2.1 a.2.2
theorem SR.logN {σ : St} {k w : Nat} {sc : Nat → Nat} (h : SR σ k sc) (hw : w < 8) : σ (k + 12 + 1) w = nI (sc (132 + w)) := by have a := lc_all.2.2.2.2.2.1 w hw; exact h.get a.1 a.2.1 a.2.2
theorem SR.logW {σ : St} {k w : Nat} {sc : Nat → Nat} (h : SR σ k sc) (hw : w < 8) : σ (k + 12 + 2) w = nI (sc (140 + w)) := by have a := lc_all.2.2.2.2.2.2.1 w hw; exact h.get a.1 a.2.1 a.2.2
theorem SR.logT {σ : St} {k w : Nat} {sc : Nat → Nat} (h : SR σ k sc) (hw : w < 8) : σ (k + 12 + 3) w = nI (sc (148 + w)) := by have a := lc_all.2.2.2.2.2.2.2 w hw; exact h.get a.1 a.2.1 a.2.2
theorem SR.time {σ : St} {k : Nat} {sc : Nat → Nat} (h : SR σ k sc) : σ k 6 = nI (sc 0) := h.get (j := 0) (c := 0) rfl rfl rfl
theorem SR.next {σ : St} {k : Nat} {sc : Nat → Nat} (h : SR σ k sc) : σ (k + 1) 6 = nI (sc 1) := h.get (j := 1) rfl rfl rfl
theorem SR.ground {σ : St} {k : Nat} {sc : Nat → Nat} (h : SR σ k sc) : σ (k + 7) 4 = nI (sc 3) := h.get (j := 3) rfl rfl rfl
theorem SR.sieved {σ : St} {k : Nat} {sc : Nat → Nat} (h : SR σ k sc) : σ (k + 7) 5 = nI (sc 4) := h.get (j := 4) rfl rfl rfl
theorem SR.spilt {σ : St} {k : Nat} {sc : Nat → Nat} (h : SR σ k sc) : σ (k + 7) 6 = nI (sc 5) := h.get (j := 5) rfl rfl rfl
theorem SR.done {σ : St} {k : Nat} {sc : Nat → Nat} (h : SR σ k sc) : σ (k + 12) 3 = nI (sc 6) := h.get (j := 6) rfl rfl rfl
