-- ===== the reference's reads, evaluated =====
theorem IN.len {sc : Nat → Nat} {L : List E4} (h : IN sc L) : L.length ≤ 15 := by
  obtain ⟨-, -, h1, -, -, h2⟩ := h
  have h3 : sumF (nzf sc) 0 3 ≤ 1 * 3 := sumF_le fun j _ _ => by
    show (if sc (13 + j) = 0 then 0 else 1) ≤ 1
    split <;> omega
  omega
theorem IN.held {sc : Nat → Nat} {L : List E4} (h : IN sc L) {w : Nat} (hw : w < 3) : sc (13 + w) ≤ sc 1 := by
  rcases h.2.2.2.1 w hw with h1 | ⟨e, he, h1⟩
  · omega
  · have := (h.2.1 e he).1
    omega
theorem IN.held3 {sc : Nat → Nat} {L : List E4} (h : IN sc L) : sc 13 ≤ sc 1 ∧ sc 14 ≤ sc 1 ∧ sc 15 ≤ sc 1 := ⟨h.held (w := 0) (by omega), h.held (w := 1) (by omega), h.held (w := 2) (by omega)⟩
theorem getD_mem {L : List E4} {p : Nat} (h : p < L.length) : L.getD p z4 ∈ L := by
  rw [List.getD_eq_getElem?_getD, List.getElem?_eq_getElem h]
  exact List.getElem_mem h
theorem IN.at {sc : Nat → Nat} {L : List E4} (h : IN sc L) {p : Nat} (hp : p < L.length) : (L.getD p z4).1 < sc 1 ∧ (L.getD p z4).2.1 < 8 ∧ 1 ≤ (L.getD p z4).2.2.1 ∧ (L.getD p z4).2.2.1 ≤ 9 ∧ 1 ≤ (L.getD p z4).2.2.2 ∧ (L.getD p z4).2.2.2 ≤ 60 := h.2.1 _ (getD_mem hp)
theorem nd_inj {L : List E4} (h : (L.map (·.1)).Nodup) {e f : E4} (he : e ∈ L) (hf : f ∈ L) (hn : e.1 = f.1) : e = f := by
  induction L with
  | nil => cases he
  | cons a L ih =>
    rw [List.map_cons, List.nodup_cons] at h
    rcases List.mem_cons.mp he with rfl | he1
    · rcases List.mem_cons.mp hf with rfl | hf1
      · rfl
      · exact absurd (hn ▸ List.mem_map_of_mem hf1) h.1
    · rcases List.mem_cons.mp hf with rfl | hf1
      · exact absurd (hn ▸ List.mem_map_of_mem he1) h.1
      · exact ih h.2 he1 hf1
theorem nd_ix {L : List E4} (h : (L.map (·.1)).Nodup) : ∀ {p q : Nat}, p < L.length → q < L.length → (L.getD p z4).1 = (L.getD q z4).1 → p = q := by
  induction L with
  | nil => intro p q hp; cases hp
  | cons a L ih =>
    rw [List.map_cons, List.nodup_cons] at h
    intro p q hp hq hn
    cases p with
    | zero =>
      cases q with
      | zero => rfl
      | succ q =>
        rw [List.getD_cons_zero, List.getD_cons_succ] at hn
        exact absurd (hn ▸ List.mem_map_of_mem (getD_mem (Nat.lt_of_succ_lt_succ hq))) h.1
    | succ p =>
      cases q with
      | zero =>
        rw [List.getD_cons_zero, List.getD_cons_succ] at hn
        exact absurd (hn ▸ List.mem_map_of_mem (getD_mem (Nat.lt_of_succ_lt_succ hp))) h.1
      | succ q =>
        rw [List.getD_cons_succ, List.getD_cons_succ] at hn
        rw [ih h.2 (Nat.lt_of_succ_lt_succ hp) (Nat.lt_of_succ_lt_succ hq) hn]
theorem mem_getD {L : List E4} {e : E4} (h : e ∈ L) : ∃ p, p < L.length ∧ L.getD p z4 = e := by
  obtain ⟨p, hp, he⟩ := List.getElem_of_mem h
  exact ⟨p, hp, by rw [List.getD_eq_getElem?_getD, List.getElem?_eq_getElem hp]; exact he⟩
-- a difference that is below 0
theorem pu_sn1 {a b : Nat} (h : a < b) (hb : b < 2 ^ 30) : (nI 0 < nI a - nI b) = False := eq_false fun q => by
  have h1 := pk_sneg hb h
  rw [Int32.lt_iff_toInt_lt] at h1 q
  rw [nI_toInt (by omega)] at q
  rw [Int32.toInt_zero] at h1
  omega
theorem pu_sn2 {a b : Nat} (h : a < b) (hb : b < 2 ^ 30) : (nI a - nI b = nI 0) = False := eq_false fun q => by
  have h1 := pk_sneg hb h
  rw [q] at h1
  exact absurd h1 (by decide +kernel)
def hwI (sc : Nat → Nat) (n : Nat) : Int32 := if sc 13 = n + 1 then nI 0 else if sc 14 = n + 1 then nI 1 else if sc 15 = n + 1 then nI 2 else mI
section RF
variable {s : St} {sc : Nat → Nat} {L : List E4} {m : Nat}
end RF

