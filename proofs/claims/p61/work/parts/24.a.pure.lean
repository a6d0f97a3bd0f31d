-- ===== the reference's reads that look noises up =====
section RF
variable {s : St} {sc : Nat → Nat} {L : List E4} {m : Nat}
/-- how many waiting noises come before e -/
def rk (sc : Nat → Nat) (L : List E4) (e : E4) : Nat := L.countP (fun o => wt sc o && bef o e)
/-- ranks of waiting noises differ -/
theorem rk_lt {e f : E4} (he : e ∈ L) (hw : wt sc e = true) (h : bef e f = true) : rk sc L e < rk sc L f := by
  obtain ⟨i, hi, rfl⟩ := mem_getD he
  have hp := er_perm hi
  unfold rk
  rw [hp.countP_eq, hp.countP_eq, List.countP_cons, List.countP_cons, if_neg (by simp [bef]), if_pos (by rw [hw, h]; rfl)]
  have : (L.eraseIdx i).countP (fun o => wt sc o && bef o (L.getD i z4)) ≤ (L.eraseIdx i).countP (fun o => wt sc o && bef o f) := List.countP_mono_left fun o _ ho => by
    rw [Bool.and_eq_true] at ho ⊢
    refine ⟨ho.1, ?_⟩
    have h1 := bef_t.mp ho.2
    have h2 := bef_t.mp h
    rw [bef_t]
    omega
  omega
theorem bef_tri {e f : E4} (h : e.1 ≠ f.1) : bef e f = true ∨ bef f e = true := by
  rw [bef_t, bef_t]
  omega
theorem rk_inj (hn : (L.map (·.1)).Nodup) {e f : E4} (he : e ∈ L) (hf : f ∈ L) (hwe : wt sc e = true) (hwf : wt sc f = true) (h : rk sc L e = rk sc L f) : e = f := by
  by_cases c : e.1 = f.1
  · exact nd_inj hn he hf c
  · rcases bef_tri c with q | q
    · have := rk_lt he hwe q
      omega
    · have := rk_lt hf hwf q
      omega
theorem rk_le {e : E4} : rk sc L e ≤ L.length := List.countP_le_length
end RF

