-- ===== the mill's step =====
theorem SR.of {σ τ : St} {k : Nat} {sc : Nat → Nat} (h : SR σ k sc) (hc : ∀ c, c = 0 ∨ 7 ≤ c ∧ c < 19 → τ (k + c) = σ (k + c)) (h6 : τ (k + 1) 6 = σ (k + 1) 6) : SR τ k sc := by
  intro j hj
  have h1 := l_off0 j (scOk_t.mp hj).1 hj
  by_cases c : lc j = 1
  · rw [c, h1.1 c, h6, ← h j hj, c, h1.1 c]
  · rw [hc (lc j) (by omega), h j hj]
section CL
variable {σ : St} {k n m : Nat} {sc : Nat → Nat} {L W : List E4}
theorem cl_receive {b gr : Nat} (hS : SR σ k sc) (hb9 : b < 8) (h1 : sc (16 + b) ≤ 9) (h2 : sc (28 + saG sc b) ≤ 139) (h3 : gr ≤ 60) (h4 : sc 3 < 2 ^ 30) :
    fX9_receive (k + 7) (nI b) (nI (sc (16 + b))) (nI gr) σ = some (nI 0, u2 (u2 (u2 (u2 (u2 (u2 σ (k + 7) 4 (nI (sc 3 + gr))) (k + 7 + 4) b (nI 1)) (k + 7) 5 (nI (sc 4 + saL sc b gr))) (k + 7) 6 (nI (sc 5 + (gr - saL sc b gr - saS sc b gr)))) (k + 7 + 1) (saG sc b) (nI (sc (28 + saG sc b) + saS sc b gr))) (k + 7 + 3) (4 * b + saG sc b) (nI (sc (32 + 4 * b + saG sc b) + saS sc b gr))) := by
  have bd := sa_bd h1 h2 h3
  have e6 : nI (gr * sc (16 + b)) / nI 10 = nI (saL sc b gr) := pk_div (by omega) (by omega) (by omega)
  have e7 : nI (sc (16 + b)) / nI 3 = nI (saG sc b) := pk_div (by omega) (by omega) (by omega)
  have e28 := hS.flour bd.1
  have e3 := hS.ground
  have e4 := hS.sieved
  have e5 := hS.spilt
  have e32 := hS.rec (show 4 * b + saG sc b < 32 by omega)
  rw [← Nat.add_assoc] at e32
  have e9 : nI (b * 4 + saG sc b) = nI (4 * b + saG sc b) := by rw [Nat.mul_comm]
  have e8 : (if 139 - sc (28 + saG sc b) < gr - saL sc b gr then 139 - sc (28 + saG sc b) else gr - saL sc b gr) = saS sc b gr := by
    unfold saS
    split <;> split <;> omega
  have e10 : vp_nar .boolean (nI 1) = nI 1 := rfl
  have e11 : ∀ τ : St, fX9_row (nI b) (nI (saG sc b)) τ = some (nI (4 * b + saG sc b), τ) := fun τ => by
    unfold fX9_row
    simp (disch := omega) only [pu_OB, pu_LET, pu_OX0, pu_BND, pu_NZ, pu_BL, pu_m1, nI_add, pk_sub, pk_mul, pk_div, nI_clamp, pu_eq, pu_ne, pu_le_t, pu_le_f, pu_lt_t, pu_lt_f, pu_nm, pu_mm, pu_u2e, pu_u2n, ↓reduceIte, li0, li1, li2, li3, li4, li5, li6, li7, li8, li9, li10, li11, li12, li13, li14, li15, li16, li17, li18, li19, li20, li21, li22, li23, li24, li25, li26, li27, li28, li29, li30, li31, li32, li33, li34, li35, li36, li37, li38, li39, li40, li41, li42, li43, li44, li45, li46, li47, li48, li49, li50, li51, li52, li53, li54, li55, li56, li57, li58, li59, li60, li64, li72, li87, li97, li98, li99, li100, li101, li102, li103, li104, li105, li108, li109, li110, li111, li112, li114, li115, li116, li117, li119, li120, li124, li126, li132, li139, li140, li148, li156, li1000, li1092, li1248, e9]
  unfold fX9_receive
  simp (disch := omega) only [pu_OB, pu_LET, pu_OX0, pu_BND, pu_NZ, pu_BL, pu_m1, nI_add, pk_sub, pk_mul, pk_div, nI_clamp, pu_eq, pu_ne, pu_le_t, pu_le_f, pu_lt_t, pu_lt_f, pu_nm, pu_mm, pu_u2e, pu_u2n, ↓reduceIte, li0, li1, li2, li3, li4, li5, li6, li7, li8, li9, li10, li11, li12, li13, li14, li15, li16, li17, li18, li19, li20, li21, li22, li23, li24, li25, li26, li27, li28, li29, li30, li31, li32, li33, li34, li35, li36, li37, li38, li39, li40, li41, li42, li43, li44, li45, li46, li47, li48, li49, li50, li51, li52, li53, li54, li55, li56, li57, li58, li59, li60, li64, li72, li87, li97, li98, li99, li100, li101, li102, li103, li104, li105, li108, li109, li110, li111, li112, li114, li115, li116, li117, li119, li120, li124, li126, li132, li139, li140, li148, li156, li1000, li1092, li1248, e6, e7, e28, cl_min, e8, e3, e4, e5, e10, e11, e32]
theorem cl_remember {a b c : Int32} (hS : SR σ k sc) (h6 : sc 6 < 2 ^ 30) : fX5_remember (k + 12) a b c σ = some (nI 0, u2 (u2 (u2 (u2 σ (k + 12 + 1) (sc 6 % 8) a) (k + 12 + 2) (sc 6 % 8) b) (k + 12 + 3) (sc 6 % 8) c) (k + 12) 3 (nI (sc 6 + 1))) := by
  have q6 : sc 6 % 8 < 8 := Nat.mod_lt _ (by omega)
  have e1 := hS.done
  unfold fX5_remember
  simp (disch := omega) only [pu_OB, pu_LET, pu_OX0, pu_BND, pu_NZ, pu_BL, pu_m1, nI_add, pk_sub, pk_mul, pk_div, nI_clamp, pu_eq, pu_ne, pu_le_t, pu_le_f, pu_lt_t, pu_lt_f, pu_nm, pu_mm, pu_u2e, pu_u2n, ↓reduceIte, li0, li1, li2, li3, li4, li5, li6, li7, li8, li9, li10, li11, li12, li13, li14, li15, li16, li17, li18, li19, li20, li21, li22, li23, li24, li25, li26, li27, li28, li29, li30, li31, li32, li33, li34, li35, li36, li37, li38, li39, li40, li41, li42, li43, li44, li45, li46, li47, li48, li49, li50, li51, li52, li53, li54, li55, li56, li57, li58, li59, li60, li64, li72, li87, li97, li98, li99, li100, li101, li102, li103, li104, li105, li108, li109, li110, li111, li112, li114, li115, li116, li117, li119, li120, li124, li126, li132, li139, li140, li148, li156, li1000, li1092, li1248, e1, cl_floorMod]
/-- one wheel that holds a noise grinds -/
theorem cl_grind {A : AM} {u T N w p : Nat} (hS : SR σ k A.1) (hn : NRW σ (k + 1) A.1 A.2 W) (hI : IN A.1 A.2) (hs : IS A.1 (u + 1) T N) (hT : T < 10 ^ 7) (hNN : N < 10 ^ 7) (hw : w < 3) (hj : A.1 (10 + w) < 12) (hp : p < A.2.length) (hh : A.1 (13 + w) = (A.2.getD p z4).1 + 1) :
    ∃ τ, fX6_grind k (nI w) σ = some (nI (grA A.1 w (A.2.getD p z4)), τ) ∧ SR τ k (spGrind A w p).1 ∧ NRW τ (k + 1) (spGrind A w p).1 (spGrind A w p).2 W ∧ ∀ c, c < k ∨ k + 19 ≤ c → τ c = σ c := by
  have he := hI.at hp
  have hb1 := hs.1
  have hg := hs.2.1 w hw
  have hm9 := (hs.2.2.1 _ he.2.1).1
  have hsl := (hn.2.2.2 w hw).2 _ (getD_mem hp) hh
  have e7 := hS.gear hw
  have e10 := hS.wear hw
  have e18 := hS.mesh he.2.1
  have hgr : grA A.1 w (A.2.getD p z4) ≤ 10 ∧ grA A.1 w (A.2.getD p z4) ≤ (A.2.getD p z4).2.2.2 := by
    unfold grA
    split <;> omega
  have hG : saG (gdSc A.1 w (A.2.getD p z4)) (A.2.getD p z4).2.1 < 4 := by
    unfold saG
    rw [gdSc_o (by omega)]
    omega
  have hIS := IS_grind (e := A.2.getD p z4) hs hw hj he.2.1
  -- the scalars before the sacking: what the wheel wears
  have hS1 : SR (u2 (u2 σ (k + 1 + 4) (12 + w) (nI ((A.2.getD p z4).2.2.2 - grA A.1 w (A.2.getD p z4)))) (k + 17) w (nI (A.1 (10 + w) + A.1 (7 + w)))) k (upN A.1 (10 + w) (A.1 (10 + w) + A.1 (7 + w))) := (hS.off (c := 5) (by omega) (by omega)).upd (lc_wear hw).1 (lc_wear hw).2.1 (lc_wear hw).2.2 rfl rfl
  have gm : upN A.1 (10 + w) (A.1 (10 + w) + A.1 (7 + w)) (16 + (A.2.getD p z4).2.1) = A.1 (16 + (A.2.getD p z4).2.1) := upN_n (by omega)
  have gG : saG (upN A.1 (10 + w) (A.1 (10 + w) + A.1 (7 + w))) (A.2.getD p z4).2.1 = saG (gdSc A.1 w (A.2.getD p z4)) (A.2.getD p z4).2.1 := by
    unfold saG
    rw [gm, gdSc_o (by omega)]
  have hr := cl_receive (b := (A.2.getD p z4).2.1) (gr := grA A.1 w (A.2.getD p z4)) hS1 he.2.1 (by rw [gm]; exact hm9) (by rw [gG, upN_n (by omega)]; exact (hs.2.2.2.1 _ hG).1) (by omega) (by rw [upN_n (by omega)]; omega)
  have rd : ∀ j, j ≠ 10 + w → j ≠ 3 → j ≠ 64 + (A.2.getD p z4).2.1 → upN A.1 (10 + w) (A.1 (10 + w) + A.1 (7 + w)) j = gdSc A.1 w (A.2.getD p z4) j := fun j q1 q2 q3 => by rw [upN_n q1, gdSc_o ⟨q1, q2, q3⟩]
  have gL : saL (upN A.1 (10 + w) (A.1 (10 + w) + A.1 (7 + w))) (A.2.getD p z4).2.1 (grA A.1 w (A.2.getD p z4)) = saL (gdSc A.1 w (A.2.getD p z4)) (A.2.getD p z4).2.1 (grA A.1 w (A.2.getD p z4)) := by
    unfold saL
    rw [rd _ (by omega) (by omega) (by omega)]
  have gS : saS (upN A.1 (10 + w) (A.1 (10 + w) + A.1 (7 + w))) (A.2.getD p z4).2.1 (grA A.1 w (A.2.getD p z4)) = saS (gdSc A.1 w (A.2.getD p z4)) (A.2.getD p z4).2.1 (grA A.1 w (A.2.getD p z4)) := by
    unfold saS
    rw [gG, gL, rd _ (by omega) (by omega) (by omega)]
  rw [gm, gG, gL, gS, rd 4 (by omega) (by omega) (by omega), rd 5 (by omega) (by omega) (by omega), rd (28 + _) (by omega) (by omega) (by omega), rd (32 + _ + _) (by omega) (by omega) (by omega), upN_n (show 3 ≠ 10 + w by omega)] at hr
  generalize hx1 : saG (gdSc A.1 w (A.2.getD p z4)) (A.2.getD p z4).2.1 = G at hr hG
  have l28 := lc_all.2.2.1 G hG
  have l32 := lc_all.2.2.2.1 (4 * (A.2.getD p z4).2.1 + G) (by omega)
  have l64 := lc_all.2.2.2.2.1 _ he.2.1
  have hS2 := (((((hS1.upd (j := 3) (v := A.1 3 + grA A.1 w (A.2.getD p z4)) rfl rfl rfl rfl rfl).upd (v := 1) l64.1 l64.2.1 l64.2.2 rfl (show k + 7 + 4 = k + 11 by omega)).upd (j := 4) (v := gdSc A.1 w (A.2.getD p z4) 4 + saL (gdSc A.1 w (A.2.getD p z4)) (A.2.getD p z4).2.1 (grA A.1 w (A.2.getD p z4))) rfl rfl rfl rfl rfl).upd (j := 5) (v := gdSc A.1 w (A.2.getD p z4) 5 + (grA A.1 w (A.2.getD p z4) - saL (gdSc A.1 w (A.2.getD p z4)) (A.2.getD p z4).2.1 (grA A.1 w (A.2.getD p z4)) - saS (gdSc A.1 w (A.2.getD p z4)) (A.2.getD p z4).2.1 (grA A.1 w (A.2.getD p z4)))) rfl rfl rfl rfl rfl).upd (v := gdSc A.1 w (A.2.getD p z4) (28 + G) + saS (gdSc A.1 w (A.2.getD p z4)) (A.2.getD p z4).2.1 (grA A.1 w (A.2.getD p z4))) l28.1 l28.2.1 l28.2.2 rfl (show k + 7 + 1 = k + 8 by omega)).upd (v := gdSc A.1 w (A.2.getD p z4) (32 + 4 * (A.2.getD p z4).2.1 + G) + saS (gdSc A.1 w (A.2.getD p z4)) (A.2.getD p z4).2.1 (grA A.1 w (A.2.getD p z4))) l32.1 l32.2.1 l32.2.2 rfl (show k + 7 + 3 = k + 10 by omega)
  have hsc : upN (upN (upN (upN (upN (upN (upN A.1 (10 + w) (A.1 (10 + w) + A.1 (7 + w))) 3 (A.1 3 + grA A.1 w (A.2.getD p z4))) (64 + (A.2.getD p z4).2.1) 1) 4 (gdSc A.1 w (A.2.getD p z4) 4 + saL (gdSc A.1 w (A.2.getD p z4)) (A.2.getD p z4).2.1 (grA A.1 w (A.2.getD p z4)))) 5 (gdSc A.1 w (A.2.getD p z4) 5 + (grA A.1 w (A.2.getD p z4) - saL (gdSc A.1 w (A.2.getD p z4)) (A.2.getD p z4).2.1 (grA A.1 w (A.2.getD p z4)) - saS (gdSc A.1 w (A.2.getD p z4)) (A.2.getD p z4).2.1 (grA A.1 w (A.2.getD p z4))))) (28 + G) (gdSc A.1 w (A.2.getD p z4) (28 + G) + saS (gdSc A.1 w (A.2.getD p z4)) (A.2.getD p z4).2.1 (grA A.1 w (A.2.getD p z4)))) (32 + (4 * (A.2.getD p z4).2.1 + G)) (gdSc A.1 w (A.2.getD p z4) (32 + 4 * (A.2.getD p z4).2.1 + G) + saS (gdSc A.1 w (A.2.getD p z4)) (A.2.getD p z4).2.1 (grA A.1 w (A.2.getD p z4))) = saSc (gdSc A.1 w (A.2.getD p z4)) (A.2.getD p z4).2.1 (grA A.1 w (A.2.getD p z4)) := by
    unfold saSc
    rw [hx1, ← Nat.add_assoc]
    rfl
  rw [hsc] at hS2
  have hX : ∀ j, j = 1 ∨ 13 ≤ j ∧ j < 16 → saSc (gdSc A.1 w (A.2.getD p z4)) (A.2.getD p z4).2.1 (grA A.1 w (A.2.getD p z4)) j = A.1 j := fun j q => by
    rw [saSc_o (by rw [hx1]; omega), gdSc_o (by omega)]
  obtain ⟨τ0, hr, hS2, hf, hfo⟩ : ∃ τ0, fX9_receive (k + 7) (nI (A.2.getD p z4).2.1) (nI (A.1 (16 + (A.2.getD p z4).2.1))) (nI (grA A.1 w (A.2.getD p z4))) (u2 (u2 σ (k + 1 + 4) (12 + w) (nI ((A.2.getD p z4).2.2.2 - grA A.1 w (A.2.getD p z4)))) (k + 17) w (nI (A.1 (10 + w) + A.1 (7 + w)))) = some (nI 0, τ0) ∧ SR τ0 k (saSc (gdSc A.1 w (A.2.getD p z4)) (A.2.getD p z4).2.1 (grA A.1 w (A.2.getD p z4))) ∧ (∀ c, k + 1 ≤ c → c ≤ k + 6 → τ0 c = u2 σ (k + 1 + 4) (12 + w) (nI ((A.2.getD p z4).2.2.2 - grA A.1 w (A.2.getD p z4))) c) ∧ (∀ c, c < k ∨ k + 19 ≤ c → τ0 c = σ c) :=
    ⟨_, hr, hS2, fun c h1 h2 => by rw [pu_u2r (by omega), pu_u2r (by omega), pu_u2r (by omega), pu_u2r (by omega), pu_u2r (by omega), pu_u2r (by omega), pu_u2r (by omega)], fun c hc => by rw [pu_u2r (by omega), pu_u2r (by omega), pu_u2r (by omega), pu_u2r (by omega), pu_u2r (by omega), pu_u2r (by omega), pu_u2r (by omega), pu_u2r (by omega)]⟩
  have hmin : (if (A.2.getD p z4).2.2.2 < 2 * A.1 (7 + w) then (A.2.getD p z4).2.2.2 else 2 * A.1 (7 + w)) = grA A.1 w (A.2.getD p z4) := by
    unfold grA
    split <;> split <;> omega
  have f4 : τ0 (k + 1 + 4) (12 + w) = nI ((A.2.getD p z4).2.2.2 - grA A.1 w (A.2.getD p z4)) := by rw [hf _ (by omega) (by omega), pu_u2e ⟨rfl, rfl⟩]
  have f1 : τ0 (k + 1 + 1) (12 + w) = nI (A.2.getD p z4).1 := by rw [hf _ (by omega) (by omega), pu_u2n (by omega)]; exact hsl.1
  have b2 := hsl.2.1
  have b4 := hsl.2.2.2
  have hb6 : saSc (gdSc A.1 w (A.2.getD p z4)) (A.2.getD p z4).2.1 (grA A.1 w (A.2.getD p z4)) 6 < 2 ^ 30 := by have := hIS.1.1; omega
  unfold spGrind
  by_cases c : (A.2.getD p z4).2.2.2 ≤ 2 * A.1 (7 + w)
  · rw [if_pos c]
    have hz : grA A.1 w (A.2.getD p z4) = (A.2.getD p z4).2.2.2 := if_pos c
    generalize hY : saSc (gdSc A.1 w (A.2.getD p z4)) (A.2.getD p z4).2.1 (grA A.1 w (A.2.getD p z4)) = X at hS2 hX hb6
    have q6 : X 6 % 8 < 8 := Nat.mod_lt _ (by omega)
    have e0 := hS2.time
    have er := cl_remember (σ := τ0) (a := nI (A.2.getD p z4).1) (b := nI w) (c := nI (X 0)) hS2 hb6
    refine ⟨u2 (u2 (u2 (u2 (u2 τ0 (k + 12 + 1) (X 6 % 8) (nI (A.2.getD p z4).1)) (k + 12 + 2) (X 6 % 8) (nI w)) (k + 12 + 3) (X 6 % 8) (nI (X 0))) (k + 12) 3 (nI (X 6 + 1))) (k + 1 + 5) w (nI 0), ?_, ?_, ?_, fun c hc => ?_⟩
    · have f4z : τ0 (k + 1 + 4) (12 + w) = nI 0 := by rw [f4, hz, Nat.sub_self]
      have e12 : vp_nar .boolean (nI 0) = nI 0 := rfl
      have el : ∀ τ : St, fX7_leave (k + 1) (nI w) τ = some (nI 0, u2 τ (k + 1 + 5) w (nI 0)) := fun τ => by
        unfold fX7_leave
        simp (disch := omega) only [pu_OB, pu_LET, pu_OX0, pu_BND, pu_NZ, pu_BL, pu_m1, nI_add, pk_sub, pk_mul, pk_div, nI_clamp, pu_eq, pu_ne, pu_le_t, pu_le_f, pu_lt_t, pu_lt_f, pu_nm, pu_mm, pu_u2e, pu_u2n, ↓reduceIte, li0, li1, li2, li3, li4, li5, li6, li7, li8, li9, li10, li11, li12, li13, li14, li15, li16, li17, li18, li19, li20, li21, li22, li23, li24, li25, li26, li27, li28, li29, li30, li31, li32, li33, li34, li35, li36, li37, li38, li39, li40, li41, li42, li43, li44, li45, li46, li47, li48, li49, li50, li51, li52, li53, li54, li55, li56, li57, li58, li59, li60, li64, li72, li87, li97, li98, li99, li100, li101, li102, li103, li104, li105, li108, li109, li110, li111, li112, li114, li115, li116, li117, li119, li120, li124, li126, li132, li139, li140, li148, li156, li1000, li1092, li1248, e12]
      unfold fX6_grind
      simp (disch := omega) only [pu_OB, pu_LET, pu_OX0, pu_BND, pu_NZ, pu_BL, pu_m1, nI_add, pk_sub, pk_mul, pk_div, nI_clamp, pu_eq, pu_ne, pu_le_t, pu_le_f, pu_lt_t, pu_lt_f, pu_nm, pu_mm, pu_u2e, pu_u2n, ↓reduceIte, li0, li1, li2, li3, li4, li5, li6, li7, li8, li9, li10, li11, li12, li13, li14, li15, li16, li17, li18, li19, li20, li21, li22, li23, li24, li25, li26, li27, li28, li29, li30, li31, li32, li33, li34, li35, li36, li37, li38, li39, li40, li41, li42, li43, li44, li45, li46, li47, li48, li49, li50, li51, li52, li53, li54, li55, li56, li57, li58, li59, li60, li64, li72, li87, li97, li98, li99, li100, li101, li102, li103, li104, li105, li108, li109, li110, li111, li112, li114, li115, li116, li117, li119, li120, li124, li126, li132, li139, li140, li148, li156, li1000, li1092, li1248, cl_slotOn, b2, e7, b4, cl_min, hmin, e10, e18, hr, f4z, f1, e0, er, el]
    · have l1 := lc_all.2.2.2.2.2.1 _ q6
      have l2 := lc_all.2.2.2.2.2.2.1 _ q6
      have l3 := lc_all.2.2.2.2.2.2.2 _ q6
      refine (((((hS2.upd l1.1 l1.2.1 l1.2.2 rfl (show k + 12 + 1 = k + 13 by omega)).upd l2.1 l2.2.1 l2.2.2 rfl (show k + 12 + 2 = k + 14 by omega)).upd l3.1 l3.2.1 l3.2.2 rfl (show k + 12 + 3 = k + 15 by omega)).upd (j := 6) rfl rfl rfl rfl rfl).off (c := 6) (by omega) (by omega)).sc fun j hj => ?_
      have := scOk_t.mp hj
      exact upN_n (by omega)
    · refine NRW_leave hn hI hw hh (er_perm hp) ?_ (fun c h1 h2 j hj => ?_) (fun v hv hne => ?_) (pu_u2e ⟨rfl, rfl⟩) fun v hv => ?_
      · rw [pu_u2n (by omega), pu_u2n (by omega), pu_u2n (by omega), pu_u2n (by omega), pu_u2n (by omega), hf _ (by omega) (by omega), pu_u2n (by omega)]
      · rw [pu_u2n (by omega), pu_u2n (by omega), pu_u2n (by omega), pu_u2n (by omega), pu_u2n (by omega), hf _ (by omega) (by omega), pu_u2n (by omega)]
      · rw [pu_u2n (by omega), pu_u2n (by omega), pu_u2n (by omega), pu_u2n (by omega), pu_u2n (by omega), hf _ (by omega) (by omega), pu_u2n (by omega)]
      · show fiSc X w _ (13 + v) = _
        unfold fiSc
        by_cases c9 : v = w
        · rw [upN_e (by omega), upN_e (by omega)]
        · rw [upN_n (by omega), upN_n (by omega), upN_n (by omega), upN_n (by omega), upN_n (by omega), upN_n (by omega), hX _ (by omega)]
    · rw [pu_u2r (by omega), pu_u2r (by omega), pu_u2r (by omega), pu_u2r (by omega), pu_u2r (by omega), hfo c hc]
  · rw [if_neg c]
    have hz : grA A.1 w (A.2.getD p z4) = 2 * A.1 (7 + w) := if_neg c
    refine ⟨τ0, ?_, hS2, ?_, hfo⟩
    · unfold fX6_grind
      simp (disch := omega) only [pu_OB, pu_LET, pu_OX0, pu_BND, pu_NZ, pu_BL, pu_m1, nI_add, pk_sub, pk_mul, pk_div, nI_clamp, pu_eq, pu_ne, pu_le_t, pu_le_f, pu_lt_t, pu_lt_f, pu_nm, pu_mm, pu_u2e, pu_u2n, ↓reduceIte, li0, li1, li2, li3, li4, li5, li6, li7, li8, li9, li10, li11, li12, li13, li14, li15, li16, li17, li18, li19, li20, li21, li22, li23, li24, li25, li26, li27, li28, li29, li30, li31, li32, li33, li34, li35, li36, li37, li38, li39, li40, li41, li42, li43, li44, li45, li46, li47, li48, li49, li50, li51, li52, li53, li54, li55, li56, li57, li58, li59, li60, li64, li72, li87, li97, li98, li99, li100, li101, li102, li103, li104, li105, li108, li109, li110, li111, li112, li114, li115, li116, li117, li119, li120, li124, li126, li132, li139, li140, li148, li156, li1000, li1092, li1248, cl_slotOn, b2, e7, b4, cl_min, hmin, e10, e18, hr, f4]
    · have h1 := hn.set (n := k + 1) hI hp hw hh (v := (A.2.getD p z4).2.2.2 - 2 * A.1 (7 + w)) (by omega) rfl
      refine h1.congr ?_ (fun c h1 h2 => ?_) fun v hv => hX _ (by omega)
      · rw [hf _ (by omega) (by omega), hz]
      · rw [hf _ (by omega) (by omega), hz]
end CL

