-- ===== floats: what is not a NaN =====
theorem f32_tails : FP.Core.Fmt.tails FP.Core.b32 = 8388608 := by decide +kernel
theorem f32_exps : FP.Core.Fmt.exps FP.Core.b32 = 256 := by decide +kernel
theorem f32_qmin : FP.Core.Fmt.qmin FP.Core.b32 = -149 := by decide +kernel
theorem f32_qmax : FP.Core.Fmt.qmax FP.Core.b32 = 104 := by decide +kernel
theorem f32_p : FP.Core.Fmt.p FP.Core.b32 = 24 := rfl
theorem enc_le32 {d : FP.Core.Datum} (hd : d ≠ .nan) (hc : ∀ s c q, d = .fin s c q → c < 2 ^ 24 ∧ q ≤ 104) : FP.Core.encode FP.Core.b32 d % 2147483648 ≤ 2139095040 ∧ FP.Core.encode FP.Core.b32 d < 2 ^ 32 := by
  cases d with
  | nan => exact absurd rfl hd
  | inf s =>
    show FP.Core.assemble _ s _ 0 % 2147483648 ≤ 2139095040 ∧ FP.Core.assemble _ s _ 0 < 2 ^ 32
    unfold FP.Core.assemble
    rw [f32_tails, f32_exps]
    cases s
    · decide +kernel
    · decide +kernel
  | fin s c q =>
    obtain ⟨h1, h2⟩ := hc s c q rfl
    show (if c < _ then FP.Core.assemble _ s 0 c else FP.Core.assemble _ s ((q - _).toNat + 1) (c - _)) % 2147483648 ≤ 2139095040 ∧ (if c < _ then FP.Core.assemble _ s 0 c else FP.Core.assemble _ s ((q - _).toNat + 1) (c - _)) < 2 ^ 32
    unfold FP.Core.assemble
    rw [f32_tails, f32_exps, f32_qmin]
    have hs : s.toNat ≤ 1 := by cases s <;> decide
    split
    · omega
    · omega
theorem rr_ok32 (s : Bool) (n d : Nat) (e : Int) : FP.Core.roundRatio FP.Core.b32 s n d e ≠ .nan ∧ ∀ t c q, FP.Core.roundRatio FP.Core.b32 s n d e = .fin t c q → c < 2 ^ 24 ∧ q ≤ 104 := by
  have bd : ∀ (c : Nat) (q : Int), c < 2 ^ 24 → FP.Core.bound FP.Core.b32 s c q ≠ .nan ∧ ∀ t c' q', FP.Core.bound FP.Core.b32 s c q = .fin t c' q' → c' < 2 ^ 24 ∧ q' ≤ 104 := fun c q hc => by
    unfold FP.Core.bound
    rw [f32_qmax]
    split
    · refine ⟨(fun h => by cases h), fun t c' q' h => ?_⟩
      cases h
      exact ⟨hc, by assumption⟩
    · exact ⟨(fun h => by cases h), (fun t c' q' h => by cases h)⟩
  unfold FP.Core.roundRatio
  split
  · refine ⟨(fun h => by cases h), fun t c q h => ?_⟩
    cases h
    rw [f32_qmin]
    exact ⟨by decide, by decide⟩
  · unfold FP.Core.roundAt FP.Core.settle
    rw [f32_p]
    split
    · exact bd _ _ (by assumption)
    · rw [f32_tails]
      exact bd _ _ (by decide)
theorem dec_ok32 {n : Nat} (h : n % 2147483648 ≤ 2139095040) : FP.Core.decode FP.Core.b32 n ≠ .nan := by
  unfold FP.Core.decode FP.Core.fieldE FP.Core.fieldT
  rw [f32_tails, f32_exps]
  split
  · rw [if_pos (by omega)]
    exact fun h => by cases h
  · split
    · exact fun h => by cases h
    · exact fun h => by cases h
theorem dec_int32 {n : Nat} (hn : n < 2 ^ 24) : ∃ s c q, FP.Core.decode FP.Core.b32 (FP.Core.fromInt FP.Core.b32 (n : Int)) = .fin s c q ∧ (n ≠ 0 → c ≠ 0) ∧ FP.Core.fromInt FP.Core.b32 (n : Int) < 2 ^ 32 := by
  by_cases h0 : n = 0
  · subst h0
    exact ⟨false, 0, -149, by decide +kernel, fun h => absurd rfl h, by decide +kernel⟩
  · have l1 := Nat.log2_self_le h0
    have l2 := Nat.lt_log2_self (n := n)
    have l3 : n.log2 < 24 := (Nat.log2_lt h0).mpr hn
    have hround : FP.Core.round FP.Core.b32 (FP.Core.ofInt (n : Int)) = .fin false (n * 2 ^ (23 - n.log2)) ((n.log2 : Int) - 23) := by
      have ho : FP.Core.ofInt (n : Int) = .fin false n 0 := by
        unfold FP.Core.ofInt
        rw [decide_eq_false (by omega)]
        rfl
      rw [ho]
      show FP.Core.roundRatio FP.Core.b32 false n 1 0 = _
      unfold FP.Core.roundRatio
      rw [if_neg h0]
      have hl : FP.Core.leading n 1 = (n.log2 : Int) := by
        unfold FP.Core.leading
        have e1 : ((n.log2 : Int) - ((1 : Nat).log2 : Int)) = (n.log2 : Int) := by
          rw [show (1 : Nat).log2 = 0 from by decide +kernel]
          omega
        simp only [e1]
        rw [if_pos]
        rw [Int.toNat_natCast, show (-(n.log2 : Int)).toNat = 0 by omega, Nat.one_mul, Nat.pow_zero, Nat.mul_one]
        exact l1
      have hq : FP.Core.quantum FP.Core.b32 n 1 0 = (n.log2 : Int) - 23 := by
        unfold FP.Core.quantum
        rw [hl, f32_qmin, f32_p]
        omega
      rw [hq]
      unfold FP.Core.roundAt
      have hu : FP.Core.unitsNum n 0 ((n.log2 : Int) - 23) = n * 2 ^ (23 - n.log2) := by
        unfold FP.Core.unitsNum
        rw [show (0 - ((n.log2 : Int) - 23)).toNat = 23 - n.log2 by omega]
      have hd : FP.Core.unitsDen 1 0 ((n.log2 : Int) - 23) = 1 := by
        unfold FP.Core.unitsDen
        rw [show ((n.log2 : Int) - 23 - 0).toNat = 0 by omega]
      rw [hu, hd]
      have hnear : ∀ x, FP.Core.nearest x 1 = x := fun x => by
        unfold FP.Core.nearest
        rw [Nat.mod_one, if_pos (by decide), Nat.div_one]
      rw [hnear]
      have hlt : n * 2 ^ (23 - n.log2) < 2 ^ 24 := by
        have e : (2 : Nat) ^ 24 = 2 ^ (n.log2 + 1) * 2 ^ (23 - n.log2) := by
          rw [← Nat.pow_add]
          exact congrArg (2 ^ ·) (by omega)
        rw [e]
        exact Nat.mul_lt_mul_of_pos_right l2 (Nat.two_pow_pos _)
      unfold FP.Core.settle FP.Core.bound
      rw [f32_p, if_pos hlt, f32_qmax, if_pos (by omega)]
    have hge : 8388608 ≤ n * 2 ^ (23 - n.log2) := by
      have e : (8388608 : Nat) = 2 ^ n.log2 * 2 ^ (23 - n.log2) := by
        rw [← Nat.pow_add, show n.log2 + (23 - n.log2) = 23 by omega]
      rw [e]
      exact Nat.mul_le_mul_right _ l1
    have hlt : n * 2 ^ (23 - n.log2) < 2 * 8388608 := by
      have e : (2 * 8388608 : Nat) = 2 ^ (n.log2 + 1) * 2 ^ (23 - n.log2) := by
        rw [← Nat.pow_add, show n.log2 + 1 + (23 - n.log2) = 24 by omega]
      rw [e]
      exact Nat.mul_lt_mul_of_pos_right l2 (Nat.two_pow_pos _)
    have henc : FP.Core.fromInt FP.Core.b32 (n : Int) = (n.log2 + 127) * 8388608 + (n * 2 ^ (23 - n.log2) - 8388608) := by
      unfold FP.Core.fromInt
      rw [hround]
      show (if _ < _ then _ else _) = _
      rw [f32_tails, if_neg (by omega)]
      unfold FP.Core.assemble
      rw [f32_tails, f32_exps, f32_qmin, show ((n.log2 : Int) - 23 - -149).toNat + 1 = n.log2 + 127 by omega]
      show (0 * 256 + (n.log2 + 127)) * 8388608 + _ = _
      rw [Nat.zero_mul, Nat.zero_add]
    generalize hx : n * 2 ^ (23 - n.log2) = x at *
    rw [henc]
    have hE : ((n.log2 + 127) * 8388608 + (x - 8388608)) / 8388608 % 256 = n.log2 + 127 := by omega
    have hT : ((n.log2 + 127) * 8388608 + (x - 8388608)) % 8388608 = x - 8388608 := by omega
    unfold FP.Core.decode FP.Core.fieldE FP.Core.fieldT
    rw [f32_tails, f32_exps, hE, hT, if_neg (by omega), if_neg (by omega)]
    exact ⟨_, _, _, rfl, fun _ => by omega, by omega⟩
theorem f64_tails : FP.Core.Fmt.tails FP.Core.b64 = 4503599627370496 := by decide +kernel
theorem f64_exps : FP.Core.Fmt.exps FP.Core.b64 = 2048 := by decide +kernel
theorem f64_qmin : FP.Core.Fmt.qmin FP.Core.b64 = -1074 := by decide +kernel
theorem f64_qmax : FP.Core.Fmt.qmax FP.Core.b64 = 971 := by decide +kernel
theorem f64_p : FP.Core.Fmt.p FP.Core.b64 = 53 := rfl
theorem enc_le64 {d : FP.Core.Datum} (hd : d ≠ .nan) (hc : ∀ s c q, d = .fin s c q → c < 2 ^ 53 ∧ q ≤ 971) : FP.Core.encode FP.Core.b64 d % 9223372036854775808 ≤ 9218868437227405312 ∧ FP.Core.encode FP.Core.b64 d < 2 ^ 64 := by
  cases d with
  | nan => exact absurd rfl hd
  | inf s =>
    show FP.Core.assemble _ s _ 0 % 9223372036854775808 ≤ 9218868437227405312 ∧ FP.Core.assemble _ s _ 0 < 2 ^ 64
    unfold FP.Core.assemble
    rw [f64_tails, f64_exps]
    cases s
    · decide +kernel
    · decide +kernel
  | fin s c q =>
    obtain ⟨h1, h2⟩ := hc s c q rfl
    show (if c < _ then FP.Core.assemble _ s 0 c else FP.Core.assemble _ s ((q - _).toNat + 1) (c - _)) % 9223372036854775808 ≤ 9218868437227405312 ∧ (if c < _ then FP.Core.assemble _ s 0 c else FP.Core.assemble _ s ((q - _).toNat + 1) (c - _)) < 2 ^ 64
    unfold FP.Core.assemble
    rw [f64_tails, f64_exps, f64_qmin]
    have hs : s.toNat ≤ 1 := by cases s <;> decide
    split
    · omega
    · omega
theorem rr_ok64 (s : Bool) (n d : Nat) (e : Int) : FP.Core.roundRatio FP.Core.b64 s n d e ≠ .nan ∧ ∀ t c q, FP.Core.roundRatio FP.Core.b64 s n d e = .fin t c q → c < 2 ^ 53 ∧ q ≤ 971 := by
  have bd : ∀ (c : Nat) (q : Int), c < 2 ^ 53 → FP.Core.bound FP.Core.b64 s c q ≠ .nan ∧ ∀ t c' q', FP.Core.bound FP.Core.b64 s c q = .fin t c' q' → c' < 2 ^ 53 ∧ q' ≤ 971 := fun c q hc => by
    unfold FP.Core.bound
    rw [f64_qmax]
    split
    · refine ⟨(fun h => by cases h), fun t c' q' h => ?_⟩
      cases h
      exact ⟨hc, by assumption⟩
    · exact ⟨(fun h => by cases h), (fun t c' q' h => by cases h)⟩
  unfold FP.Core.roundRatio
  split
  · refine ⟨(fun h => by cases h), fun t c q h => ?_⟩
    cases h
    rw [f64_qmin]
    exact ⟨by decide, by decide⟩
  · unfold FP.Core.roundAt FP.Core.settle
    rw [f64_p]
    split
    · exact bd _ _ (by assumption)
    · rw [f64_tails]
      exact bd _ _ (by decide)
theorem dec_ok64 {n : Nat} (h : n % 9223372036854775808 ≤ 9218868437227405312) : FP.Core.decode FP.Core.b64 n ≠ .nan := by
  unfold FP.Core.decode FP.Core.fieldE FP.Core.fieldT
  rw [f64_tails, f64_exps]
  split
  · rw [if_pos (by omega)]
    exact fun h => by cases h
  · split
    · exact fun h => by cases h
    · exact fun h => by cases h
theorem dec_int64 {n : Nat} (hn : n < 2 ^ 24) : ∃ s c q, FP.Core.decode FP.Core.b64 (FP.Core.fromInt FP.Core.b64 (n : Int)) = .fin s c q ∧ (n ≠ 0 → c ≠ 0) ∧ FP.Core.fromInt FP.Core.b64 (n : Int) < 2 ^ 64 := by
  by_cases h0 : n = 0
  · subst h0
    exact ⟨false, 0, -1074, by decide +kernel, fun h => absurd rfl h, by decide +kernel⟩
  · have l1 := Nat.log2_self_le h0
    have l2 := Nat.lt_log2_self (n := n)
    have l3 : n.log2 < 24 := (Nat.log2_lt h0).mpr hn
    have hround : FP.Core.round FP.Core.b64 (FP.Core.ofInt (n : Int)) = .fin false (n * 2 ^ (52 - n.log2)) ((n.log2 : Int) - 52) := by
      have ho : FP.Core.ofInt (n : Int) = .fin false n 0 := by
        unfold FP.Core.ofInt
        rw [decide_eq_false (by omega)]
        rfl
      rw [ho]
      show FP.Core.roundRatio FP.Core.b64 false n 1 0 = _
      unfold FP.Core.roundRatio
      rw [if_neg h0]
      have hl : FP.Core.leading n 1 = (n.log2 : Int) := by
        unfold FP.Core.leading
        have e1 : ((n.log2 : Int) - ((1 : Nat).log2 : Int)) = (n.log2 : Int) := by
          rw [show (1 : Nat).log2 = 0 from by decide +kernel]
          omega
        simp only [e1]
        rw [if_pos]
        rw [Int.toNat_natCast, show (-(n.log2 : Int)).toNat = 0 by omega, Nat.one_mul, Nat.pow_zero, Nat.mul_one]
        exact l1
      have hq : FP.Core.quantum FP.Core.b64 n 1 0 = (n.log2 : Int) - 52 := by
        unfold FP.Core.quantum
        rw [hl, f64_qmin, f64_p]
        omega
      rw [hq]
      unfold FP.Core.roundAt
      have hu : FP.Core.unitsNum n 0 ((n.log2 : Int) - 52) = n * 2 ^ (52 - n.log2) := by
        unfold FP.Core.unitsNum
        rw [show (0 - ((n.log2 : Int) - 52)).toNat = 52 - n.log2 by omega]
      have hd : FP.Core.unitsDen 1 0 ((n.log2 : Int) - 52) = 1 := by
        unfold FP.Core.unitsDen
        rw [show ((n.log2 : Int) - 52 - 0).toNat = 0 by omega]
      rw [hu, hd]
      have hnear : ∀ x, FP.Core.nearest x 1 = x := fun x => by
        unfold FP.Core.nearest
        rw [Nat.mod_one, if_pos (by decide), Nat.div_one]
      rw [hnear]
      have hlt : n * 2 ^ (52 - n.log2) < 2 ^ 53 := by
        have e : (2 : Nat) ^ 53 = 2 ^ (n.log2 + 1) * 2 ^ (52 - n.log2) := by
          rw [← Nat.pow_add]
          exact congrArg (2 ^ ·) (by omega)
        rw [e]
        exact Nat.mul_lt_mul_of_pos_right l2 (Nat.two_pow_pos _)
      unfold FP.Core.settle FP.Core.bound
      rw [f64_p, if_pos hlt, f64_qmax, if_pos (by omega)]
    have hge : 4503599627370496 ≤ n * 2 ^ (52 - n.log2) := by
      have e : (4503599627370496 : Nat) = 2 ^ n.log2 * 2 ^ (52 - n.log2) := by
        rw [← Nat.pow_add, show n.log2 + (52 - n.log2) = 52 by omega]
      rw [e]
      exact Nat.mul_le_mul_right _ l1
    have hlt : n * 2 ^ (52 - n.log2) < 2 * 4503599627370496 := by
      have e : (2 * 4503599627370496 : Nat) = 2 ^ (n.log2 + 1) * 2 ^ (52 - n.log2) := by
        rw [← Nat.pow_add, show n.log2 + 1 + (52 - n.log2) = 53 by omega]
      rw [e]
      exact Nat.mul_lt_mul_of_pos_right l2 (Nat.two_pow_pos _)
    have henc : FP.Core.fromInt FP.Core.b64 (n : Int) = (n.log2 + 1023) * 4503599627370496 + (n * 2 ^ (52 - n.log2) - 4503599627370496) := by
      unfold FP.Core.fromInt
      rw [hround]
      show (if _ < _ then _ else _) = _
      rw [f64_tails, if_neg (by omega)]
      unfold FP.Core.assemble
      rw [f64_tails, f64_exps, f64_qmin, show ((n.log2 : Int) - 52 - -1074).toNat + 1 = n.log2 + 1023 by omega]
      show (0 * 2048 + (n.log2 + 1023)) * 4503599627370496 + _ = _
      rw [Nat.zero_mul, Nat.zero_add]
    generalize hx : n * 2 ^ (52 - n.log2) = x at *
    rw [henc]
    have hE : ((n.log2 + 1023) * 4503599627370496 + (x - 4503599627370496)) / 4503599627370496 % 2048 = n.log2 + 1023 := by omega
    have hT : ((n.log2 + 1023) * 4503599627370496 + (x - 4503599627370496)) % 4503599627370496 = x - 4503599627370496 := by omega
    unfold FP.Core.decode FP.Core.fieldE FP.Core.fieldT
    rw [f64_tails, f64_exps, hE, hT, if_neg (by omega), if_neg (by omega)]
    exact ⟨_, _, _, rfl, fun _ => by omega, by omega⟩
theorem quo32 {a b : Nat} (ha : a < 2 ^ 24) (hb9 : b < 2 ^ 24) (h0 : b ≠ 0) : FP.Core.div FP.Core.b32 (FP.Core.fromInt FP.Core.b32 (a : Int)) (FP.Core.fromInt FP.Core.b32 (b : Int)) % 2147483648 ≤ 2139095040 ∧ FP.Core.div FP.Core.b32 (FP.Core.fromInt FP.Core.b32 (a : Int)) (FP.Core.fromInt FP.Core.b32 (b : Int)) < 2 ^ 32 := by
  obtain ⟨s1, c1, q1, h1, -, -⟩ := dec_int32 ha
  obtain ⟨s2, c2, q2, h2, h3, -⟩ := dec_int32 hb9
  unfold FP.Core.div
  rw [h1, h2]
  show FP.Core.encode _ (if c2 = 0 then _ else FP.Core.roundRatio FP.Core.b32 (s1 != s2) c1 c2 (q1 - q2)) % _ ≤ _ ∧ FP.Core.encode _ (if c2 = 0 then _ else FP.Core.roundRatio FP.Core.b32 (s1 != s2) c1 c2 (q1 - q2)) < _
  rw [if_neg (h3 h0)]
  have h := rr_ok32 (s1 != s2) c1 c2 (q1 - q2)
  exact enc_le32 h.1 h.2
theorem quo64 {a b : Nat} (ha : a < 2 ^ 24) (hb9 : b < 2 ^ 24) (h0 : b ≠ 0) : FP.Core.div FP.Core.b64 (FP.Core.fromInt FP.Core.b64 (a : Int)) (FP.Core.fromInt FP.Core.b64 (b : Int)) % 9223372036854775808 ≤ 9218868437227405312 ∧ FP.Core.div FP.Core.b64 (FP.Core.fromInt FP.Core.b64 (a : Int)) (FP.Core.fromInt FP.Core.b64 (b : Int)) < 2 ^ 64 := by
  obtain ⟨s1, c1, q1, h1, -, -⟩ := dec_int64 ha
  obtain ⟨s2, c2, q2, h2, h3, -⟩ := dec_int64 hb9
  unfold FP.Core.div
  rw [h1, h2]
  show FP.Core.encode _ (if c2 = 0 then _ else FP.Core.roundRatio FP.Core.b64 (s1 != s2) c1 c2 (q1 - q2)) % _ ≤ _ ∧ FP.Core.encode _ (if c2 = 0 then _ else FP.Core.roundRatio FP.Core.b64 (s1 != s2) c1 c2 (q1 - q2)) < _
  rw [if_neg (h3 h0)]
  have h := rr_ok64 (s1 != s2) c1 c2 (q1 - q2)
  exact enc_le64 h.1 h.2
theorem n32_iff {r : UInt32} : vf_n32 r ↔ r.toNat % 2147483648 ≤ 2139095040 := by
  unfold vf_n32
  rw [UInt32.le_iff_toNat_le, UInt32.toNat_and]
  show r.toNat &&& (2 ^ 31 - 1) ≤ 2139095040 ↔ _
  rw [Nat.and_two_pow_sub_one_eq_mod]
theorem n64_iff {r : UInt64} : vf_n64 r ↔ r.toNat % 9223372036854775808 ≤ 9218868437227405312 := by
  unfold vf_n64
  rw [UInt64.le_iff_toNat_le, UInt64.toNat_and]
  show r.toNat &&& (2 ^ 63 - 1) ≤ 9218868437227405312 ↔ _
  rw [Nat.and_two_pow_sub_one_eq_mod]
theorem nn_fdiv {a b : Nat} (ha : a < 2 ^ 24) (hb9 : b < 2 ^ 24) (h0 : b ≠ 0) : vf_n32 (FP.fdiv (FP.i2f (nI a)) (FP.i2f (nI b))) := by
  rw [n32_iff]
  have h := quo32 ha hb9 h0
  have e : ∀ n : Nat, n < 2 ^ 24 → (FP.i2f (nI n)).toNat = FP.Core.fromInt FP.Core.b32 (n : Int) := fun n hn => by
    show (UInt32.ofNat (FP.Core.fromInt FP.Core.b32 (nI n).toInt)).toNat = _
    rw [nI_toInt (by omega), UInt32.toNat_ofNat']
    obtain ⟨-, -, -, -, -, h9⟩ := dec_int32 hn
    exact Nat.mod_eq_of_lt h9
  show (UInt32.ofNat (FP.Core.div FP.Core.b32 (FP.i2f (nI a)).toNat (FP.i2f (nI b)).toNat)).toNat % _ ≤ _
  rw [e a ha, e b hb9, UInt32.toNat_ofNat', Nat.mod_eq_of_lt h.2]
  exact h.1
theorem nn_ddiv {a b : Nat} (ha : a < 2 ^ 24) (hb9 : b < 2 ^ 24) (h0 : b ≠ 0) : vf_n64 (FP.ddiv (FP.i2d (nI a)) (FP.i2d (nI b))) := by
  rw [n64_iff]
  have h := quo64 ha hb9 h0
  have e : ∀ n : Nat, n < 2 ^ 24 → (FP.i2d (nI n)).toNat = FP.Core.fromInt FP.Core.b64 (n : Int) := fun n hn => by
    show (UInt64.ofNat (FP.Core.fromInt FP.Core.b64 (nI n).toInt)).toNat = _
    rw [nI_toInt (by omega), UInt64.toNat_ofNat']
    obtain ⟨-, -, -, -, -, h9⟩ := dec_int64 hn
    exact Nat.mod_eq_of_lt h9
  show (UInt64.ofNat (FP.Core.div FP.Core.b64 (FP.i2d (nI a)).toNat (FP.i2d (nI b)).toNat)).toNat % _ ≤ _
  rw [e a ha, e b hb9, UInt64.toNat_ofNat', Nat.mod_eq_of_lt h.2]
  exact h.1
theorem nn_f2d {r : UInt32} (h : vf_n32 r) : vf_n64 (FP.f2d r) := by
  rw [n32_iff] at h
  rw [n64_iff]
  have hd := dec_ok32 h
  have hr : FP.Core.round FP.Core.b64 (FP.Core.decode FP.Core.b32 r.toNat) ≠ .nan ∧ ∀ s c q, FP.Core.round FP.Core.b64 (FP.Core.decode FP.Core.b32 r.toNat) = .fin s c q → c < 2 ^ 53 ∧ q ≤ 971 := by
    cases hc : FP.Core.decode FP.Core.b32 r.toNat with
    | nan => exact absurd hc hd
    | inf s => exact ⟨(fun h => by cases h), (fun t c q h => by cases h)⟩
    | fin s c q => exact rr_ok64 s c 1 q
  have he := enc_le64 hr.1 hr.2
  have e9 : FP.f2d r = FP.Core.f2d r := by
    unfold FP.f2d
    refine if_neg ?_
    show ¬ (decide (FP.Core.decode FP.Core.b32 r.toNat = .nan) = true)
    rw [decide_eq_true_eq]
    exact hd
  rw [e9]
  show (UInt64.ofNat (FP.Core.encode FP.Core.b64 (FP.Core.round FP.Core.b64 (FP.Core.decode FP.Core.b32 r.toNat)))).toNat % _ ≤ _
  rw [UInt64.toNat_ofNat', Nat.mod_eq_of_lt he.2]
  exact he.1
theorem dcmp_self {x : UInt64} (h : vf_n64 x) : FP.dcmp x x = some .eq := by
  rw [n64_iff] at h
  have hd := dec_ok64 h
  show FP.Core.order (FP.Core.decode FP.Core.b64 x.toNat) (FP.Core.decode FP.Core.b64 x.toNat) = _
  cases hc : FP.Core.decode FP.Core.b64 x.toNat with
  | nan => exact absurd hc hd
  | inf s =>
    show some (compare (FP.Core.signed s 1) (FP.Core.signed s 1)) = _
    cases s <;> rfl
  | fin s c q =>
    show some (compare _ _) = _
    exact congrArg some (Std.ReflCmp.compare_self)
