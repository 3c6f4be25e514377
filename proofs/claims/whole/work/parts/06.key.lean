/-! PURE: the unsigned value, keys, order -/
def un (x : Int64) : Nat := x.toBitVec.toNat
theorem un_lt (x : Int64) : un x < 18446744073709551616 := x.toBitVec.isLt
theorem un_inj {x y : Int64} : un x = un y ↔ x = y := ⟨fun h => Int64.toBitVec_inj.mp (BitVec.eq_of_toNat_eq h), fun h => by rw [h]⟩
theorem un_flipN (n : Nat) (h : n < 18446744073709551616) : n ^^^ 9223372036854775808 = if n < 9223372036854775808 then n + 9223372036854775808 else n - 9223372036854775808 := by
  have h1 : (n ^^^ 9223372036854775808) / 2 ^ 63 = (n / 2 ^ 63) ^^^ (9223372036854775808 / 2 ^ 63) := Nat.xor_div_two_pow
  have h2 : (n ^^^ 9223372036854775808) % 2 ^ 63 = (n % 2 ^ 63) ^^^ (9223372036854775808 % 2 ^ 63) := Nat.xor_mod_two_pow
  have e1 : (9223372036854775808 : Nat) / 2 ^ 63 = 1 := by decide
  have e2 : (9223372036854775808 : Nat) % 2 ^ 63 = 0 := by decide
  have e3 : (2 : Nat) ^ 63 = 9223372036854775808 := by decide
  rw [e1, e3] at h1
  rw [e2, e3, Nat.xor_zero] at h2
  by_cases hn : n < 9223372036854775808
  · rw [if_pos hn]
    have h3 : n / 9223372036854775808 = 0 := by omega
    rw [h3] at h1
    have h4 : (0 ^^^ 1 : Nat) = 1 := by decide
    rw [h4] at h1
    omega
  · rw [if_neg hn]
    have h3 : n / 9223372036854775808 = 1 := by omega
    rw [h3] at h1
    have h4 : (1 ^^^ 1 : Nat) = 0 := by decide
    rw [h4] at h1
    omega
theorem un_flip (x : Int64) : (x ^^^ (-9223372036854775808)).toInt = (un x : Int) - 9223372036854775808 := by
  have h0 : (x ^^^ (-9223372036854775808)).toBitVec = x.toBitVec ^^^ (-9223372036854775808 : Int64).toBitVec := rfl
  have h1 : (-9223372036854775808 : Int64).toBitVec.toNat = 9223372036854775808 := by decide
  have h2 : (x ^^^ (-9223372036854775808)).toBitVec.toNat = un x ^^^ 9223372036854775808 := by rw [h0, BitVec.toNat_xor, h1]; rfl
  rw [un_flipN _ (un_lt x)] at h2
  rw [← Int64.toInt_toBitVec, BitVec.toInt_eq_toNat_cond, h2]
  have := un_lt x
  by_cases hn : un x < 9223372036854775808
  · rw [if_pos hn, if_neg (by omega)]
    omega
  · rw [if_neg hn, if_pos (by omega)]
    omega
theorem kb_below_iff {x y : Int64} : kb_below x y = true ↔ un x < un y := by
  unfold kb_below
  rw [Bool.not_eq_true', decide_eq_false_iff_not, Int64.not_le, Int64.lt_iff_toInt_lt, un_flip, un_flip]
  omega
theorem i32_b (x : Int32) : -2147483648 ≤ x.toInt ∧ x.toInt < 2147483648 := ⟨Int32.le_toInt x, Int32.toInt_lt x⟩
def kb_key (f : Int32) (u w : Int64) (g : Int32) : Int := ((f.toInt * 18446744073709551616 + un u) * 18446744073709551616 + un w) * 8589934592 + g.toInt
theorem kb_key_inj {f f' : Int32} {u u' w w' : Int64} {g g' : Int32} : kb_key f u w g = kb_key f' u' w' g' ↔ f = f' ∧ u = u' ∧ w = w' ∧ g = g' := by
  unfold kb_key
  rw [← Int32.toInt_inj, ← un_inj, ← un_inj (x := w), ← Int32.toInt_inj (x := g)]
  have := un_lt u; have := un_lt u'; have := un_lt w; have := un_lt w'
  have := i32_b g; have := i32_b g'
  omega
theorem kb_ah_iff {f : Nat → Int32} {u w : Nat → Int64} {g : Nat → Int32} {mf : Int32} {mu ml : Int64} {len : Int32} {j : Nat} : kb_ah f u w g mf mu ml len j = true ↔ kb_key (f j) (u j) (w j) (g j) < kb_key mf mu ml len := by
  unfold kb_ah kb_key
  have := un_lt (u j); have := un_lt mu; have := un_lt (w j); have := un_lt ml
  have := i32_b (g j); have := i32_b len
  by_cases h1 : f j = mf
  · rw [if_pos h1, h1]
    by_cases h2 : u j = mu
    · rw [if_pos h2, h2]
      by_cases h3 : w j = ml
      · rw [if_pos h3, h3, Bool.not_eq_true', decide_eq_false_iff_not, Int32.not_le, Int32.lt_iff_toInt_lt]
        omega
      · rw [if_neg h3, kb_below_iff]
        have : un (w j) ≠ un ml := fun q => h3 (un_inj.mp q)
        omega
    · rw [if_neg h2, kb_below_iff]
      have : un (u j) ≠ un mu := fun q => h2 (un_inj.mp q)
      omega
  · rw [if_neg h1, Bool.not_eq_true', decide_eq_false_iff_not, Int32.not_le, Int32.lt_iff_toInt_lt]
    have : (f j).toInt ≠ mf.toInt := fun q => h1 (Int32.toInt_inj.mp q)
    omega
