/-! PURE: bits. gb x i is the bit i of x -/
def gb (x : Int64) (i : Nat) : Bool := x.toBitVec.getLsbD i
theorem gb_ext {x y : Int64} (h : ∀ i, i < 64 → gb x i = gb y i) : x = y := Int64.toBitVec_inj.mp (BitVec.eq_of_getLsbD_eq (fun i hi => h i hi))
theorem gb_0 (i : Nat) : gb 0 i = false := by unfold gb; rw [Int64.toBitVec_zero]; exact BitVec.getLsbD_zero
theorem gb_and (x y : Int64) (i : Nat) : gb (x &&& y) i = (gb x i && gb y i) := by unfold gb; rw [Int64.toBitVec_and, BitVec.getLsbD_and]
theorem gb_xor (x y : Int64) (i : Nat) : gb (x ^^^ y) i = (gb x i ^^ gb y i) := by unfold gb; rw [Int64.toBitVec_xor, BitVec.getLsbD_xor]
theorem gb_m1 : ∀ i, i < 64 → gb (-1) i = true := by decide +kernel
theorem gb_zero_iff {x : Int64} : x = 0 ↔ ∀ i, i < 64 → gb x i = false :=
  ⟨fun h i _ => by rw [h, gb_0], fun h => gb_ext (fun i hi => by rw [h i hi, gb_0])⟩
set_option maxRecDepth 100000 in
theorem gb_first_mid : ∀ t, t < 64 → 0 < t → ∀ i, i < 64 → gb (kb_first (nI t)) i = decide (64 ≤ i + t) := by decide +kernel
theorem gb_first (b : Int32) (i : Nat) (hi : i < 64) : gb (kb_first b) i = decide ((64 : Int) ≤ i + b.toInt) := by
  by_cases h1 : 0 < b
  · by_cases h2 : b < 64
    · have h3 : ¬ b < 0 := fun q => by
        rw [Int32.lt_iff_toInt_lt] at h1 q
        omega
      obtain ⟨t, ht, rfl⟩ := nI_of h3
      have h4 : nI t < nI 64 := h2
      have h5 : nI 0 < nI t := h1
      rw [nI_ltI ht (by omega)] at h4
      rw [nI_ltI (by omega) ht] at h5
      rw [gb_first_mid t h4 h5 i hi, nI_toInt ht, decide_eq_decide]
      omega
    · have e : kb_first b = -1 := by unfold kb_first; rw [if_pos h1, if_neg h2]
      rw [e, gb_m1 i hi]
      rw [Int32.lt_iff_toInt_lt] at h2
      have h6 : (64 : Int32).toInt = 64 := by decide
      rw [h6] at h2
      exact (decide_eq_true (by omega)).symm
  · have e : kb_first b = 0 := by unfold kb_first; rw [if_neg h1]
    rw [e, gb_0]
    rw [Int32.lt_iff_toInt_lt] at h1
    have h6 : (0 : Int32).toInt = 0 := by decide
    rw [h6] at h1
    exact (decide_eq_false (by omega)).symm
theorem gb_pre (x : Int64) (b : Int32) : (x &&& (kb_first b ^^^ (-1)) = 0) ↔ ∀ i : Nat, i < 64 → (i : Int) + b.toInt < 64 → gb x i = false := by
  rw [gb_zero_iff]
  constructor
  · intro h i hi hb
    have h1 := h i hi
    rw [gb_and, gb_xor, gb_first b i hi, gb_m1 i hi, decide_eq_false (by omega)] at h1
    simpa using h1
  · intro h i hi
    rw [gb_and, gb_xor, gb_first b i hi, gb_m1 i hi]
    by_cases hb : (64 : Int) ≤ i + b.toInt
    · rw [decide_eq_true hb]; simp
    · rw [h i hi (by omega)]; rfl
theorem gb_cov (x y : Int64) (b : Int32) : ((x ^^^ y) &&& kb_first b = 0) ↔ ∀ i : Nat, i < 64 → (64 : Int) ≤ i + b.toInt → gb x i = gb y i := by
  rw [gb_zero_iff]
  constructor
  · intro h i hi hb
    have h1 := h i hi
    rw [gb_and, gb_xor, gb_first b i hi, decide_eq_true hb] at h1
    simpa using h1
  · intro h i hi
    rw [gb_and, gb_xor, gb_first b i hi]
    by_cases hb : (64 : Int) ≤ i + b.toInt
    · rw [h i hi hb]; simp
    · rw [decide_eq_false hb]; simp
/-- a bit by a shift -/
theorem sh_c : ∀ t, t < 64 → (((nI t).toInt64 &&& 63).toBitVec.smod 64).toNat = t := by decide +kernel
theorem and1 (y : Int64) : (y &&& 1).toInt32 = b2i (gb y 0) := by
  have h : (y &&& 1) = if gb y 0 = true then 1 else 0 := by
    apply gb_ext
    intro i hi
    rw [gb_and]
    by_cases h0 : i = 0
    · subst h0
      have e1 : gb 1 0 = true := by decide
      rw [e1, Bool.and_true]
      cases hb : gb y 0
      · rw [if_neg (by decide), gb_0]
      · rw [if_pos rfl, e1]
    · have e2 : gb 1 i = false := by
        have : ∀ i, i < 64 → i ≠ 0 → gb 1 i = false := by decide +kernel
        exact this i hi h0
      rw [e2, Bool.and_false]
      by_cases hb : gb y 0 = true
      · rw [if_pos hb, e2]
      · rw [if_neg hb, gb_0]
  rw [h]
  unfold b2i
  by_cases hb : gb y 0 = true
  · rw [if_pos hb, if_pos hb]; decide
  · rw [if_neg hb, if_neg hb]; decide
theorem sh_1 (x : Int64) (t : Nat) (ht : t < 64) : ((x >>> ((nI t).toInt64 &&& 63)) &&& 1).toInt32 = b2i (gb x t) := by
  rw [and1]
  congr 1
  unfold gb
  rw [Int64.toBitVec_shiftRight, BitVec.sshiftRight_eq', sh_c t ht, BitVec.getLsbD_sshiftRight]
  simp [ht]
theorem sub_nI {a i : Nat} (h : i ≤ a) : nI a - nI i = nI (a - i) := pk_sub h
theorem bit_4 (u l : Int64) (i : Nat) (h : i < 32) : md_bit 4 u l (nI i) = b2i (gb l (31 - i)) := by
  unfold md_bit
  rw [if_pos rfl, show (31 : Int32) = nI 31 from rfl, sub_nI (by omega), sh_1 _ _ (by omega)]
theorem bit_6a {fa : Int32} (hf : ¬ fa = 4) (u l : Int64) (i : Nat) (h : i < 64) : md_bit fa u l (nI i) = b2i (gb u (63 - i)) := by
  unfold md_bit
  have h1 : ¬ (64 : Int32) ≤ nI i := nI_ge (a := i) (b := 64) h (by omega)
  rw [if_neg hf, if_neg h1, show (63 : Int32) = nI 63 from rfl, sub_nI (by omega), sh_1 _ _ (by omega)]
theorem bit_6b {fa : Int32} (hf : ¬ fa = 4) (u l : Int64) (i : Nat) (h : 64 ≤ i) (h2 : i < 128) : md_bit fa u l (nI i) = b2i (gb l (127 - i)) := by
  unfold md_bit
  have h1 : (64 : Int32) ≤ nI i := nI_le (a := 64) (b := i) h (by omega)
  rw [if_neg hf, if_pos h1, show (127 : Int32) = nI 127 from rfl, sub_nI (by omega), sh_1 _ _ (by omega)]
theorem b2i_inj {a b : Bool} : b2i a = b2i b ↔ a = b := by cases a <;> cases b <;> decide
/-- the two tests of a prefix agree -/
theorem pre_eq (mf : Int32) (mu ml : Int64) (le : Int32) : md_pre mf mu ml le = kb_pre mf mu ml le := by
  unfold md_pre kb_pre
  cases hlen : kb_len mf le with
  | false => rfl
  | true =>
    rw [Bool.true_and, Bool.true_and]
    obtain ⟨e, hb⟩ := kb_len_nI hlen
    generalize le.toNatClampNeg = a at e hb
    subst e
    rw [Bool.eq_iff_iff, md_z_iff, Bool.and_eq_true, decide_eq_true_eq, decide_eq_true_eq, gb_pre, gb_pre]
    by_cases hm : mf = 4
    · rw [if_pos hm] at hb ⊢
      subst hm
      have e1 : kb_bits 4 (nI a) = nI (96 + a) := by
        unfold kb_bits; rw [if_pos rfl]; exact nI_add 96 a
      have e2 : nI (96 + a) - 64 = nI (32 + a) := by
        rw [show (64 : Int32) = nI 64 from rfl, sub_nI (by omega)]
        congr 1; omega
      rw [e1, e2, nI_toInt (by omega), nI_toInt (by omega)]
      constructor
      · intro h
        refine ⟨fun i h1 h2 => by omega, fun i h1 h2 => ?_⟩
        have h3 := h (31 - i) (by omega) (by omega)
        rw [decide_eq_true_eq, bit_4 _ _ _ (by omega), b2i_0, show 31 - (31 - i) = i by omega] at h3
        exact h3
      · intro h j h1 h2
        rw [decide_eq_true_eq, bit_4 _ _ _ (by omega), b2i_0]
        exact h.2 (31 - j) (by omega) (by omega)
    · rw [if_neg hm] at hb ⊢
      have e1 : kb_bits mf (nI a) = nI a := by unfold kb_bits; rw [if_neg hm]
      have e2 : (nI a - 64).toInt = (a : Int) - 64 := pk_sub_toInt (a := a) (b := 64) (by omega) (by omega)
      rw [e1, e2, nI_toInt (by omega)]
      constructor
      · intro h
        refine ⟨fun i h1 h2 => ?_, fun i h1 h2 => ?_⟩
        · have h3 := h (63 - i) (by omega) (by omega)
          rw [decide_eq_true_eq, bit_6a hm _ _ _ (by omega), b2i_0, show 63 - (63 - i) = i by omega] at h3
          exact h3
        · have h3 := h (127 - i) (by omega) (by omega)
          rw [decide_eq_true_eq, bit_6b hm _ _ _ (by omega) (by omega), b2i_0, show 127 - (127 - i) = i by omega] at h3
          exact h3
      · intro h j h1 h2
        rw [decide_eq_true_eq]
        by_cases hj : j < 64
        · rw [bit_6a hm _ _ _ hj, b2i_0]
          exact h.1 (63 - j) (by omega) (by omega)
        · rw [bit_6b hm _ _ _ (by omega) (by omega), b2i_0]
          exact h.2 (127 - j) (by omega) (by omega)
theorem addr_4 {up lo : Int64} (h : kb_addr 4 up lo = true) : up = 0 ∧ ∀ i, 32 ≤ i → gb lo i = false := by
  unfold kb_addr at h
  rw [if_pos rfl, Bool.and_eq_true, Bool.and_eq_true, Bool.not_eq_true', Bool.not_eq_true', decide_eq_true_eq, decide_eq_false_iff_not, decide_eq_false_iff_not] at h
  obtain ⟨h1, h2, h3⟩ := h
  refine ⟨h1, fun i hi => ?_⟩
  rw [Int64.lt_iff_toInt_lt] at h2
  rw [Int64.le_iff_toInt_le] at h3
  have e0 : (0 : Int64).toInt = 0 := by decide
  have e1 : (4294967296 : Int64).toInt = 4294967296 := by decide
  rw [e0] at h2
  rw [e1] at h3
  have h4 : lo.toBitVec.toNat < 2 ^ 32 := by
    have h5 := BitVec.toInt_eq_toNat_cond lo.toBitVec
    rw [Int64.toInt_toBitVec] at h5
    have h6 := lo.toBitVec.isLt
    by_cases h7 : 2 * lo.toBitVec.toNat < 2 ^ 64
    · rw [if_pos h7] at h5
      omega
    · rw [if_neg h7] at h5
      omega
  unfold gb
  rw [← BitVec.testBit_toNat]
  exact Nat.testBit_lt_two_pow (Nat.lt_of_lt_of_le h4 (Nat.pow_le_pow_right (by omega) hi))
/-- the two tests of covering agree, where entry and address are as they must be -/
theorem cov_eq (f : Nat → Int32) (u w : Nat → Int64) (g : Nat → Int32) (mf : Int32) (mu ml : Int64) (j : Nat) (hm : kb_addr mf mu ml = true) (ha : kb_addr (f j) (u j) (w j) = true) (hl : kb_len (f j) (g j) = true) : md_cov f u w g mf mu ml j = kb_cov f u w g mf mu ml j := by
  unfold md_cov kb_cov
  by_cases hf : f j = mf
  · rw [hf] at ha hl
    rw [hf, decide_eq_true rfl, Bool.true_and, Bool.true_and]
    obtain ⟨e, hb⟩ := kb_len_nI hl
    generalize (g j).toNatClampNeg = a at e hb
    rw [e, Bool.eq_iff_iff, md_z_iff, Bool.and_eq_true, decide_eq_true_eq, decide_eq_true_eq, gb_cov, gb_cov]
    by_cases h4 : mf = 4
    · rw [if_pos h4] at hb
      subst h4
      obtain ⟨u1, w1⟩ := addr_4 ha
      obtain ⟨u2, w2⟩ := addr_4 hm
      have e1 : kb_bits 4 (nI a) = nI (96 + a) := by
        unfold kb_bits; rw [if_pos rfl]; exact nI_add 96 a
      have e2 : nI (96 + a) - 64 = nI (32 + a) := by
        rw [show (64 : Int32) = nI 64 from rfl, sub_nI (by omega)]
        congr 1; omega
      rw [e1, e2, nI_toInt (by omega), nI_toInt (by omega)]
      constructor
      · intro h
        refine ⟨fun i h1 h2 => by rw [u1, u2], fun i h1 h2 => ?_⟩
        by_cases hi : i < 32
        · have h3 := h (31 - i) (by omega) (by omega)
          rw [decide_eq_true_eq, bit_4 _ _ _ (by omega), bit_4 _ _ _ (by omega), b2i_inj, show 31 - (31 - i) = i by omega] at h3
          exact h3
        · rw [w1 i (by omega), w2 i (by omega)]
      · intro h q h1 h2
        rw [decide_eq_true_eq, bit_4 _ _ _ (by omega), bit_4 _ _ _ (by omega), b2i_inj]
        exact h.2 (31 - q) (by omega) (by omega)
    · rw [if_neg h4] at hb
      have e1 : kb_bits mf (nI a) = nI a := by unfold kb_bits; rw [if_neg h4]
      have e2 : (nI a - 64).toInt = (a : Int) - 64 := pk_sub_toInt (a := a) (b := 64) (by omega) (by omega)
      rw [e1, e2, nI_toInt (by omega)]
      constructor
      · intro h
        refine ⟨fun i h1 h2 => ?_, fun i h1 h2 => ?_⟩
        · have h3 := h (63 - i) (by omega) (by omega)
          rw [decide_eq_true_eq, bit_6a h4 _ _ _ (by omega), bit_6a h4 _ _ _ (by omega), b2i_inj, show 63 - (63 - i) = i by omega] at h3
          exact h3
        · have h3 := h (127 - i) (by omega) (by omega)
          rw [decide_eq_true_eq, bit_6b h4 _ _ _ (by omega) (by omega), bit_6b h4 _ _ _ (by omega) (by omega), b2i_inj, show 127 - (127 - i) = i by omega] at h3
          exact h3
      · intro h q h1 h2
        rw [decide_eq_true_eq]
        by_cases hq : q < 64
        · rw [bit_6a h4 _ _ _ hq, bit_6a h4 _ _ _ hq, b2i_inj]
          exact h.1 (63 - q) (by omega) (by omega)
        · rw [bit_6b h4 _ _ _ (by omega) (by omega), bit_6b h4 _ _ _ (by omega) (by omega), b2i_inj]
          exact h.2 (127 - q) (by omega) (by omega)
  · rw [decide_eq_false hf, Bool.false_and, Bool.false_and]
theorem cmp_lt {y z : Int64} : md_cmp y z < 0 ↔ un y < un z := by
  have h1 := un_flip y
  have h2 := un_flip z
  unfold md_cmp
  simp only [Int64.le_iff_toInt_le, h1, h2]
  by_cases a : (un z : Int) - 9223372036854775808 ≤ (un y : Int) - 9223372036854775808
  · rw [if_pos a]
    by_cases b : (un y : Int) - 9223372036854775808 ≤ (un z : Int) - 9223372036854775808
    · rw [if_pos b]; exact ⟨fun q => absurd q (by decide), fun q => by omega⟩
    · rw [if_neg b]; exact ⟨fun q => absurd q (by decide), fun q => by omega⟩
  · rw [if_neg a]; exact ⟨fun q => by omega, fun q => by decide⟩
theorem cmp_eq {y z : Int64} : md_cmp y z = 0 ↔ y = z := by
  have h1 := un_flip y
  have h2 := un_flip z
  rw [← un_inj]
  unfold md_cmp
  simp only [Int64.le_iff_toInt_le, h1, h2]
  by_cases a : (un z : Int) - 9223372036854775808 ≤ (un y : Int) - 9223372036854775808
  · rw [if_pos a]
    by_cases b : (un y : Int) - 9223372036854775808 ≤ (un z : Int) - 9223372036854775808
    · rw [if_pos b]; exact ⟨fun _ => by omega, fun _ => rfl⟩
    · rw [if_neg b]; exact ⟨fun q => absurd q (by decide), fun q => by omega⟩
  · rw [if_neg a]; exact ⟨fun q => absurd q (by decide), fun q => by omega⟩
theorem ah_eq (f : Nat → Int32) (u w : Nat → Int64) (g : Nat → Int32) (fa : Int32) (up lo : Int64) (le : Int32) (j : Nat) : md_ah f u w g fa up lo le j = kb_ah f u w g fa up lo le j := by
  unfold md_ah kb_ah md_low
  by_cases h1 : f j = fa
  · rw [if_pos h1, if_pos h1]
    by_cases h2 : u j = up
    · rw [if_pos h2, if_pos (cmp_eq.mpr h2)]
      by_cases h3 : w j = lo
      · rw [if_pos h3, if_pos (cmp_eq.mpr h3), cmp_eq.mpr h3, if_neg (by decide)]
      · rw [if_neg h3, if_neg (fun q => h3 (cmp_eq.mp q))]
        by_cases h4 : un (w j) < un lo
        · rw [if_pos (cmp_lt.mpr h4), kb_below_iff.mpr h4]
        · rw [if_neg (fun q => h4 (cmp_lt.mp q))]
          cases hb : kb_below (w j) lo
          · rfl
          · exact absurd (kb_below_iff.mp hb) h4
    · rw [if_neg h2, if_neg (fun q => h2 (cmp_eq.mp q)), if_neg (fun q => h2 (cmp_eq.mp q))]
      by_cases h4 : un (u j) < un up
      · rw [if_pos (cmp_lt.mpr h4), kb_below_iff.mpr h4]
      · rw [if_neg (fun q => h4 (cmp_lt.mp q))]
        cases hb : kb_below (u j) up
        · rfl
        · exact absurd (kb_below_iff.mp hb) h4
  · rw [if_neg h1, if_neg h1]
