/-! WHAT THE CLASS'S METHODS ANSWER, as functions of its rows (f families, u uppers, w lowers, g lengths, n numbers), k its count, mf mu ml the address that is meant -/
def kb_first (b : Int32) : Int64 := if b ≤ 0 then 0 else if 64 ≤ b then (-1) else (-1) <<< ((64 - b).toInt64 &&& 63)
def kb_bits (fam len : Int32) : Int32 := if fam = 4 then 96 + len else len
def kb_addr (fam : Int32) (up lo : Int64) : Bool := if fam = 4 then decide (up = 0) && (decide (0 ≤ lo) && decide (lo < 4294967296)) else decide (fam = 6)
def kb_len (mf len : Int32) : Bool := decide (0 ≤ len) && decide (len ≤ if mf = 4 then 32 else 128)
def kb_pre (mf : Int32) (mu ml : Int64) (len : Int32) : Bool := kb_len mf len && (decide (mu &&& (kb_first (kb_bits mf len) ^^^ (-1)) = 0) && decide (ml &&& (kb_first (kb_bits mf len - 64) ^^^ (-1)) = 0))
def kb_below (x y : Int64) : Bool := decide (x ^^^ (-9223372036854775808) < y ^^^ (-9223372036854775808))
def kb_cov (f : Nat → Int32) (u w : Nat → Int64) (g : Nat → Int32) (mf : Int32) (mu ml : Int64) (j : Nat) : Bool := decide (f j = mf) && (decide ((u j ^^^ mu) &&& kb_first (kb_bits mf (g j)) = 0) && decide ((w j ^^^ ml) &&& kb_first (kb_bits mf (g j) - 64) = 0))
def kb_ah (f : Nat → Int32) (u w : Nat → Int64) (g : Nat → Int32) (mf : Int32) (mu ml : Int64) (len : Int32) (j : Nat) : Bool :=
  if f j = mf then (if u j = mu then (if w j = ml then decide (g j < len) else kb_below (w j) ml) else kb_below (u j) mu) else decide (f j < mf)
def kb_st (f : Nat → Int32) (u w : Nat → Int64) (g : Nat → Int32) (mf : Int32) (mu ml : Int64) (len : Int32) (k j : Nat) : Bool :=
  decide (j < k) && (decide (f j = mf) && (decide (u j = mu) && (decide (w j = ml) && decide (g j = len))))
/-- the first place from i on, of at most c more, at which P does not hold -/
def kb_fst (P : Nat → Bool) : Nat → Nat → Nat
  | 0, i => i
  | c + 1, i => if P i = true then kb_fst P c (i + 1) else i
theorem kb_fst_le (P : Nat → Bool) : ∀ c i, kb_fst P c i ≤ i + c
  | 0, i => Nat.le_refl _
  | c + 1, i => by
    unfold kb_fst
    by_cases h : P i = true
    · rw [if_pos h]
      have := kb_fst_le P c (i + 1)
      omega
    · rw [if_neg h]
      omega
theorem kb_fst_ge (P : Nat → Bool) : ∀ c i, i ≤ kb_fst P c i
  | 0, i => Nat.le_refl _
  | c + 1, i => by
    unfold kb_fst
    by_cases h : P i = true
    · rw [if_pos h]
      have := kb_fst_ge P c (i + 1)
      omega
    · rw [if_neg h]
      omega
theorem kb_fst_in (P : Nat → Bool) : ∀ c i j, i ≤ j → j < kb_fst P c i → P j = true
  | 0, i, j, h1, h2 => absurd h2 (by unfold kb_fst; omega)
  | c + 1, i, j, h1, h2 => by
    unfold kb_fst at h2
    by_cases h : P i = true
    · rw [if_pos h] at h2
      by_cases hj : j = i
      · rw [hj]; exact h
      · exact kb_fst_in P c (i + 1) j (by omega) h2
    · rw [if_neg h] at h2
      omega
theorem kb_fst_at (P : Nat → Bool) : ∀ c i, kb_fst P c i < i + c → P (kb_fst P c i) = false
  | 0, i, h => absurd h (by unfold kb_fst; omega)
  | c + 1, i, h => by
    unfold kb_fst at h ⊢
    by_cases hp : P i = true
    · rw [if_pos hp] at h ⊢
      exact kb_fst_at P c (i + 1) (by omega)
    · rw [if_neg hp]
      simpa using hp
def kb_lg (cv : Nat → Bool) (g : Nat → Int32) : Nat → Int32
  | 0 => (-1)
  | i + 1 => if cv i = true ∧ kb_lg cv g i < g i then g i else kb_lg cv g i
def kb_cv (cv : Nat → Bool) : Nat → Nat
  | 0 => 0
  | i + 1 => if cv i = true then kb_cv cv i + 1 else kb_cv cv i
theorem kb_cv_le (cv : Nat → Bool) : ∀ i, kb_cv cv i ≤ i
  | 0 => Nat.le_refl _
  | i + 1 => by
    have := kb_cv_le cv i
    unfold kb_cv
    by_cases h : cv i = true
    · rw [if_pos h]; omega
    · rw [if_neg h]; omega
/-- a row with the place p opened among k, closed among k -/
def kb_up {α : Type} (f : Nat → α) (p k : Nat) : Nat → α := fun j => if p < j ∧ j ≤ k then f (j - 1) else f j
def kb_dn {α : Type} (f : Nat → α) (p k : Nat) : Nat → α := fun j => if p ≤ j ∧ j + 1 < k then f (j + 1) else f j
theorem kb_fst_eq (P : Nat → Bool) (k i : Nat) (hi : i ≤ k) (h1 : ∀ j, j < i → P j = true) (h2 : i = k ∨ P i = false) : kb_fst P k 0 = i := by
  have a1 := kb_fst_le P k 0
  rcases Nat.lt_trichotomy (kb_fst P k 0) i with h | h | h
  · have q := kb_fst_at P k 0 (by omega)
    rw [h1 _ h] at q
    cases q
  · exact h
  · have q := kb_fst_in P k 0 i (Nat.zero_le i) h
    rcases h2 with h2 | h2
    · omega
    · rw [h2] at q
      cases q
