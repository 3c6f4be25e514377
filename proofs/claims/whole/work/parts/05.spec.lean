/-! WHAT THE CLASS'S METHODS ANSWER, as functions of its rows (f families, u uppers, w lowers, g lengths, n numbers), k its count, mf mu ml the address that is meant -/
def kb_first (b : Int32) : Int64 := if 0 < b then (if b < 64 then (-1) <<< ((64 - b).toInt64 &&& 63) else (-1)) else 0
def kb_bits (fam len : Int32) : Int32 := if fam = 4 then 96 + len else len
def kb_addr (fam : Int32) (up lo : Int64) : Bool := if fam = 4 then decide (up = 0) && (!decide (lo < 0) && !decide (4294967296 ≤ lo)) else decide (fam = 6)
def kb_len (mf len : Int32) : Bool := !decide (len < 0) && !decide ((if mf = 4 then 32 else 128) < len)
def kb_pre (mf : Int32) (mu ml : Int64) (len : Int32) : Bool := kb_len mf len && (decide (mu &&& (kb_first (kb_bits mf len) ^^^ (-1)) = 0) && decide (ml &&& (kb_first (kb_bits mf len - 64) ^^^ (-1)) = 0))
def kb_below (x y : Int64) : Bool := !decide (y ^^^ (-9223372036854775808) ≤ x ^^^ (-9223372036854775808))
def kb_cov (f : Nat → Int32) (u w : Nat → Int64) (g : Nat → Int32) (mf : Int32) (mu ml : Int64) (j : Nat) : Bool := decide (f j = mf) && (decide ((u j ^^^ mu) &&& kb_first (kb_bits mf (g j)) = 0) && decide ((w j ^^^ ml) &&& kb_first (kb_bits mf (g j) - 64) = 0))
def kb_ah (f : Nat → Int32) (u w : Nat → Int64) (g : Nat → Int32) (mf : Int32) (mu ml : Int64) (len : Int32) (j : Nat) : Bool :=
  if f j = mf then (if u j = mu then (if w j = ml then !decide (len ≤ g j) else kb_below (w j) ml) else kb_below (u j) mu) else !decide (mf ≤ f j)
def kb_st (f : Nat → Int32) (u w : Nat → Int64) (g : Nat → Int32) (mf : Int32) (mu ml : Int64) (len : Int32) (k j : Nat) : Bool :=
  !decide (k ≤ j) && (decide (f j = mf) && (decide (u j = mu) && (decide (w j = ml) && decide (g j = len))))
/-- the first place from i on, of at most c more, at which P does not hold -/
def kb_fst (P : Nat → Bool) : Nat → Nat → Nat
  | 0, i => i
  | c + 1, i => if P i = true then kb_fst P c (i + 1) else i
theorem kb_fst_le (P : Nat → Bool) : ∀ c i, kb_fst P c i ≤ i + c
  | 0, i => Nat.le_refl _
  | c + 1, i => by
    unfold kb_fst
    by_cases h : P i = true
    · rw [if_pos h]
      have := kb_fst_le P c (i + 1)
      omega
    · rw [if_neg h]
      omega
theorem kb_fst_ge (P : Nat → Bool) : ∀ c i, i ≤ kb_fst P c i
  | 0, i => Nat.le_refl _
  | c + 1, i => by
    unfold kb_fst
    by_cases h : P i = true
    · rw [if_pos h]
      have := kb_fst_ge P c (i + 1)
      omega
    · rw [if_neg h]
      omega
theorem kb_fst_in (P : Nat → Bool) : ∀ c i j, i ≤ j → j < kb_fst P c i → P j = true
  | 0, i, j, h1, h2 => absurd h2 (by unfold kb_fst; omega)
  | c + 1, i, j, h1, h2 => by
    unfold kb_fst at h2
    by_cases h : P i = true
    · rw [if_pos h] at h2
      by_cases hj : j = i
      · rw [hj]; exact h
      · exact kb_fst_in P c (i + 1) j (by omega) h2
    · rw [if_neg h] at h2
      omega
theorem kb_fst_at (P : Nat → Bool) : ∀ c i, kb_fst P c i < i + c → P (kb_fst P c i) = false
  | 0, i, h => absurd h (by unfold kb_fst; omega)
  | c + 1, i, h => by
    unfold kb_fst at h ⊢
    by_cases hp : P i = true
    · rw [if_pos hp] at h ⊢
      exact kb_fst_at P c (i + 1) (by omega)
    · rw [if_neg hp]
      simpa using hp
def kb_lg (cv : Nat → Bool) (g : Nat → Int32) : Nat → Int32
  | 0 => (-1)
  | i + 1 => if cv i = true ∧ ¬ g i ≤ kb_lg cv g i then g i else kb_lg cv g i
def kb_cv (cv : Nat → Bool) : Nat → Nat
  | 0 => 0
  | i + 1 => if cv i = true then kb_cv cv i + 1 else kb_cv cv i
theorem kb_cv_le (cv : Nat → Bool) : ∀ i, kb_cv cv i ≤ i
  | 0 => Nat.le_refl _
  | i + 1 => by
    have := kb_cv_le cv i
    unfold kb_cv
    by_cases h : cv i = true
    · rw [if_pos h]; omega
    · rw [if_neg h]; omega
/-- a row with the place p opened among k, closed among k -/
def kb_up {α : Type} (f : Nat → α) (p k : Nat) : Nat → α := fun j => if p < j ∧ j ≤ k then f (j - 1) else f j
def kb_dn {α : Type} (f : Nat → α) (p k : Nat) : Nat → α := fun j => if p ≤ j ∧ j < k then f (j + 1) else f j
theorem kb_fst_eq (P : Nat → Bool) (k i : Nat) (hi : i ≤ k) (h1 : ∀ j, j < i → P j = true) (h2 : i = k ∨ P i = false) : kb_fst P k 0 = i := by
  have a1 := kb_fst_le P k 0
  rcases Nat.lt_trichotomy (kb_fst P k 0) i with h | h | h
  · have q := kb_fst_at P k 0 (by omega)
    rw [h1 _ h] at q
    cases q
  · exact h
  · have q := kb_fst_in P k 0 i (Nat.zero_le i) h
    rcases h2 with h2 | h2
    · omega
    · rw [h2] at q
      cases q
theorem kb_up_0 {α : Type} (f : Nat → α) (k : Nat) : kb_up f k k = f := by
  funext j; unfold kb_up; rw [if_neg (by omega)]
theorem kb_dn_0 {α : Type} (f : Nat → α) (p : Nat) : kb_dn f p p = f := by
  funext j; unfold kb_dn; rw [if_neg (by omega)]
theorem kb_up_i (f : Nat → Int32) (q k : Nat) (h : q + 1 ≤ k) : upd (kb_up f (q + 1) k) (q + 1) (kb_up f (q + 1) k q) = kb_up f q k := by
  funext j; unfold upd kb_up
  by_cases e : j = q + 1
  · subst e
    rw [if_pos rfl, if_neg (by omega), if_pos (by omega), Nat.add_sub_cancel]
  · rw [if_neg e]
    by_cases h1 : q + 1 < j ∧ j ≤ k
    · rw [if_pos h1, if_pos (by omega)]
    · rw [if_neg h1, if_neg (by omega)]
theorem kb_up_l (f : Nat → Int64) (q k : Nat) (h : q + 1 ≤ k) : vp_updL (kb_up f (q + 1) k) (q + 1) (kb_up f (q + 1) k q) = kb_up f q k := by
  funext j; unfold vp_updL kb_up
  by_cases e : j = q + 1
  · subst e
    rw [if_pos rfl, if_neg (by omega), if_pos (by omega), Nat.add_sub_cancel]
  · rw [if_neg e]
    by_cases h1 : q + 1 < j ∧ j ≤ k
    · rw [if_pos h1, if_pos (by omega)]
    · rw [if_neg h1, if_neg (by omega)]
theorem kb_dn_i (f : Nat → Int32) (p t : Nat) (h : p ≤ t) : upd (kb_dn f p t) t (kb_dn f p t (t + 1)) = kb_dn f p (t + 1) := by
  funext j; unfold upd kb_dn
  by_cases e : j = t
  · subst e
    rw [if_pos rfl, if_neg (by omega), if_pos (by omega)]
  · rw [if_neg e]
    by_cases h1 : p ≤ j ∧ j < t
    · rw [if_pos h1, if_pos (by omega)]
    · rw [if_neg h1, if_neg (by omega)]
theorem kb_dn_l (f : Nat → Int64) (p t : Nat) (h : p ≤ t) : vp_updL (kb_dn f p t) t (kb_dn f p t (t + 1)) = kb_dn f p (t + 1) := by
  funext j; unfold vp_updL kb_dn
  by_cases e : j = t
  · subst e
    rw [if_pos rfl, if_neg (by omega), if_pos (by omega)]
  · rw [if_neg e]
    by_cases h1 : p ≤ j ∧ j < t
    · rw [if_pos h1, if_pos (by omega)]
    · rw [if_neg h1, if_neg (by omega)]
