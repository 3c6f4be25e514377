/-! WHAT THE REFERENCE'S METHODS ANSWER, in the same words -/
def md_bit (fa : Int32) (u l : Int64) (q : Int32) : Int32 := if fa = 4 then ((l >>> ((31 - q).toInt64 &&& 63)) &&& 1).toInt32 else if 64 ≤ q then ((l >>> ((127 - q).toInt64 &&& 63)) &&& 1).toInt32 else ((u >>> ((63 - q).toInt64 &&& 63)) &&& 1).toInt32
def md_z (B : Nat → Bool) : Nat → Nat → Bool
  | 0, _ => true
  | c + 1, i => if B i = true then md_z B c (i + 1) else false
theorem md_z_iff (B : Nat → Bool) : ∀ c i, md_z B c i = true ↔ ∀ j, i ≤ j → j < i + c → B j = true
  | 0, i => ⟨fun _ j h1 h2 => absurd h2 (by omega), fun _ => rfl⟩
  | c + 1, i => by
    unfold md_z
    by_cases h : B i = true
    · rw [if_pos h, md_z_iff B c (i + 1)]
      constructor
      · intro q j h1 h2
        by_cases e : j = i
        · rw [e]; exact h
        · exact q j (by omega) (by omega)
      · intro q j h1 h2
        exact q j (by omega) (by omega)
    · rw [if_neg h]
      constructor
      · intro q; cases q
      · intro q; exact absurd (q i (Nat.le_refl i) (by omega)) h
theorem md_z_step (B : Nat → Bool) (al i : Nat) (h : i < al) : md_z B (al - i) i = if B i = true then md_z B (al - (i + 1)) (i + 1) else false := by
  obtain ⟨c, hc⟩ : ∃ c, al - i = c + 1 := ⟨al - i - 1, by omega⟩
  rw [hc, show al - (i + 1) = c by omega]
  rfl
def md_pre (mf : Int32) (mu ml : Int64) (le : Int32) : Bool := kb_len mf le && md_z (fun i => decide (md_bit mf mu ml (nI i) = 0)) ((if mf = 4 then 32 else 128) - le.toNatClampNeg) le.toNatClampNeg
def md_ne (f : Nat → Int32) (u w : Nat → Int64) (g : Nat → Int32) (mf : Int32) (mu ml : Int64) (le : Int32) (j : Nat) : Bool := !(decide (f j = mf) && (decide (u j = mu) && (decide (w j = ml) && decide (g j = le))))
def md_cov (f : Nat → Int32) (u w : Nat → Int64) (g : Nat → Int32) (mf : Int32) (mu ml : Int64) (j : Nat) : Bool := decide (f j = mf) && md_z (fun i => decide (md_bit mf (u j) (w j) (nI i) = md_bit mf mu ml (nI i))) (g j).toNatClampNeg 0
def md_cmp (y z : Int64) : Int32 := if z ^^^ (-9223372036854775808) ≤ y ^^^ (-9223372036854775808) then (if y ^^^ (-9223372036854775808) ≤ z ^^^ (-9223372036854775808) then 0 else 1) else (-1)
def md_low (a b c d : Int64) : Int32 := if md_cmp a b = 0 then md_cmp c d else md_cmp a b
def md_ah (f : Nat → Int32) (u w : Nat → Int64) (g : Nat → Int32) (fa : Int32) (up lo : Int64) (le : Int32) (j : Nat) : Bool :=
  if f j = fa then (if md_low (u j) up (w j) lo < 0 then true else if md_low (u j) up (w j) lo = 0 then !decide (le ≤ g j) else false) else !decide (fa ≤ f j)
def md_ct (f : Nat → Int32) (u w : Nat → Int64) (g : Nat → Int32) (k q : Nat) : Nat := kb_cv (md_ah f u w g (f q) (u q) (w q) (g q)) k
theorem nI_nm1 {n : Nat} (h : n < 2 ^ 31) : ¬ nI n = (-1) := fun q => by
  have h1 := nI_toInt h
  rw [q] at h1
  have h2 : (-1 : Int32).toInt = -1 := by decide
  omega
theorem nI_sub1 {n : Nat} (h : 0 < n) : nI n - 1 = nI (n - 1) := by
  obtain ⟨m, rfl⟩ : ∃ m, n = m + 1 := ⟨n - 1, by omega⟩
  exact nI_pred m
/-- a length that the family has is a Nat -/
theorem kb_len_nI {mf le : Int32} (h : kb_len mf le = true) : le = nI le.toNatClampNeg ∧ le.toNatClampNeg ≤ (if mf = 4 then 32 else 128) := by
  unfold kb_len at h
  rw [Bool.and_eq_true, Bool.not_eq_true', Bool.not_eq_true', decide_eq_false_iff_not, decide_eq_false_iff_not] at h
  obtain ⟨h1, h2⟩ := h
  obtain ⟨j, hj, rfl⟩ := nI_of h1
  rw [nI_clamp hj]
  refine ⟨rfl, ?_⟩
  by_cases hm : mf = 4
  · rw [if_pos hm] at h2 ⊢
    have h3 : ¬ nI 32 < nI j := h2
    rw [nI_ltI (by omega) (by omega)] at h3
    omega
  · rw [if_neg hm] at h2 ⊢
    have h3 : ¬ nI 128 < nI j := h2
    rw [nI_ltI (by omega) (by omega)] at h3
    omega
