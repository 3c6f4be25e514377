/-! PURE: rows in order -/
def sk (key : Nat → Int) (k : Nat) : Prop := ∀ i j, i < j → j < k → key i < key j
theorem sk_inj {key : Nat → Int} {k i j : Nat} (h : sk key k) (hi : i < k) (hj : j < k) (e : key i = key j) : i = j := by
  rcases Nat.lt_trichotomy i j with q | q | q
  · have := h i j q hj; omega
  · exact q
  · have := h j i q hi; omega
theorem sk_ge {key : Nat → Int} {k r j : Nat} {K : Int} (h : sk key k) (hr : K ≤ key r) (hj : r ≤ j) (hk : j < k) : K ≤ key j := by
  by_cases q : r = j
  · rw [← q]; exact hr
  · have := h r j (by omega) hk; omega
theorem sk_ins {key key' : Nat → Int} {k r : Nat} {K : Int} (h : sk key k) (hr : r ≤ k) (h1 : ∀ j, j < r → key j < K) (h2 : ∀ j, r ≤ j → j < k → K < key j)
    (e1 : ∀ j, j < r → key' j = key j) (e2 : key' r = K) (e3 : ∀ j, r < j → j ≤ k → key' j = key (j - 1)) : sk key' (k + 1) := by
  intro i j hij hj
  rcases Nat.lt_trichotomy j r with q | q | q
  · rw [e1 i (by omega), e1 j q]; exact h i j hij (by omega)
  · subst q
    rw [e1 i hij, e2]; exact h1 i hij
  · rw [e3 j q (by omega)]
    rcases Nat.lt_trichotomy i r with z | z | z
    · rw [e1 i z]; exact h i (j - 1) (by omega) (by omega)
    · subst z
      rw [e2]; exact h2 (j - 1) (by omega) (by omega)
    · rw [e3 i z (by omega)]; exact h (i - 1) (j - 1) (by omega) (by omega)
theorem sk_del {key key' : Nat → Int} {k r : Nat} (h : sk key k) (hr : r < k)
    (e1 : ∀ j, j < r → key' j = key j) (e3 : ∀ j, r ≤ j → j + 1 < k → key' j = key (j + 1)) : sk key' (k - 1) := by
  intro i j hij hj
  by_cases q : j < r
  · rw [e1 i (by omega), e1 j q]; exact h i j hij (by omega)
  · rw [e3 j (by omega) (by omega)]
    by_cases z : i < r
    · rw [e1 i z]; exact h i (j + 1) (by omega) (by omega)
    · rw [e3 i (by omega) (by omega)]; exact h (i + 1) (j + 1) (by omega) (by omega)
