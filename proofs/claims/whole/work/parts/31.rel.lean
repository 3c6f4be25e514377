/-! PURE: the class's rows and the reference's rows are the same up to order -/
abbrev Ent : Type := Int32 × Int64 × Int64 × Int32 × Int32
def ro5 (f : Nat → Int32) (u w : Nat → Int64) (g n : Nat → Int32) : Nat → Ent := fun j => (f j, u j, w j, g j, n j)
def rows (e : Nat → Ent) (k : Nat) : List Ent := (List.range k).map e
theorem rows_0 (e : Nat → Ent) : rows e 0 = [] := rfl
theorem rows_s (e : Nat → Ent) (k : Nat) : rows e (k + 1) = rows e k ++ [e k] := by
  unfold rows
  rw [List.range_succ, List.map_append]
  rfl
theorem rows_in {e : Nat → Ent} {k : Nat} {x : Ent} : x ∈ rows e k ↔ ∃ j, j < k ∧ e j = x := by
  unfold rows
  rw [List.mem_map]
  constructor
  · rintro ⟨j, h1, h2⟩
    exact ⟨j, List.mem_range.mp h1, h2⟩
  · rintro ⟨j, h1, h2⟩
    exact ⟨j, List.mem_range.mpr h1, h2⟩
theorem rows_c {e e' : Nat → Ent} {k : Nat} (h : ∀ j, j < k → e j = e' j) : rows e k = rows e' k := by
  unfold rows
  exact List.map_congr_left (fun j hj => h j (List.mem_range.mp hj))
/-- a row put in at r -/
theorem rows_ins {e e' : Nat → Ent} {r : Nat} {x : Ent} (h1 : ∀ j, j < r → e' j = e j) (h2 : e' r = x) : ∀ k, r ≤ k → (∀ j, r ≤ j → j < k → e' (j + 1) = e j) → (rows e' (k + 1)).Perm (rows e k ++ [x]) := by
  intro k hk
  induction k with
  | zero =>
    intro h3
    obtain rfl : r = 0 := by omega
    rw [rows_s, rows_0, rows_0, h2]
  | succ k ih =>
    intro h3
    by_cases hr : r = k + 1
    · subst hr
      rw [rows_s e' (k + 1), h2, rows_c h1]
    · have q := ih (by omega) (fun j a b => h3 j a (by omega))
      rw [rows_s e' (k + 1), rows_s e k, h3 k (by omega) (by omega)]
      refine (List.Perm.append_right _ q).trans ?_
      rw [List.append_assoc, List.append_assoc]
      exact List.Perm.append_left _ (List.Perm.swap _ _ [])
theorem rows_del {e e' : Nat → Ent} {r k : Nat} (hr : r < k) (h1 : ∀ j, j < r → e' j = e j) (h3 : ∀ j, r ≤ j → j + 1 < k → e' j = e (j + 1)) : (rows e k).Perm (rows e' (k - 1) ++ [e r]) := by
  obtain ⟨m, rfl⟩ : ∃ m, k = m + 1 := ⟨k - 1, by omega⟩
  exact rows_ins (fun j h => (h1 j h).symm) rfl m (by omega) (fun j a b => (h3 j a (by omega)).symm)
/-- a row taken out of both -/
theorem rows_del2 {e e' d d' : Nat → Ent} {r q k : Nat} (hp : (rows e k).Perm (rows d k)) (hr : r < k) (hq : q < k) (heq : e r = d q) (h1 : ∀ j, j < r → e' j = e j) (h3 : ∀ j, r ≤ j → j + 1 < k → e' j = e (j + 1)) (g1 : ∀ j, j < q → d' j = d j) (g3 : ∀ j, q ≤ j → j + 1 < k → d' j = d (j + 1)) : (rows e' (k - 1)).Perm (rows d' (k - 1)) := by
  have a := rows_del hr h1 h3
  have b := rows_del hq g1 g3
  have c := (a.symm.trans hp).trans b
  rw [heq] at c
  exact (List.perm_append_right_iff _).mp c
/-- a row changed in both -/
theorem rows_set2 {e e' d d' : Nat → Ent} {r q k : Nat} {x : Ent} (hp : (rows e k).Perm (rows d k)) (hr : r < k) (hq : q < k) (heq : e r = d q) (h1 : ∀ j, j ≠ r → e' j = e j) (h2 : e' r = x) (g1 : ∀ j, j ≠ q → d' j = d j) (g2 : d' q = x) : (rows e' k).Perm (rows d' k) := by
  have c := rows_del2 (e' := fun j => if j < r then e j else e (j + 1)) (d' := fun j => if j < q then d j else d (j + 1)) hp hr hq heq (fun j h => if_pos h) (fun j h _ => if_neg (by omega)) (fun j h => if_pos h) (fun j h _ => if_neg (by omega))
  have a := rows_del (e := e') (e' := fun j => if j < r then e j else e (j + 1)) hr (fun j h => by show (if j < r then e j else e (j + 1)) = e' j; rw [if_pos h, h1 j (by omega)]) (fun j h _ => by show (if j < r then e j else e (j + 1)) = e' (j + 1); rw [if_neg (by omega), h1 (j + 1) (by omega)])
  have b := rows_del (e := d') (e' := fun j => if j < q then d j else d (j + 1)) hq (fun j h => by show (if j < q then d j else d (j + 1)) = d' j; rw [if_pos h, g1 j (by omega)]) (fun j h _ => by show (if j < q then d j else d (j + 1)) = d' (j + 1); rw [if_neg (by omega), g1 (j + 1) (by omega)])
  rw [h2] at a
  rw [g2] at b
  exact (a.trans (List.Perm.append_right _ c)).trans b.symm
/-- counts -/
theorem cv_rows (p : Ent → Bool) (e : Nat → Ent) : ∀ k, kb_cv (fun j => p (e j)) k = (rows e k).countP p
  | 0 => rfl
  | k + 1 => by
    rw [rows_s, List.countP_append, ← cv_rows p e k, List.countP_singleton]
    show (if p (e k) = true then kb_cv (fun j => p (e j)) k + 1 else kb_cv (fun j => p (e j)) k) = _
    by_cases h : p (e k) = true
    · rw [if_pos h, if_pos h]
    · rw [if_neg h, if_neg h]; rfl
theorem cv_c {c c' : Nat → Bool} : ∀ k, (∀ j, j < k → c j = c' j) → kb_cv c k = kb_cv c' k
  | 0, _ => rfl
  | k + 1, h => by
    have q := cv_c k (fun j hj => h j (by omega))
    unfold kb_cv
    rw [q, h k (by omega)]
theorem lg_c {c c' : Nat → Bool} {g : Nat → Int32} : ∀ k, (∀ j, j < k → c j = c' j) → kb_lg c g k = kb_lg c' g k
  | 0, _ => rfl
  | k + 1, h => by
    have q := lg_c (g := g) k (fun j hj => h j (by omega))
    unfold kb_lg
    rw [q, h k (by omega)]
theorem cv_cut {c : Nat → Bool} {r : Nat} : ∀ k, r ≤ k → (∀ j, j < r → c j = true) → (∀ j, r ≤ j → j < k → c j = false) → kb_cv c k = r
  | 0, h, _, _ => by
    have : r = 0 := by omega
    rw [this]; rfl
  | k + 1, h, h1, h2 => by
    by_cases hr : r = k + 1
    · have q := cv_cut (c := c) (r := k) k (Nat.le_refl k) (fun j hj => h1 j (by omega)) (fun j a b => by omega)
      unfold kb_cv
      rw [if_pos (h1 k (by omega)), q, hr]
    · have q := cv_cut (c := c) (r := r) k (by omega) h1 (fun j a b => h2 j a (by omega))
      unfold kb_cv
      rw [if_neg (by rw [h2 k (by omega) (by omega)]; decide), q]
theorem lg_char (c : Nat → Bool) (g : Nat → Int32) : ∀ k, (kb_lg c g k = (-1) ∨ ∃ j, j < k ∧ c j = true ∧ g j = kb_lg c g k) ∧ (∀ j, j < k → c j = true → (g j).toInt ≤ (kb_lg c g k).toInt) ∧ (-1 : Int) ≤ (kb_lg c g k).toInt
  | 0 => ⟨Or.inl rfl, fun j h => absurd h (by omega), by show (-1 : Int) ≤ (-1 : Int32).toInt; decide⟩
  | k + 1 => by
    obtain ⟨h1, h2, h3⟩ := lg_char c g k
    unfold kb_lg
    by_cases h : c k = true ∧ ¬ g k ≤ kb_lg c g k
    · rw [if_pos h]
      have h4 := h.2
      rw [Int32.le_iff_toInt_le] at h4
      refine ⟨Or.inr ⟨k, by omega, h.1, rfl⟩, fun j hj hc => ?_, by omega⟩
      by_cases e : j = k
      · rw [e]; exact Int.le_refl _
      · have := h2 j (by omega) hc
        omega
    · rw [if_neg h]
      refine ⟨?_, fun j hj hc => ?_, h3⟩
      · rcases h1 with h1 | ⟨j, a, b⟩
        · exact Or.inl h1
        · exact Or.inr ⟨j, by omega, b⟩
      · by_cases e : j = k
        · subst e
          have h5 : g j ≤ kb_lg c g j := Classical.byContradiction (fun q => h ⟨hc, q⟩)
          rw [Int32.le_iff_toInt_le] at h5
          exact h5
        · exact h2 j (by omega) hc
/-- what an entry must be -/
def ekey (e : Ent) : Int := kb_key e.1 e.2.1 e.2.2.1 e.2.2.2.1
def eok (e : Ent) : Prop := kb_addr e.1 e.2.1 e.2.2.1 = true ∧ kb_pre e.1 e.2.1 e.2.2.1 e.2.2.2.1 = true
def Rel (e d : Nat → Ent) (k : Nat) (mf : Int32) (mu ml : Int64) : Prop := k ≤ 1000 ∧ kb_addr mf mu ml = true ∧ sk (fun j => ekey (e j)) k ∧ (∀ x ∈ rows e k, eok x) ∧ (rows e k).Perm (rows d k)
theorem eok_len {e : Ent} (h : eok e) : kb_len e.1 e.2.2.2.1 = true := by
  have h1 := h.2
  unfold kb_pre at h1
  rw [Bool.and_eq_true] at h1
  exact h1.1
section RL
variable {f : Nat → Int32} {u w : Nat → Int64} {g n : Nat → Int32} {F : Nat → Int32} {U V : Nat → Int64} {G M : Nat → Int32} {k : Nat} {mf : Int32} {mu ml : Int64}
theorem rel_m (h : Rel (ro5 f u w g n) (ro5 F U V G M) k mf mu ml) {q : Nat} (hq : q < k) : ∃ j, j < k ∧ ro5 f u w g n j = ro5 F U V G M q := by
  have h1 : ro5 F U V G M q ∈ rows (ro5 F U V G M) k := rows_in.mpr ⟨q, hq, rfl⟩
  exact rows_in.mp (h.2.2.2.2.mem_iff.mpr h1)
theorem rel_s (h : Rel (ro5 f u w g n) (ro5 F U V G M) k mf mu ml) {j : Nat} (hj : j < k) : ∃ q, q < k ∧ ro5 F U V G M q = ro5 f u w g n j := by
  have h1 : ro5 f u w g n j ∈ rows (ro5 f u w g n) k := rows_in.mpr ⟨j, hj, rfl⟩
  exact rows_in.mp (h.2.2.2.2.mem_iff.mp h1)
theorem rel_okS (h : Rel (ro5 f u w g n) (ro5 F U V G M) k mf mu ml) {j : Nat} (hj : j < k) : eok (ro5 f u w g n j) := h.2.2.2.1 _ (rows_in.mpr ⟨j, hj, rfl⟩)
theorem rel_okM (h : Rel (ro5 f u w g n) (ro5 F U V G M) k mf mu ml) {q : Nat} (hq : q < k) : eok (ro5 F U V G M q) := by
  obtain ⟨j, hj, e⟩ := rel_m h hq
  rw [← e]
  exact rel_okS h hj
theorem p_len (h : Rel (ro5 f u w g n) (ro5 F U V G M) k mf mu ml) : ∀ j, j < k → G j = nI (G j).toNatClampNeg ∧ (G j).toNatClampNeg ≤ 128 := by
  intro j hj
  have h1 := kb_len_nI (eok_len (rel_okM h hj))
  refine ⟨h1.1, Nat.le_trans h1.2 ?_⟩
  by_cases q : (ro5 F U V G M j).1 = 4
  · rw [if_pos q]; omega
  · rw [if_neg q]; exact Nat.le_refl _
theorem p_covM (h : Rel (ro5 f u w g n) (ro5 F U V G M) k mf mu ml) : ∀ j, j < k → md_cov F U V G mf mu ml j = kb_cov F U V G mf mu ml j := by
  intro j hj
  have h1 := rel_okM h hj
  have h3 := eok_len h1
  have h2 := h1.1
  exact cov_eq F U V G mf mu ml j h.2.1 h2 h3
theorem p_cov (h : Rel (ro5 f u w g n) (ro5 F U V G M) k mf mu ml) : kb_cv (kb_cov f u w g mf mu ml) k = kb_cv (md_cov F U V G mf mu ml) k := by
  rw [cv_c k (p_covM h)]
  have a := cv_rows (fun e => kb_cov (fun _ => e.1) (fun _ => e.2.1) (fun _ => e.2.2.1) (fun _ => e.2.2.2.1) mf mu ml 0) (ro5 f u w g n) k
  have b := cv_rows (fun e => kb_cov (fun _ => e.1) (fun _ => e.2.1) (fun _ => e.2.2.1) (fun _ => e.2.2.2.1) mf mu ml 0) (ro5 F U V G M) k
  exact a.trans ((h.2.2.2.2.countP_eq _).trans b.symm)
theorem p_long (h : Rel (ro5 f u w g n) (ro5 F U V G M) k mf mu ml) : kb_lg (kb_cov f u w g mf mu ml) g k = kb_lg (md_cov F U V G mf mu ml) G k := by
  rw [lg_c k (p_covM h)]
  obtain ⟨a1, a2, a3⟩ := lg_char (kb_cov f u w g mf mu ml) g k
  obtain ⟨b1, b2, b3⟩ := lg_char (kb_cov F U V G mf mu ml) G k
  generalize kb_lg (kb_cov f u w g mf mu ml) g k = x at a1 a2 a3 ⊢
  generalize kb_lg (kb_cov F U V G mf mu ml) G k = y at b1 b2 b3 ⊢
  have e1 : (-1 : Int32).toInt = -1 := by decide
  apply Int32.toInt_inj.mp
  have le1 : x.toInt ≤ y.toInt := by
    rcases a1 with rfl | ⟨j, hj, hc, hg⟩
    · rw [e1]; exact b3
    · obtain ⟨q, hq, e⟩ := rel_s h hj
      simp only [ro5, Prod.mk.injEq] at e
      obtain ⟨z1, z2, z3, z4, -⟩ := e
      have := b2 q hq (by unfold kb_cov at hc ⊢; rw [z1, z2, z3, z4]; exact hc)
      rw [z4, hg] at this
      exact this
  have le2 : y.toInt ≤ x.toInt := by
    rcases b1 with rfl | ⟨j, hj, hc, hg⟩
    · rw [e1]; exact a3
    · obtain ⟨q, hq, e⟩ := rel_m h hj
      simp only [ro5, Prod.mk.injEq] at e
      obtain ⟨z1, z2, z3, z4, -⟩ := e
      have := a2 q hq (by unfold kb_cov at hc ⊢; rw [z1, z2, z3, z4]; exact hc)
      rw [z4, hg] at this
      exact this
  omega
/-- the place of a key among the class's rows -/
theorem p_pos (h : Rel (ro5 f u w g n) (ro5 F U V G M) k mf mu ml) (fa : Int32) (up lo : Int64) (le : Int32) : kb_fst (kb_ah f u w g fa up lo le) k 0 ≤ k ∧ (∀ j, j < kb_fst (kb_ah f u w g fa up lo le) k 0 → ekey (ro5 f u w g n j) < kb_key fa up lo le) ∧ (∀ j, kb_fst (kb_ah f u w g fa up lo le) k 0 ≤ j → j < k → kb_key fa up lo le ≤ ekey (ro5 f u w g n j)) := by
  have a1 := kb_fst_le (kb_ah f u w g fa up lo le) k 0
  refine ⟨by omega, fun j hj => kb_ah_iff.mp (kb_fst_in _ k 0 j (Nat.zero_le j) hj), fun j h1 h2 => ?_⟩
  have a2 := kb_fst_at (kb_ah f u w g fa up lo le) k 0 (by omega)
  refine sk_ge h.2.2.1 (r := kb_fst (kb_ah f u w g fa up lo le) k 0) ?_ h1 h2
  have a3 : ¬ kb_key (f (kb_fst (kb_ah f u w g fa up lo le) k 0)) (u (kb_fst (kb_ah f u w g fa up lo le) k 0)) (w (kb_fst (kb_ah f u w g fa up lo le) k 0)) (g (kb_fst (kb_ah f u w g fa up lo le) k 0)) < kb_key fa up lo le := fun q => by
    rw [kb_ah_iff.mpr q] at a2
    cases a2
  exact Int.not_lt.mp a3
theorem p_cntS (h : Rel (ro5 f u w g n) (ro5 F U V G M) k mf mu ml) (fa : Int32) (up lo : Int64) (le : Int32) : kb_cv (kb_ah f u w g fa up lo le) k = kb_fst (kb_ah f u w g fa up lo le) k 0 := by
  obtain ⟨h1, h2, h3⟩ := p_pos h fa up lo le
  refine cv_cut k h1 (fun j hj => kb_ah_iff.mpr (h2 j hj)) (fun j a b => ?_)
  have h4 := h3 j a b
  cases hc : kb_ah f u w g fa up lo le j
  · rfl
  · have h5 : ekey (ro5 f u w g n j) < kb_key fa up lo le := kb_ah_iff.mp hc
    omega
theorem p_cnt (h : Rel (ro5 f u w g n) (ro5 F U V G M) k mf mu ml) (fa : Int32) (up lo : Int64) (le : Int32) : kb_fst (kb_ah f u w g fa up lo le) k 0 = kb_cv (md_ah F U V G fa up lo le) k := by
  rw [← p_cntS h, cv_c k (fun j _ => ah_eq F U V G fa up lo le j)]
  have a := cv_rows (fun e => kb_ah (fun _ => e.1) (fun _ => e.2.1) (fun _ => e.2.2.1) (fun _ => e.2.2.2.1) fa up lo le 0) (ro5 f u w g n) k
  have b := cv_rows (fun e => kb_ah (fun _ => e.1) (fun _ => e.2.1) (fun _ => e.2.2.1) (fun _ => e.2.2.2.1) fa up lo le 0) (ro5 F U V G M) k
  exact a.trans ((h.2.2.2.2.countP_eq _).trans b.symm)
theorem st_iff {le : Int32} {j : Nat} : kb_st f u w g mf mu ml le k j = true ↔ j < k ∧ kb_key (f j) (u j) (w j) (g j) = kb_key mf mu ml le := by
  unfold kb_st
  rw [Bool.and_eq_true, Bool.and_eq_true, Bool.and_eq_true, Bool.and_eq_true, Bool.not_eq_true', decide_eq_false_iff_not, decide_eq_true_eq, decide_eq_true_eq, decide_eq_true_eq, decide_eq_true_eq, kb_key_inj, Nat.not_le]
theorem ne_iff {le : Int32} {j : Nat} : md_ne F U V G mf mu ml le j = false ↔ kb_key (F j) (U j) (V j) (G j) = kb_key mf mu ml le := by
  unfold md_ne
  rw [Bool.not_eq_false', Bool.and_eq_true, Bool.and_eq_true, Bool.and_eq_true, decide_eq_true_eq, decide_eq_true_eq, decide_eq_true_eq, decide_eq_true_eq, kb_key_inj]
theorem fst_lt {P : Nat → Bool} {j : Nat} (hj : j < k) (h : P j = false) : kb_fst P k 0 < k := by
  rcases Nat.lt_or_ge (kb_fst P k 0) k with q | q
  · exact q
  · have := kb_fst_in P k 0 j (Nat.zero_le j) (by omega)
    rw [h] at this
    cases this
/-- both have it, or none; and then it is one entry -/
theorem p_both (h : Rel (ro5 f u w g n) (ro5 F U V G M) k mf mu ml) (le : Int32) (hq : kb_fst (md_ne F U V G mf mu ml le) k 0 < k) : kb_st f u w g mf mu ml le k (kb_fst (kb_ah f u w g mf mu ml le) k 0) = true ∧ ro5 f u w g n (kb_fst (kb_ah f u w g mf mu ml le) k 0) = ro5 F U V G M (kb_fst (md_ne F U V G mf mu ml le) k 0) := by
  have a1 := kb_fst_at (md_ne F U V G mf mu ml le) k 0 (by omega)
  rw [ne_iff] at a1
  obtain ⟨j, hj, e⟩ := rel_m h hq
  have e2 := e
  simp only [ro5, Prod.mk.injEq] at e2
  obtain ⟨z1, z2, z3, z4, -⟩ := e2
  rw [← z1, ← z2, ← z3, ← z4] at a1
  obtain ⟨h1, h2, h3⟩ := p_pos h mf mu ml le
  have hjr : j = kb_fst (kb_ah f u w g mf mu ml le) k 0 := by
    rcases Nat.lt_trichotomy j (kb_fst (kb_ah f u w g mf mu ml le) k 0) with q | q | q
    · have b : ekey (ro5 f u w g n j) < kb_key mf mu ml le := h2 j q
      have c : ekey (ro5 f u w g n j) = kb_key mf mu ml le := a1
      omega
    · exact q
    · have b : kb_key mf mu ml le ≤ ekey (ro5 f u w g n (kb_fst (kb_ah f u w g mf mu ml le) k 0)) := h3 _ (Nat.le_refl _) (by omega)
      have c : ekey (ro5 f u w g n j) = kb_key mf mu ml le := a1
      have d := h.2.2.1 _ j q hj
      simp only at d
      omega
  rw [← hjr]
  exact ⟨st_iff.mpr ⟨hj, a1⟩, e⟩
theorem p_back (h : Rel (ro5 f u w g n) (ro5 F U V G M) k mf mu ml) (le : Int32) (hs : kb_st f u w g mf mu ml le k (kb_fst (kb_ah f u w g mf mu ml le) k 0) = true) : kb_fst (md_ne F U V G mf mu ml le) k 0 < k := by
  obtain ⟨h1, h2⟩ := st_iff.mp hs
  obtain ⟨q, hq, e⟩ := rel_s h h1
  simp only [ro5, Prod.mk.injEq] at e
  obtain ⟨z1, z2, z3, z4, -⟩ := e
  exact fst_lt hq (ne_iff.mpr (by rw [z1, z2, z3, z4]; exact h2))
end RL
