/-! PURE: each call keeps the two sides together -/
theorem up_lt {α : Type} (f : Nat → α) {r k j : Nat} (h : j < r) : kb_up f r k j = f j := by unfold kb_up; rw [if_neg (by omega)]
theorem up_gt {α : Type} (f : Nat → α) {r k j : Nat} (h : r ≤ j) (h2 : j < k) : kb_up f r k (j + 1) = f j := by unfold kb_up; rw [if_pos (by omega), Nat.add_sub_cancel]
theorem dn_lt {α : Type} (f : Nat → α) {r k j : Nat} (h : j < r) : kb_dn f r k j = f j := by unfold kb_dn; rw [if_neg (by omega)]
theorem dn_gt {α : Type} (f : Nat → α) {r k j : Nat} (h : r ≤ j) (h2 : j < k) : kb_dn f r k j = f (j + 1) := by unfold kb_dn; rw [if_pos (by omega)]
section ST
variable {f : Nat → Int32} {u w : Nat → Int64} {g n : Nat → Int32} {F : Nat → Int32} {U V : Nat → Int64} {G M : Nat → Int32} {k r j : Nat} {mf le nu : Int32} {mu ml : Int64}
theorem ins_lt (h : j < r) : ro5 (upd (kb_up f r k) r mf) (vp_updL (kb_up u r k) r mu) (vp_updL (kb_up w r k) r ml) (upd (kb_up g r k) r le) (upd (kb_up n r k) r nu) j = ro5 f u w g n j := by
  have hne : j ≠ r := by omega
  show (upd (kb_up f r k) r mf j, vp_updL (kb_up u r k) r mu j, vp_updL (kb_up w r k) r ml j, upd (kb_up g r k) r le j, upd (kb_up n r k) r nu j) = (f j, u j, w j, g j, n j)
  rw [pk_un hne, pk_uLn hne, pk_uLn hne, pk_un hne, pk_un hne, up_lt f h, up_lt u h, up_lt w h, up_lt g h, up_lt n h]
theorem ins_at : ro5 (upd (kb_up f r k) r mf) (vp_updL (kb_up u r k) r mu) (vp_updL (kb_up w r k) r ml) (upd (kb_up g r k) r le) (upd (kb_up n r k) r nu) r = (mf, mu, ml, le, nu) := by
  show (upd (kb_up f r k) r mf r, vp_updL (kb_up u r k) r mu r, vp_updL (kb_up w r k) r ml r, upd (kb_up g r k) r le r, upd (kb_up n r k) r nu r) = _
  rw [pk_us, pk_uLs, pk_uLs, pk_us, pk_us]
theorem ins_gt (h : r ≤ j) (h2 : j < k) : ro5 (upd (kb_up f r k) r mf) (vp_updL (kb_up u r k) r mu) (vp_updL (kb_up w r k) r ml) (upd (kb_up g r k) r le) (upd (kb_up n r k) r nu) (j + 1) = ro5 f u w g n j := by
  have hne : j + 1 ≠ r := by omega
  show (upd (kb_up f r k) r mf (j + 1), vp_updL (kb_up u r k) r mu (j + 1), vp_updL (kb_up w r k) r ml (j + 1), upd (kb_up g r k) r le (j + 1), upd (kb_up n r k) r nu (j + 1)) = (f j, u j, w j, g j, n j)
  rw [pk_un hne, pk_uLn hne, pk_uLn hne, pk_un hne, pk_un hne, up_gt f h h2, up_gt u h h2, up_gt w h h2, up_gt g h h2, up_gt n h h2]
theorem app_lt (h : j < k) : ro5 (upd F k mf) (vp_updL U k mu) (vp_updL V k ml) (upd G k le) (upd M k nu) j = ro5 F U V G M j := by
  have hne : j ≠ k := by omega
  show (upd F k mf j, vp_updL U k mu j, vp_updL V k ml j, upd G k le j, upd M k nu j) = (F j, U j, V j, G j, M j)
  rw [pk_un hne, pk_uLn hne, pk_uLn hne, pk_un hne, pk_un hne]
theorem app_at : ro5 (upd F k mf) (vp_updL U k mu) (vp_updL V k ml) (upd G k le) (upd M k nu) k = (mf, mu, ml, le, nu) := by
  show (upd F k mf k, vp_updL U k mu k, vp_updL V k ml k, upd G k le k, upd M k nu k) = _
  rw [pk_us, pk_uLs, pk_uLs, pk_us, pk_us]
theorem del_lt (h : j < r) : ro5 (kb_dn f r k) (kb_dn u r k) (kb_dn w r k) (kb_dn g r k) (kb_dn n r k) j = ro5 f u w g n j := by
  show (kb_dn f r k j, kb_dn u r k j, kb_dn w r k j, kb_dn g r k j, kb_dn n r k j) = (f j, u j, w j, g j, n j)
  rw [dn_lt f h, dn_lt u h, dn_lt w h, dn_lt g h, dn_lt n h]
theorem del_gt (h : r ≤ j) (h2 : j < k) : ro5 (kb_dn f r k) (kb_dn u r k) (kb_dn w r k) (kb_dn g r k) (kb_dn n r k) j = ro5 f u w g n (j + 1) := by
  show (kb_dn f r k j, kb_dn u r k j, kb_dn w r k j, kb_dn g r k j, kb_dn n r k j) = (f (j + 1), u (j + 1), w (j + 1), g (j + 1), n (j + 1))
  rw [dn_gt f h h2, dn_gt u h h2, dn_gt w h h2, dn_gt g h h2, dn_gt n h h2]
theorem p_new (h : Rel (ro5 f u w g n) (ro5 F U V G M) k mf mu ml) (hk : k < 1000) (hp : kb_pre mf mu ml le = true) (hr : kb_fst (kb_ah f u w g mf mu ml le) k 0 = r) (hs : ¬ kb_st f u w g mf mu ml le k r = true) :
    Rel (ro5 (upd (kb_up f r k) r mf) (vp_updL (kb_up u r k) r mu) (vp_updL (kb_up w r k) r ml) (upd (kb_up g r k) r le) (upd (kb_up n r k) r nu)) (ro5 (upd F k mf) (vp_updL U k mu) (vp_updL V k ml) (upd G k le) (upd M k nu)) (k + 1) mf mu ml := by
  obtain ⟨h1, h2, h3⟩ := p_pos h mf mu ml le
  rw [hr] at h1 h2 h3
  have hS : (rows (ro5 (upd (kb_up f r k) r mf) (vp_updL (kb_up u r k) r mu) (vp_updL (kb_up w r k) r ml) (upd (kb_up g r k) r le) (upd (kb_up n r k) r nu)) (k + 1)).Perm (rows (ro5 f u w g n) k ++ [(mf, mu, ml, le, nu)]) :=
    rows_ins (fun j hj => ins_lt hj) ins_at k h1 (fun j a b => ins_gt a b)
  have hM : (rows (ro5 (upd F k mf) (vp_updL U k mu) (vp_updL V k ml) (upd G k le) (upd M k nu)) (k + 1)).Perm (rows (ro5 F U V G M) k ++ [(mf, mu, ml, le, nu)]) :=
    rows_ins (fun j hj => app_lt hj) app_at k (Nat.le_refl k) (fun j a b => by omega)
  have h4 : ∀ j, r ≤ j → j < k → kb_key mf mu ml le < ekey (ro5 f u w g n j) := by
    intro j a b
    have c1 := h3 r (Nat.le_refl r) (by omega)
    have c2 : ekey (ro5 f u w g n r) ≠ kb_key mf mu ml le := fun q => hs (st_iff.mpr ⟨by omega, q⟩)
    by_cases e : r = j
    · rw [← e]; omega
    · have c3 := h.2.2.1 r j (by omega) b
      simp only at c3
      omega
  refine ⟨by omega, h.2.1, ?_, ?_, ?_⟩
  · exact sk_ins (K := kb_key mf mu ml le) h.2.2.1 h1 h2 h4 (fun j hj => by show ekey _ = ekey _; rw [ins_lt hj]) (by show ekey _ = _; rw [ins_at]; rfl) (fun j a b => by
      obtain ⟨i, rfl⟩ : ∃ i, j = i + 1 := ⟨j - 1, by omega⟩
      show ekey _ = ekey _
      rw [ins_gt (by omega) (by omega), Nat.add_sub_cancel])
  · intro x hx
    rcases List.mem_append.mp (hS.mem_iff.mp hx) with q | q
    · exact h.2.2.2.1 x q
    · rw [List.mem_singleton.mp q]
      exact ⟨h.2.1, hp⟩
  · exact (hS.trans (List.Perm.append_right _ h.2.2.2.2)).trans hM.symm
theorem p_upd {q : Nat} (h : Rel (ro5 f u w g n) (ro5 F U V G M) k mf mu ml) (hr : r < k) (hq : q < k) (e : ro5 f u w g n r = ro5 F U V G M q) : Rel (ro5 f u w g (upd n r nu)) (ro5 F U V G (upd M q nu)) k mf mu ml := by
  refine ⟨h.1, h.2.1, h.2.2.1, ?_, ?_⟩
  · intro x hx
    obtain ⟨j, hj, rfl⟩ := rows_in.mp hx
    have h1 := rel_okS h hj
    exact ⟨h1.1, h1.2⟩
  · have e2 := e
    simp only [ro5, Prod.mk.injEq] at e2
    obtain ⟨z1, z2, z3, z4, -⟩ := e2
    refine rows_set2 (x := (f r, u r, w r, g r, nu)) h.2.2.2.2 hr hq e (fun j hj => ?_) ?_ (fun j hj => ?_) ?_
    · show (f j, u j, w j, g j, upd n r nu j) = (f j, u j, w j, g j, n j)
      rw [pk_un hj]
    · show (f r, u r, w r, g r, upd n r nu r) = _
      rw [pk_us]
    · show (F j, U j, V j, G j, upd M q nu j) = (F j, U j, V j, G j, M j)
      rw [pk_un hj]
    · show (F q, U q, V q, G q, upd M q nu q) = _
      rw [pk_us, z1, z2, z3, z4]
theorem p_del {q : Nat} (h : Rel (ro5 f u w g n) (ro5 F U V G M) k mf mu ml) (hr : r < k) (hq : q < k) (e : ro5 f u w g n r = ro5 F U V G M q) :
    Rel (ro5 (kb_dn f r (k - 1)) (kb_dn u r (k - 1)) (kb_dn w r (k - 1)) (kb_dn g r (k - 1)) (kb_dn n r (k - 1))) (ro5 (kb_dn F q (k - 1)) (kb_dn U q (k - 1)) (kb_dn V q (k - 1)) (kb_dn G q (k - 1)) (kb_dn M q (k - 1))) (k - 1) mf mu ml := by
  have h0 := h.1
  refine ⟨by omega, h.2.1, ?_, ?_, ?_⟩
  · exact sk_del h.2.2.1 hr (fun j hj => by show ekey _ = ekey _; rw [del_lt hj]) (fun j a b => by show ekey _ = ekey _; rw [del_gt a (by omega)])
  · intro x hx
    have hp := rows_del (e := ro5 f u w g n) (e' := ro5 (kb_dn f r (k - 1)) (kb_dn u r (k - 1)) (kb_dn w r (k - 1)) (kb_dn g r (k - 1)) (kb_dn n r (k - 1))) hr (fun j hj => del_lt hj) (fun j a b => del_gt a (by omega))
    exact h.2.2.2.1 x (hp.mem_iff.mpr (List.mem_append_left _ hx))
  · exact rows_del2 h.2.2.2.2 hr hq e (fun j hj => del_lt hj) (fun j a b => del_gt a (by omega)) (fun j hj => del_lt hj) (fun j a b => del_gt a (by omega))
theorem p_adr (h : Rel (ro5 f u w g n) (ro5 F U V G M) k mf mu ml) {fa : Int32} {up lo : Int64} (ha : kb_addr fa up lo = true) : Rel (ro5 f u w g n) (ro5 F U V G M) k fa up lo := ⟨h.1, ha, h.2.2⟩
theorem p_self (h : Rel (ro5 f u w g n) (ro5 F U V G M) k mf mu ml) (hj : j < k) : kb_fst (kb_ah f u w g (f j) (u j) (w j) (g j)) k 0 = j := by
  refine kb_fst_eq _ k j (by omega) (fun i hi => kb_ah_iff.mpr (h.2.2.1 i j hi hj)) (Or.inr ?_)
  cases hc : kb_ah f u w g (f j) (u j) (w j) (g j) j
  · rfl
  · have := kb_ah_iff.mp hc
    omega
theorem p_ct (h : Rel (ro5 f u w g n) (ro5 F U V G M) k mf mu ml) {q : Nat} (hj : j < k) (e : ro5 f u w g n j = ro5 F U V G M q) : md_ct F U V G k q = j := by
  unfold md_ct
  rw [← p_cnt h]
  simp only [ro5, Prod.mk.injEq] at e
  obtain ⟨z1, z2, z3, z4, -⟩ := e
  rw [← z1, ← z2, ← z3, ← z4]
  exact p_self h hj
theorem p_at (h : Rel (ro5 f u w g n) (ro5 F U V G M) k mf mu ml) (hr : r < k) {R : Nat} (hR : kb_fst (fun q => !decide (md_ct F U V G k q = r)) k 0 = R) : R < k ∧ F R = f r ∧ U R = u r ∧ V R = w r ∧ G R = g r ∧ Rel (ro5 f u w g n) (ro5 F U V G M) k (f r) (u r) (w r) := by
  obtain ⟨q, hq, e⟩ := rel_s h hr
  have h1 : kb_fst (fun q => !decide (md_ct F U V G k q = r)) k 0 < k := fst_lt hq (by
    show (!decide (md_ct F U V G k q = r)) = false
    rw [p_ct h hr e.symm]
    simp)
  have h2 := kb_fst_at (fun q => !decide (md_ct F U V G k q = r)) k 0 (by omega)
  rw [hR] at h1 h2
  obtain ⟨j, hj, e2⟩ := rel_m h h1
  have h3 : md_ct F U V G k R = r := by
    have h4 : (!decide (md_ct F U V G k R = r)) = false := h2
    rw [Bool.not_eq_false', decide_eq_true_eq] at h4
    exact h4
  rw [p_ct h hj e2] at h3
  subst h3
  simp only [ro5, Prod.mk.injEq] at e2
  obtain ⟨z1, z2, z3, z4, -⟩ := e2
  exact ⟨h1, z1.symm, z2.symm, z3.symm, z4.symm, p_adr h (rel_okS h hj).1⟩
theorem p_ahead (h : Rel (ro5 f u w g n) (ro5 F U V G M) k mf mu ml) (le : Int32) : (if kb_len mf le = true then nI (kb_fst (kb_ah f u w g mf mu ml le) k 0) else (-1)) = (if kb_len mf le = true then nI (kb_cv (md_ah F U V G mf mu ml le) k) else (-1)) := by
  rw [p_cnt h]
end ST
theorem p_put {x a1 a2 a3 a4 a5 : Nat} {k1 k2 k3 k4 k5 : ClassId} {y b1 b2 b3 b4 b5 : Nat} {m1 m2 m3 m4 m5 : ClassId} {f : Nat → Int32} {u w : Nat → Int64} {g n : Nat → Int32} {F : Nat → Int32} {U V : Nat → Int64} {G M : Nat → Int32} {k : Nat} {mf : Int32} {mu ml : Int64} (h : Rel (ro5 f u w g n) (ro5 F U V G M) k mf mu ml) (le nu : Int32) : ∃ (f' : Nat → Int32) (u' w' : Nat → Int64) (g' n' : Nat → Int32) (F' : Nat → Int32) (U' V' : Nat → Int64) (G' M' : Nat → Int32) (k' : Nat), (if kb_pre mf mu ml le = true then (if kb_st f u w g mf mu ml le k (kb_fst (kb_ah f u w g mf mu ml le) k 0) = true then (pbw x a1 a2 a3 a4 a5 k1 k2 k3 k4 k5 f u w g (upd n (kb_fst (kb_ah f u w g mf mu ml le) k 0) nu) k mf mu ml) else if k < 1000 then (pbw x a1 a2 a3 a4 a5 k1 k2 k3 k4 k5 (upd (kb_up f (kb_fst (kb_ah f u w g mf mu ml le) k 0) k) (kb_fst (kb_ah f u w g mf mu ml le) k 0) mf) (vp_updL (kb_up u (kb_fst (kb_ah f u w g mf mu ml le) k 0) k) (kb_fst (kb_ah f u w g mf mu ml le) k 0) mu) (vp_updL (kb_up w (kb_fst (kb_ah f u w g mf mu ml le) k 0) k) (kb_fst (kb_ah f u w g mf mu ml le) k 0) ml) (upd (kb_up g (kb_fst (kb_ah f u w g mf mu ml le) k 0) k) (kb_fst (kb_ah f u w g mf mu ml le) k 0) le) (upd (kb_up n (kb_fst (kb_ah f u w g mf mu ml le) k 0) k) (kb_fst (kb_ah f u w g mf mu ml le) k 0) nu) (k + 1) mf mu ml) else (pbw x a1 a2 a3 a4 a5 k1 k2 k3 k4 k5 f u w g n k mf mu ml)) else (pbw x a1 a2 a3 a4 a5 k1 k2 k3 k4 k5 f u w g n k mf mu ml)) = pbw x a1 a2 a3 a4 a5 k1 k2 k3 k4 k5 f' u' w' g' n' k' mf mu ml ∧ (if md_pre mf mu ml le = true then (if kb_fst (md_ne F U V G mf mu ml le) k 0 < k then (mdw y b1 b2 b3 b4 b5 m1 m2 m3 m4 m5 F U V G (upd M (kb_fst (md_ne F U V G mf mu ml le) k 0) nu) k mf mu ml) else if k = 1000 then (mdw y b1 b2 b3 b4 b5 m1 m2 m3 m4 m5 F U V G M k mf mu ml) else (mdw y b1 b2 b3 b4 b5 m1 m2 m3 m4 m5 (upd F k mf) (vp_updL U k mu) (vp_updL V k ml) (upd G k le) (upd M k nu) (k + 1) mf mu ml)) else (mdw y b1 b2 b3 b4 b5 m1 m2 m3 m4 m5 F U V G M k mf mu ml)) = mdw y b1 b2 b3 b4 b5 m1 m2 m3 m4 m5 F' U' V' G' M' k' mf mu ml ∧ (if kb_pre mf mu ml le = true then (if kb_st f u w g mf mu ml le k (kb_fst (kb_ah f u w g mf mu ml le) k 0) = true then (0 : Int32) else if k < 1000 then 1 else (-1)) else (-1)) = (if md_pre mf mu ml le = true then (if kb_fst (md_ne F U V G mf mu ml le) k 0 < k then (0 : Int32) else if k = 1000 then (-1) else 1) else (-1)) ∧ Rel (ro5 f' u' w' g' n') (ro5 F' U' V' G' M') k' mf mu ml := by
  rw [pre_eq]
  have h0 := h.1
  by_cases hp : kb_pre mf mu ml le = true
  · rw [if_pos hp, if_pos hp, if_pos hp, if_pos hp]
    by_cases hs : kb_st f u w g mf mu ml le k (kb_fst (kb_ah f u w g mf mu ml le) k 0) = true
    · have hq := p_back h le hs
      have hb := p_both h le hq
      rw [if_pos hs, if_pos hs, if_pos hq, if_pos hq]
      exact ⟨_, _, _, _, _, _, _, _, _, _, _, rfl, rfl, rfl, p_upd h (kb_st_lt hs) hq hb.2⟩
    · have hq : ¬ kb_fst (md_ne F U V G mf mu ml le) k 0 < k := fun q => hs (p_both h le q).1
      rw [if_neg hs, if_neg hs, if_neg hq, if_neg hq]
      by_cases hk : k < 1000
      · have hk2 : ¬ k = 1000 := by omega
        rw [if_pos hk, if_pos hk, if_neg hk2, if_neg hk2]
        exact ⟨_, _, _, _, _, _, _, _, _, _, _, rfl, rfl, rfl, p_new h hk hp rfl hs⟩
      · have hk2 : k = 1000 := by omega
        rw [if_neg hk, if_neg hk, if_pos hk2, if_pos hk2]
        exact ⟨_, _, _, _, _, _, _, _, _, _, _, rfl, rfl, rfl, h⟩
  · rw [if_neg hp, if_neg hp, if_neg hp, if_neg hp]
    exact ⟨_, _, _, _, _, _, _, _, _, _, _, rfl, rfl, rfl, h⟩
theorem p_remove {x a1 a2 a3 a4 a5 : Nat} {k1 k2 k3 k4 k5 : ClassId} {y b1 b2 b3 b4 b5 : Nat} {m1 m2 m3 m4 m5 : ClassId} {f : Nat → Int32} {u w : Nat → Int64} {g n : Nat → Int32} {F : Nat → Int32} {U V : Nat → Int64} {G M : Nat → Int32} {k : Nat} {mf : Int32} {mu ml : Int64} (h : Rel (ro5 f u w g n) (ro5 F U V G M) k mf mu ml) (le : Int32) : ∃ (f' : Nat → Int32) (u' w' : Nat → Int64) (g' n' : Nat → Int32) (F' : Nat → Int32) (U' V' : Nat → Int64) (G' M' : Nat → Int32) (k' : Nat), (if kb_pre mf mu ml le = true then (if kb_st f u w g mf mu ml le k (kb_fst (kb_ah f u w g mf mu ml le) k 0) = true then (pbw x a1 a2 a3 a4 a5 k1 k2 k3 k4 k5 (kb_dn f (kb_fst (kb_ah f u w g mf mu ml le) k 0) (k - 1)) (kb_dn u (kb_fst (kb_ah f u w g mf mu ml le) k 0) (k - 1)) (kb_dn w (kb_fst (kb_ah f u w g mf mu ml le) k 0) (k - 1)) (kb_dn g (kb_fst (kb_ah f u w g mf mu ml le) k 0) (k - 1)) (kb_dn n (kb_fst (kb_ah f u w g mf mu ml le) k 0) (k - 1)) (k - 1) mf mu ml) else (pbw x a1 a2 a3 a4 a5 k1 k2 k3 k4 k5 f u w g n k mf mu ml)) else (pbw x a1 a2 a3 a4 a5 k1 k2 k3 k4 k5 f u w g n k mf mu ml)) = pbw x a1 a2 a3 a4 a5 k1 k2 k3 k4 k5 f' u' w' g' n' k' mf mu ml ∧ (if md_pre mf mu ml le = true then (if kb_fst (md_ne F U V G mf mu ml le) k 0 < k then (mdw y b1 b2 b3 b4 b5 m1 m2 m3 m4 m5 (kb_dn F (kb_fst (md_ne F U V G mf mu ml le) k 0) (k - 1)) (kb_dn U (kb_fst (md_ne F U V G mf mu ml le) k 0) (k - 1)) (kb_dn V (kb_fst (md_ne F U V G mf mu ml le) k 0) (k - 1)) (kb_dn G (kb_fst (md_ne F U V G mf mu ml le) k 0) (k - 1)) (kb_dn M (kb_fst (md_ne F U V G mf mu ml le) k 0) (k - 1)) (k - 1) mf mu ml) else (mdw y b1 b2 b3 b4 b5 m1 m2 m3 m4 m5 F U V G M k mf mu ml)) else (mdw y b1 b2 b3 b4 b5 m1 m2 m3 m4 m5 F U V G M k mf mu ml)) = mdw y b1 b2 b3 b4 b5 m1 m2 m3 m4 m5 F' U' V' G' M' k' mf mu ml ∧ (if kb_pre mf mu ml le = true then (if kb_st f u w g mf mu ml le k (kb_fst (kb_ah f u w g mf mu ml le) k 0) = true then (1 : Int32) else 0) else (-1)) = (if md_pre mf mu ml le = true then (if kb_fst (md_ne F U V G mf mu ml le) k 0 < k then (1 : Int32) else 0) else (-1)) ∧ Rel (ro5 f' u' w' g' n') (ro5 F' U' V' G' M') k' mf mu ml := by
  rw [pre_eq]
  by_cases hp : kb_pre mf mu ml le = true
  · rw [if_pos hp, if_pos hp, if_pos hp, if_pos hp]
    by_cases hs : kb_st f u w g mf mu ml le k (kb_fst (kb_ah f u w g mf mu ml le) k 0) = true
    · have hq := p_back h le hs
      have hb := p_both h le hq
      rw [if_pos hs, if_pos hs, if_pos hq, if_pos hq]
      exact ⟨_, _, _, _, _, _, _, _, _, _, _, rfl, rfl, rfl, p_del h (kb_st_lt hs) hq hb.2⟩
    · have hq : ¬ kb_fst (md_ne F U V G mf mu ml le) k 0 < k := fun q => hs (p_both h le q).1
      rw [if_neg hs, if_neg hs, if_neg hq, if_neg hq]
      exact ⟨_, _, _, _, _, _, _, _, _, _, _, rfl, rfl, rfl, h⟩
  · rw [if_neg hp, if_neg hp, if_neg hp, if_neg hp]
    exact ⟨_, _, _, _, _, _, _, _, _, _, _, rfl, rfl, rfl, h⟩
theorem p_number {f : Nat → Int32} {u w : Nat → Int64} {g n : Nat → Int32} {F : Nat → Int32} {U V : Nat → Int64} {G M : Nat → Int32} {k : Nat} {mf : Int32} {mu ml : Int64} (h : Rel (ro5 f u w g n) (ro5 F U V G M) k mf mu ml) (le : Int32) : (if kb_st f u w g mf mu ml le k (kb_fst (kb_ah f u w g mf mu ml le) k 0) = true then n (kb_fst (kb_ah f u w g mf mu ml le) k 0) else (-2147483648)) = (if md_pre mf mu ml le = true then (if kb_fst (md_ne F U V G mf mu ml le) k 0 < k then M (kb_fst (md_ne F U V G mf mu ml le) k 0) else (-2147483648)) else (-2147483648)) := by
  rw [pre_eq]
  by_cases hs : kb_st f u w g mf mu ml le k (kb_fst (kb_ah f u w g mf mu ml le) k 0) = true
  · have hq := p_back h le hs
    have hb := (p_both h le hq).2
    have h1 := st_iff.mp hs
    have h9 := (rel_okS h h1.1).2
    have h3 := kb_key_inj.mp h1.2
    have h4 : kb_pre mf mu ml le = true := by
      have h2 : kb_pre (f (kb_fst (kb_ah f u w g mf mu ml le) k 0)) (u (kb_fst (kb_ah f u w g mf mu ml le) k 0)) (w (kb_fst (kb_ah f u w g mf mu ml le) k 0)) (g (kb_fst (kb_ah f u w g mf mu ml le) k 0)) = true := h9
      rw [h3.1, h3.2.1, h3.2.2.1, h3.2.2.2] at h2
      exact h2
    rw [if_pos hs, if_pos h4, if_pos hq]
    simp only [ro5, Prod.mk.injEq] at hb
    exact hb.2.2.2.2
  · have hq : ¬ kb_fst (md_ne F U V G mf mu ml le) k 0 < k := fun q => hs (p_both h le q).1
    rw [if_neg hs, if_neg hq]
    by_cases hp : kb_pre mf mu ml le = true
    · rw [if_pos hp]
    · rw [if_neg hp]
theorem p_address {x a1 a2 a3 a4 a5 : Nat} {k1 k2 k3 k4 k5 : ClassId} {y b1 b2 b3 b4 b5 : Nat} {m1 m2 m3 m4 m5 : ClassId} {f : Nat → Int32} {u w : Nat → Int64} {g n : Nat → Int32} {F : Nat → Int32} {U V : Nat → Int64} {G M : Nat → Int32} {k : Nat} {mf : Int32} {mu ml : Int64} (h : Rel (ro5 f u w g n) (ro5 F U V G M) k mf mu ml) (fa : Int32) (up lo : Int64) : ∃ (mf' : Int32) (mu' ml' : Int64), (if kb_addr fa up lo = true then (pbw x a1 a2 a3 a4 a5 k1 k2 k3 k4 k5 f u w g n k fa up lo) else (pbw x a1 a2 a3 a4 a5 k1 k2 k3 k4 k5 f u w g n k mf mu ml)) = pbw x a1 a2 a3 a4 a5 k1 k2 k3 k4 k5 f u w g n k mf' mu' ml' ∧ (if kb_addr fa up lo = true then (mdw y b1 b2 b3 b4 b5 m1 m2 m3 m4 m5 F U V G M k fa up lo) else (mdw y b1 b2 b3 b4 b5 m1 m2 m3 m4 m5 F U V G M k mf mu ml)) = mdw y b1 b2 b3 b4 b5 m1 m2 m3 m4 m5 F U V G M k mf' mu' ml' ∧ Rel (ro5 f u w g n) (ro5 F U V G M) k mf' mu' ml' := by
  by_cases ha : kb_addr fa up lo = true
  · rw [if_pos ha, if_pos ha]
    exact ⟨_, _, _, rfl, rfl, p_adr h ha⟩
  · rw [if_neg ha, if_neg ha]
    exact ⟨_, _, _, rfl, rfl, h⟩
