/-! RULES OF THE LAW'S WALK -/
section LR
variable {p : Program} {l : Launch} {e : Env} {R : Room} {s : State} {m : MethodId} {args : Array Value} {below : List Frame} {meth : Method} {c : Code} {H : Heap} {locs : List Loc} {cells slots : Nat} {Q : State → Prop}
variable {pc : Nat} {ls : Array Slot} {rest : List Value} {cc : ByteArray} {A : Nat → Prop} {H0 : Heap}
theorem ld_s (hexec : p.tables.exec = Jvm.exec) (hb : c.code = cc) {b L : Nat} {xs : Nat → Int32} (hX : va_X b L xs s H0) (hbl : b < H0.size) (hbA : ¬ A b) (hS : va_S A H0 H locs) {j : Nat} (hj : j < L) (hL : L ≤ 3072) (hdg : decode cc pc = .ok (.iaload, 1))
    (kk : W p l e R s m args below meth c H locs cells slots Q (F0 m (pc + 1) ls (.int (xs j) :: rest))) : W p l e R s m args below meth c H locs cells slots Q (F0 m pc ls (.int (nI j) :: .ref b :: rest)) := by
  refine va_sld hexec hb hX hbl hbA hS (vp_in_nI hj (by omega)) hdg ?_
  rw [nI_clamp (by omega)]
  exact kk
end LR
theorem keep_o {D : va_G} {cl : List vw_C} {ws : va_W} {H H1 : Heap} {A1 : Nat → Prop} (hP : va_P D cl ws H) (hno : ∀ (k : Nat) (q : Nat × va_E), ws[k]? = some q → ¬ A1 q.1) (hk : ∀ q : Nat, q < H.size → ¬ A1 q → H1[q]? = H[q]?) : va_P D cl ws H1 :=
  hP.kept (fun k q h => hk q.1 (hP k q h).lt (hno k q h))
theorem sep_of {A : Nat → Prop} {w1 w2 : va_W} (hD : va_D A (w1 ++ w2)) : ∀ q : Nat, (∃ (k : Nat) (e : va_E), w2[k]? = some (q, e)) → ¬ ∃ (k : Nat) (e : va_E), w1[k]? = some (q, e) := by
  rintro q ⟨k2, e2, h2⟩ ⟨k1, e1, h1⟩
  have l1 : k1 < w1.length := (List.getElem?_eq_some_iff.mp h1).1
  have a1 : (w1 ++ w2)[k1]? = some (q, e1) := by rw [List.getElem?_append_left l1]; exact h1
  have a2 : (w1 ++ w2)[w1.length + k2]? = some (q, e2) := by rw [List.getElem?_append_right (by omega), Nat.add_sub_cancel_left]; exact h2
  have := hD.1 k1 (w1.length + k2) _ _ a1 a2 rfl
  omega
theorem lw_gt {L i : Nat} (hL : L ≤ 3072) (hi : i ≤ L) : (nI L - 6 < nI i) ↔ L < i + 6 := by
  rw [Int32.lt_iff_toInt_lt, show (6 : Int32) = nI 6 from rfl, pk_sub_toInt (by omega) (by omega), nI_toInt (by omega)]
  omega
