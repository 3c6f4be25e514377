set_option maxHeartbeats 4000000 in
set_option maxRecDepth 100000 in
theorem c_X0_countAhead (l : Launch) (dC : Nat → ClassId) (dI : Nat → Nat → Nat) {x a1 a2 a3 a4 a5 : Nat} {k1 k2 k3 k4 k5 : ClassId} {f : Nat → Int32} {u w : Nat → Int64} {g n : Nat → Int32} {k : Nat} {mf : Int32} {mu ml : Int64} (le : Int32) (Hh : Heap) (hk : k ≤ 1000) (hP : va_P (dC, dI) classes (pbw x a1 a2 a3 a4 a5 k1 k2 k3 k4 k5 f u w g n k mf mu ml) Hh) : Met l yX0_countAhead (ww yX0_countAhead cX0_countAhead 3 (some .int)) ({ frames := 2, cells := 0, slots := 0, locals := 45 } : Room) (va_Pc [.ref x, .int le] (fun U => U.heap = Hh ∧ va_K (dC, dI) classes (pbt k1 k2 k3 k4 k5) U)) (va_Qi (fun r (_ : Unit) => r = (nI (kb_fst (kb_ah f u w g mf mu ml le) k 0))) (fun _ t => t.heap = Hh) (fun _ => False)) 0 0 (fun _ => False) := by
  refine Met.ofW (cc := cX0_countAhead) (maxL := 3) (ret := (some .int)) (by decide) rfl ?_
  intro p e s m args below meth c s₁ B hml hv
  obtain ⟨rfl, hHh, hK⟩ := hv
  subst hHh
  have hx := B.exec
  have hb := B.bytes
  have hr := B.returns
  have hts := atoms_spec (ws := ww yX0_countAhead cX0_countAhead 3 (some .int)) B.pre
  have htl : ∀ w ∈ ltg, w.before [.ref x, .int le].toArray s = true := fun w h => hts w (List.mem_cons_of_mem _ h)
  have hown : s.vm.findClass RX0 = some m.cls := findClass_of_methodNamed B.named
  have hlocks := B.notSynchronized
  have hl := lv_entry ([.ref x, .int le]) (n := 3) (Nat.le_of_ble_eq_true rfl)
  rw [lg_entry_eq]
  generalize (lg_sl ([.ref x, .int le]) ++ List.replicate (3 - (lg_sl ([.ref x, .int le])).length) Slot.unset).toArray = ls at hl ⊢
  have hl : lv_has ls 3 [(0, .ref x), (1, .int le)] := hl
  refine lv_iconst (v := nI 0) hx hb dX0_countAhead_0 (by decide) ?_
  refine lv_istore_n (lv' := [(2, .int (nI 0)), (0, .ref x), (1, .int le)]) hx hb dX0_countAhead_1 rfl hl (by decide) rfl (fun ls hl => ?_)
  have loop : ∀ (d i : Nat), i ≤ k → k + 1 ≤ i + d → (∀ j, j < i → kb_ah f u w g mf mu ml le j = true) → ∀ (ls : Array Slot), lv_has ls 3 [(0, .ref x), (1, .int le), (2, .int (nI i))] → W p l e ({ frames := 2, cells := 0, slots := 0, locals := 45 } : Room) s m ([.ref x, .int le] : List Value).toArray below meth c s.heap [] 0 0 (MQ below (va_Qi (fun r (_ : Unit) => r = (nI (kb_fst (kb_ah f u w g mf mu ml le) k 0))) (fun _ t => t.heap = s.heap) (fun _ => False)) [.ref x, .int le].toArray s 0 0 (fun _ => False)) (F0 m 2 ls []) := by
    intro d
    induction d with
    | zero => intro i h1 h2; exact absurd h2 (by omega)
    | succ d ih =>
      intro i  hi hd hinv ls hl
      refine lv_iload_n hx hb dX0_countAhead_2 rfl (lv_at hl 2 rfl) ?_
      refine lv_aload_n hx hb dX0_countAhead_3 rfl (lv_at hl 0 rfl) ?_
      refine va_get (D := (dC, dI)) (ci := 0) (v := .int (nI k)) (C := RX0) (T := TX0) (N := 9) hx hb htl inX0 hown hK hP 0 rfl rfl 5 (by decide) (htl _ flX0_26) (fun _ h9 => h9) rfl dX0_countAhead_4 ?_
      refine lv_icmp_ge (tgt := 27) hx hb dX0_countAhead_7 (by decide) (fun c_1 => ?_) (fun c_1 => ?_)
      · rw [nI_leI (by omega) (by omega)] at c_1
        refine lv_aload_n hx hb dX0_countAhead_27 rfl (lv_at hl 0 rfl) ?_
        refine va_get (D := (dC, dI)) (ci := 0) (v := .int (nI k)) (C := RX0) (T := TX0) (N := 9) hx hb htl inX0 hown hK hP 0 rfl rfl 5 (by decide) (htl _ flX0_26) (fun _ h9 => h9) rfl dX0_countAhead_28 ?_
        exact ru_iret hx hb hr hlocks (by rw [kb_fst_eq _ k k (Nat.le_refl k) (fun j h => hinv j (by omega)) (Or.inl rfl)]) dX0_countAhead_31
      · rw [nI_leI (by omega) (by omega), Nat.not_le] at c_1
        refine lv_aload_n hx hb dX0_countAhead_10 rfl (lv_at hl 0 rfl) ?_
        refine lv_iload_n hx hb dX0_countAhead_11 rfl (lv_at hl 2 rfl) ?_
        refine lv_iload_n hx hb dX0_countAhead_12 rfl (lv_at hl 1 rfl) ?_
        refine ru_calli (va_runV (As := [.int (nI i), .int le]) (rest := []) ⟨hx, hb, hml, hown, htl⟩ (c_X0_standsAhead l dC dI i le _ (by omega) hP) (cwV 2 htl gX0_96 rfl rfl rfl hd_X0_standsAhead ⟨Nat.le_of_ble_eq_true rfl, Nat.le_of_ble_eq_true rfl⟩) ⟨fb_ro, va_recv hK hP (ci := 0) (q0 := 0) rfl rfl, fun U hU hW => ⟨rfl, hU, va_K.moved hW.alike hK⟩⟩ rfl rfl hl.1 rfl (lv_room (Nat.le_of_ble_eq_true rfl)) dX0_countAhead_13 ⟨Nat.le_of_ble_eq_true rfl, Nat.le_of_ble_eq_true rfl⟩) ?_
        refine lv_if_ne (tgt := 21) hx hb dX0_countAhead_16 (by decide) (fun c_2 => ?_) (fun c_2 => ?_)
        · rw [b2i_0, Bool.not_eq_false] at c_2
          refine lv_iinc (v := nI (i + 1)) (lv' := [(2, .int (nI (i + 1))), (0, .ref x), (1, .int le)]) hx hb dX0_countAhead_21 hl (k := 2) rfl (by first | rfl | exact nI_1 _) (by decide) rfl (fun ls hl => ?_)
          refine lv_goto (tgt := 2) hx hb dX0_countAhead_24 (by decide) ?_
          exact ih (i + 1) c_1 (by omega) (lt_s hinv c_2) ls (lv_sub hl [1, 2, 0] rfl)
        · rw [b2i_0] at c_2
          refine lv_iload_n hx hb dX0_countAhead_19 rfl (lv_at hl 2 rfl) ?_
          exact ru_iret hx hb hr hlocks (by rw [kb_fst_eq _ k i hi hinv (Or.inr c_2)]) dX0_countAhead_20
  exact loop (k + 1) 0 (Nat.zero_le k) (by omega) (fun j h => absurd h (by omega)) ls (lv_sub hl [1, 2, 0] rfl)
set_option maxHeartbeats 4000000 in
set_option maxRecDepth 100000 in
theorem c_X0_longest (l : Launch) (dC : Nat → ClassId) (dI : Nat → Nat → Nat) {x a1 a2 a3 a4 a5 : Nat} {k1 k2 k3 k4 k5 : ClassId} {f : Nat → Int32} {u w : Nat → Int64} {g n : Nat → Int32} {k : Nat} {mf : Int32} {mu ml : Int64}  (Hh : Heap) (hk : k ≤ 1000) (hP : va_P (dC, dI) classes (pbw x a1 a2 a3 a4 a5 k1 k2 k3 k4 k5 f u w g n k mf mu ml) Hh) : Met l yX0_longest (ww yX0_longest cX0_longest 3 (some .int)) ({ frames := 3, cells := 0, slots := 0, locals := 62 } : Room) (va_Pc [.ref x] (fun U => U.heap = Hh ∧ va_K (dC, dI) classes (pbt k1 k2 k3 k4 k5) U)) (va_Qi (fun r (_ : Unit) => r = (kb_lg (kb_cov f u w g mf mu ml) g k)) (fun _ t => t.heap = Hh) (fun _ => False)) 0 0 (fun _ => False) := by
  refine Met.ofW (cc := cX0_longest) (maxL := 3) (ret := (some .int)) (by decide) rfl ?_
  intro p e s m args below meth c s₁ B hml hv
  obtain ⟨rfl, hHh, hK⟩ := hv
  subst hHh
  have hx := B.exec
  have hb := B.bytes
  have hr := B.returns
  have hts := atoms_spec (ws := ww yX0_longest cX0_longest 3 (some .int)) B.pre
  have htl : ∀ w ∈ ltg, w.before [.ref x].toArray s = true := fun w h => hts w (List.mem_cons_of_mem _ h)
  have hown : s.vm.findClass RX0 = some m.cls := findClass_of_methodNamed B.named
  have hlocks := B.notSynchronized
  have hl := lv_entry ([.ref x]) (n := 3) (Nat.le_of_ble_eq_true rfl)
  rw [lg_entry_eq]
  generalize (lg_sl ([.ref x]) ++ List.replicate (3 - (lg_sl ([.ref x])).length) Slot.unset).toArray = ls at hl ⊢
  have hl : lv_has ls 3 [(0, .ref x)] := hl
  refine lv_iconst (v := (-1)) hx hb dX0_longest_0 (by decide) ?_
  refine lv_istore_n (lv' := [(1, .int (-1)), (0, .ref x)]) hx hb dX0_longest_1 rfl hl (by decide) rfl (fun ls hl => ?_)
  refine lv_iconst (v := nI 0) hx hb dX0_longest_2 (by decide) ?_
  refine lv_istore_n (lv' := [(2, .int (nI 0)), (1, .int (-1)), (0, .ref x)]) hx hb dX0_longest_3 rfl hl (by decide) rfl (fun ls hl => ?_)
  have loop : ∀ (d i : Nat) (y : Int32), i ≤ k → k + 1 ≤ i + d → y = kb_lg (kb_cov f u w g mf mu ml) g i → ∀ (ls : Array Slot), lv_has ls 3 [(0, .ref x), (1, .int y), (2, .int (nI i))] → W p l e ({ frames := 3, cells := 0, slots := 0, locals := 62 } : Room) s m ([.ref x] : List Value).toArray below meth c s.heap [] 0 0 (MQ below (va_Qi (fun r (_ : Unit) => r = (kb_lg (kb_cov f u w g mf mu ml) g k)) (fun _ t => t.heap = s.heap) (fun _ => False)) [.ref x].toArray s 0 0 (fun _ => False)) (F0 m 4 ls []) := by
    intro d
    induction d with
    | zero => intro i y h1 h2; exact absurd h2 (by omega)
    | succ d ih =>
      intro i y hi hd hinv ls hl
      refine lv_iload_n hx hb dX0_longest_4 rfl (lv_at hl 2 rfl) ?_
      refine lv_aload_n hx hb dX0_longest_5 rfl (lv_at hl 0 rfl) ?_
      refine va_get (D := (dC, dI)) (ci := 0) (v := .int (nI k)) (C := RX0) (T := TX0) (N := 9) hx hb htl inX0 hown hK hP 0 rfl rfl 5 (by decide) (htl _ flX0_26) (fun _ h9 => h9) rfl dX0_longest_6 ?_
      refine lv_icmp_ge (tgt := 43) hx hb dX0_longest_9 (by decide) (fun c_1 => ?_) (fun c_1 => ?_)
      · rw [nI_leI (by omega) (by omega)] at c_1
        refine lv_iload_n hx hb dX0_longest_43 rfl (lv_at hl 1 rfl) ?_
        exact ru_iret hx hb hr hlocks (by rw [hinv, Nat.le_antisymm hi c_1]) dX0_longest_44
      · rw [nI_leI (by omega) (by omega), Nat.not_le] at c_1
        refine lv_aload_n hx hb dX0_longest_12 rfl (lv_at hl 0 rfl) ?_
        refine lv_iload_n hx hb dX0_longest_13 rfl (lv_at hl 2 rfl) ?_
        refine ru_calli (va_runV (As := [.int (nI i)]) (rest := []) ⟨hx, hb, hml, hown, htl⟩ (c_X0_coversMeant l dC dI i _ (by omega) hP) (cwV 1 htl gX0_72 rfl rfl rfl hd_X0_coversMeant ⟨Nat.le_of_ble_eq_true rfl, Nat.le_of_ble_eq_true rfl⟩) ⟨fb_ro, va_recv hK hP (ci := 0) (q0 := 0) rfl rfl, fun U hU hW => ⟨rfl, hU, va_K.moved hW.alike hK⟩⟩ rfl rfl hl.1 rfl (lv_room (Nat.le_of_ble_eq_true rfl)) dX0_longest_14 ⟨Nat.le_of_ble_eq_true rfl, Nat.le_of_ble_eq_true rfl⟩) ?_
        refine lv_if_eq (tgt := 37) hx hb dX0_longest_17 (by decide) (fun c_2 => ?_) (fun c_2 => ?_)
        · rw [b2i_0] at c_2
          refine lv_iinc (v := nI (i + 1)) (lv' := [(2, .int (nI (i + 1))), (0, .ref x), (1, .int y)]) hx hb dX0_longest_37 hl (k := 2) rfl (by first | rfl | exact nI_1 _) (by decide) rfl (fun ls hl => ?_)
          refine lv_goto (tgt := 4) hx hb dX0_longest_40 (by decide) ?_
          exact ih (i + 1) y c_1 (by omega) (by subst hinv; simp [kb_lg, c_2]) ls (lv_sub hl [1, 2, 0] rfl)
        · rw [b2i_0, Bool.not_eq_false] at c_2
          refine lv_aload_n hx hb dX0_longest_20 rfl (lv_at hl 0 rfl) ?_
          refine va_get (D := (dC, dI)) (ci := 0) (v := .ref a4) (C := RX0) (T := TX0) (N := 9) hx hb htl inX0 hown hK hP 0 rfl rfl 3 (by decide) (htl _ flX0_20) (fun _ h9 => h9) rfl dX0_longest_21 ?_
          refine lv_iload_n hx hb dX0_longest_24 rfl (lv_at hl 2 rfl) ?_
          refine ld_i hx hb hK hP 4 3 rfl rfl (j := i) (by omega) (Nat.le_of_ble_eq_true rfl) dX0_longest_25 ?_
          refine lv_iload_n hx hb dX0_longest_26 rfl (lv_at hl 1 rfl) ?_
          refine lv_icmp_le (tgt := 37) hx hb dX0_longest_27 (by decide) (fun c_3 => ?_) (fun c_3 => ?_)
          · refine lv_iinc (v := nI (i + 1)) (lv' := [(2, .int (nI (i + 1))), (0, .ref x), (1, .int y)]) hx hb dX0_longest_37 hl (k := 2) rfl (by first | rfl | exact nI_1 _) (by decide) rfl (fun ls hl => ?_)
            refine lv_goto (tgt := 4) hx hb dX0_longest_40 (by decide) ?_
            exact ih (i + 1) y c_1 (by omega) (by subst hinv; simp [kb_lg, c_2, c_3]) ls (lv_sub hl [1, 2, 0] rfl)
          · refine lv_aload_n hx hb dX0_longest_30 rfl (lv_at hl 0 rfl) ?_
            refine va_get (D := (dC, dI)) (ci := 0) (v := .ref a4) (C := RX0) (T := TX0) (N := 9) hx hb htl inX0 hown hK hP 0 rfl rfl 3 (by decide) (htl _ flX0_20) (fun _ h9 => h9) rfl dX0_longest_31 ?_
            refine lv_iload_n hx hb dX0_longest_34 rfl (lv_at hl 2 rfl) ?_
            refine ld_i hx hb hK hP 4 3 rfl rfl (j := i) (by omega) (Nat.le_of_ble_eq_true rfl) dX0_longest_35 ?_
            refine lv_topi (fun y_4 ey_4 => ?_)
            refine lv_istore_n (lv' := [(1, .int y_4), (0, .ref x), (2, .int (nI i))]) hx hb dX0_longest_36 rfl hl (by decide) rfl (fun ls hl => ?_)
            refine lv_iinc (v := nI (i + 1)) (lv' := [(2, .int (nI (i + 1))), (1, .int y_4), (0, .ref x)]) hx hb dX0_longest_37 hl (k := 2) rfl (by first | rfl | exact nI_1 _) (by decide) rfl (fun ls hl => ?_)
            refine lv_goto (tgt := 4) hx hb dX0_longest_40 (by decide) ?_
            exact ih (i + 1) y_4 c_1 (by omega) (by subst hinv; simp [kb_lg, c_2, c_3, ey_4]) ls (lv_sub hl [2, 1, 0] rfl)
  exact loop (k + 1) 0 (-1) (Nat.zero_le k) (by omega) rfl ls (lv_sub hl [2, 1, 0] rfl)
set_option maxHeartbeats 4000000 in
set_option maxRecDepth 100000 in
theorem c_X0_covering (l : Launch) (dC : Nat → ClassId) (dI : Nat → Nat → Nat) {x a1 a2 a3 a4 a5 : Nat} {k1 k2 k3 k4 k5 : ClassId} {f : Nat → Int32} {u w : Nat → Int64} {g n : Nat → Int32} {k : Nat} {mf : Int32} {mu ml : Int64}  (Hh : Heap) (hk : k ≤ 1000) (hP : va_P (dC, dI) classes (pbw x a1 a2 a3 a4 a5 k1 k2 k3 k4 k5 f u w g n k mf mu ml) Hh) : Met l yX0_covering (ww yX0_covering cX0_covering 3 (some .int)) ({ frames := 3, cells := 0, slots := 0, locals := 62 } : Room) (va_Pc [.ref x] (fun U => U.heap = Hh ∧ va_K (dC, dI) classes (pbt k1 k2 k3 k4 k5) U)) (va_Qi (fun r (_ : Unit) => r = (nI (kb_cv (kb_cov f u w g mf mu ml) k))) (fun _ t => t.heap = Hh) (fun _ => False)) 0 0 (fun _ => False) := by
  refine Met.ofW (cc := cX0_covering) (maxL := 3) (ret := (some .int)) (by decide) rfl ?_
  intro p e s m args below meth c s₁ B hml hv
  obtain ⟨rfl, hHh, hK⟩ := hv
  subst hHh
  have hx := B.exec
  have hb := B.bytes
  have hr := B.returns
  have hts := atoms_spec (ws := ww yX0_covering cX0_covering 3 (some .int)) B.pre
  have htl : ∀ w ∈ ltg, w.before [.ref x].toArray s = true := fun w h => hts w (List.mem_cons_of_mem _ h)
  have hown : s.vm.findClass RX0 = some m.cls := findClass_of_methodNamed B.named
  have hlocks := B.notSynchronized
  have hl := lv_entry ([.ref x]) (n := 3) (Nat.le_of_ble_eq_true rfl)
  rw [lg_entry_eq]
  generalize (lg_sl ([.ref x]) ++ List.replicate (3 - (lg_sl ([.ref x])).length) Slot.unset).toArray = ls at hl ⊢
  have hl : lv_has ls 3 [(0, .ref x)] := hl
  refine lv_iconst (v := nI 0) hx hb dX0_covering_0 (by decide) ?_
  refine lv_istore_n (lv' := [(1, .int (nI 0)), (0, .ref x)]) hx hb dX0_covering_1 rfl hl (by decide) rfl (fun ls hl => ?_)
  refine lv_iconst (v := nI 0) hx hb dX0_covering_2 (by decide) ?_
  refine lv_istore_n (lv' := [(2, .int (nI 0)), (1, .int (nI 0)), (0, .ref x)]) hx hb dX0_covering_3 rfl hl (by decide) rfl (fun ls hl => ?_)
  have loop : ∀ (d i : Nat) (z : Nat), i ≤ k → k + 1 ≤ i + d → z = kb_cv (kb_cov f u w g mf mu ml) i → ∀ (ls : Array Slot), lv_has ls 3 [(0, .ref x), (1, .int (nI z)), (2, .int (nI i))] → W p l e ({ frames := 3, cells := 0, slots := 0, locals := 62 } : Room) s m ([.ref x] : List Value).toArray below meth c s.heap [] 0 0 (MQ below (va_Qi (fun r (_ : Unit) => r = (nI (kb_cv (kb_cov f u w g mf mu ml) k))) (fun _ t => t.heap = s.heap) (fun _ => False)) [.ref x].toArray s 0 0 (fun _ => False)) (F0 m 4 ls []) := by
    intro d
    induction d with
    | zero => intro i z h1 h2; exact absurd h2 (by omega)
    | succ d ih =>
      intro i z hi hd hinv ls hl
      refine lv_iload_n hx hb dX0_covering_4 rfl (lv_at hl 2 rfl) ?_
      refine lv_aload_n hx hb dX0_covering_5 rfl (lv_at hl 0 rfl) ?_
      refine va_get (D := (dC, dI)) (ci := 0) (v := .int (nI k)) (C := RX0) (T := TX0) (N := 9) hx hb htl inX0 hown hK hP 0 rfl rfl 5 (by decide) (htl _ flX0_26) (fun _ h9 => h9) rfl dX0_covering_6 ?_
      refine lv_icmp_ge (tgt := 29) hx hb dX0_covering_9 (by decide) (fun c_1 => ?_) (fun c_1 => ?_)
      · rw [nI_leI (by omega) (by omega)] at c_1
        refine lv_iload_n hx hb dX0_covering_29 rfl (lv_at hl 1 rfl) ?_
        exact ru_iret hx hb hr hlocks (by rw [hinv, Nat.le_antisymm hi c_1]) dX0_covering_30
      · rw [nI_leI (by omega) (by omega), Nat.not_le] at c_1
        refine lv_aload_n hx hb dX0_covering_12 rfl (lv_at hl 0 rfl) ?_
        refine lv_iload_n hx hb dX0_covering_13 rfl (lv_at hl 2 rfl) ?_
        refine ru_calli (va_runV (As := [.int (nI i)]) (rest := []) ⟨hx, hb, hml, hown, htl⟩ (c_X0_coversMeant l dC dI i _ (by omega) hP) (cwV 1 htl gX0_72 rfl rfl rfl hd_X0_coversMeant ⟨Nat.le_of_ble_eq_true rfl, Nat.le_of_ble_eq_true rfl⟩) ⟨fb_ro, va_recv hK hP (ci := 0) (q0 := 0) rfl rfl, fun U hU hW => ⟨rfl, hU, va_K.moved hW.alike hK⟩⟩ rfl rfl hl.1 rfl (lv_room (Nat.le_of_ble_eq_true rfl)) dX0_covering_14 ⟨Nat.le_of_ble_eq_true rfl, Nat.le_of_ble_eq_true rfl⟩) ?_
        refine lv_if_eq (tgt := 23) hx hb dX0_covering_17 (by decide) (fun c_2 => ?_) (fun c_2 => ?_)
        · rw [b2i_0] at c_2
          refine lv_iinc (v := nI (i + 1)) (lv' := [(2, .int (nI (i + 1))), (0, .ref x), (1, .int (nI z))]) hx hb dX0_covering_23 hl (k := 2) rfl (by first | rfl | exact nI_1 _) (by decide) rfl (fun ls hl => ?_)
          refine lv_goto (tgt := 4) hx hb dX0_covering_26 (by decide) ?_
          exact ih (i + 1) z c_1 (by omega) (by subst hinv; simp [kb_cv, c_2]) ls (lv_sub hl [1, 2, 0] rfl)
        · rw [b2i_0, Bool.not_eq_false] at c_2
          refine lv_iinc (v := nI (z + 1)) (lv' := [(1, .int (nI (z + 1))), (0, .ref x), (2, .int (nI i))]) hx hb dX0_covering_20 hl (k := 1) rfl (by first | rfl | exact nI_1 _) (by decide) rfl (fun ls hl => ?_)
          refine lv_iinc (v := nI (i + 1)) (lv' := [(2, .int (nI (i + 1))), (1, .int (nI (z + 1))), (0, .ref x)]) hx hb dX0_covering_23 hl (k := 2) rfl (by first | rfl | exact nI_1 _) (by decide) rfl (fun ls hl => ?_)
          refine lv_goto (tgt := 4) hx hb dX0_covering_26 (by decide) ?_
          exact ih (i + 1) (z + 1) c_1 (by omega) (by subst hinv; simp [kb_cv, c_2]) ls (lv_sub hl [2, 1, 0] rfl)
  exact loop (k + 1) 0 0 (Nat.zero_le k) (by omega) rfl ls (lv_sub hl [2, 1, 0] rfl)
