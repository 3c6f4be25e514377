set_option maxHeartbeats 4000000 in
set_option maxRecDepth 100000 in
theorem c_X1_number (l : Launch) (dC : Nat → ClassId) (dI : Nat → Nat → Nat) {x a1 a2 a3 a4 a5 : Nat} {k1 k2 k3 k4 k5 : ClassId} {f : Nat → Int32} {u w : Nat → Int64} {g n : Nat → Int32} {k : Nat} {mf : Int32} {mu ml : Int64} (le : Int32) (Hh : Heap) (hk : k ≤ 1000) (hP : va_P (dC, dI) classes (mdw x a1 a2 a3 a4 a5 k1 k2 k3 k4 k5 f u w g n k mf mu ml) Hh) : Met l yX1_number (ww yX1_number cX1_number 3 (some .int)) ({ frames := 2, cells := 0, slots := 0, locals := 49 } : Room) (va_Pc [.ref x, .int le] (fun U => U.heap = Hh ∧ va_K (dC, dI) classes (mdt k1 k2 k3 k4 k5) U)) (va_Qi (fun r (_ : Unit) => r = (if md_pre mf mu ml le = true then (if kb_fst (md_ne f u w g mf mu ml le) k 0 < k then n (kb_fst (md_ne f u w g mf mu ml le) k 0) else (-2147483648)) else (-2147483648))) (fun _ t => t.heap = Hh) (fun _ => False)) 0 0 (fun _ => False) := by
  refine Met.ofW (cc := cX1_number) (maxL := 3) (ret := (some .int)) (by decide) rfl ?_
  intro p e s m args below meth c s₁ B hml hv
  obtain ⟨rfl, hHh, hK⟩ := hv
  subst hHh
  have hx := B.exec
  have hb := B.bytes
  have hr := B.returns
  have hts := atoms_spec (ws := ww yX1_number cX1_number 3 (some .int)) B.pre
  have htl : ∀ w ∈ ltg, w.before [.ref x, .int le].toArray s = true := fun w h => hts w (List.mem_cons_of_mem _ h)
  have hown : s.vm.findClass RX1 = some m.cls := findClass_of_methodNamed B.named
  have hlocks := B.notSynchronized
  have hl := lv_entry ([.ref x, .int le]) (n := 3) (Nat.le_of_ble_eq_true rfl)
  rw [lg_entry_eq]
  generalize (lg_sl ([.ref x, .int le]) ++ List.replicate (3 - (lg_sl ([.ref x, .int le])).length) Slot.unset).toArray = ls at hl ⊢
  have hl : lv_has ls 3 [(0, .ref x), (1, .int le)] := hl
  refine lv_aload_n hx hb dX1_number_0 rfl (lv_at hl 0 rfl) ?_
  refine lv_iload_n hx hb dX1_number_1 rfl (lv_at hl 1 rfl) ?_
  refine ru_calli (va_runV (As := [.int le]) (rest := []) ⟨hx, hb, hml, hown, htl⟩ (c_X1_isPrefix l dC dI le _ hP) (cwV 1 htl gX1_50 rfl rfl rfl hd_X1_isPrefix ⟨Nat.le_of_ble_eq_true rfl, Nat.le_of_ble_eq_true rfl⟩) ⟨fb_ro, va_recv hK hP (ci := 1) (q0 := 0) rfl rfl, fun U hU hW => ⟨rfl, hU, va_K.moved hW.alike hK⟩⟩ rfl rfl hl.1 rfl (lv_room (Nat.le_of_ble_eq_true rfl)) dX1_number_2 ⟨Nat.le_of_ble_eq_true rfl, Nat.le_of_ble_eq_true rfl⟩) ?_
  refine lv_if_eq (tgt := 16) hx hb dX1_number_5 (by decide) (fun c_1 => ?_) (fun c_1 => ?_)
  · rw [b2i_0] at c_1
    refine lv_iconst (v := (-1)) hx hb dX1_number_16 (by decide) ?_
    refine lv_istore_n (lv' := [(2, .int (-1)), (0, .ref x), (1, .int le)]) hx hb dX1_number_17 rfl hl (by decide) rfl (fun ls hl => ?_)
    refine lv_iload_n hx hb dX1_number_18 rfl (lv_at hl 0 rfl) ?_
    refine lv_iconst (v := (-1)) hx hb dX1_number_19 (by decide) ?_
    refine lv_icmp_ne (tgt := 28) hx hb dX1_number_20 (by decide) (fun c_2 => ?_) (fun c_2 => ?_)
    · exact absurd c_2 (by decide)
    · refine lv_ldc (v := (-2147483648)) hx hb hown (htl _ kcX1_57) dX1_number_23 ?_
      refine lv_goto (tgt := 34) hx hb dX1_number_25 (by decide) ?_
      exact ru_iret hx hb hr hlocks (by simp only [c_1, if_true, if_false, Bool.false_eq_true, reduceIte]) dX1_number_34
  · rw [b2i_0, Bool.not_eq_false] at c_1
    refine lv_aload_n hx hb dX1_number_8 rfl (lv_at hl 0 rfl) ?_
    refine lv_iload_n hx hb dX1_number_9 rfl (lv_at hl 1 rfl) ?_
    refine ru_calli (va_runV (As := [.int le]) (rest := []) ⟨hx, hb, hml, hown, htl⟩ (c_X1_find l dC dI le _ hk hP) (cwV 1 htl gX1_53 rfl rfl rfl hd_X1_find ⟨Nat.le_of_ble_eq_true rfl, Nat.le_of_ble_eq_true rfl⟩) ⟨fb_ro, va_recv hK hP (ci := 1) (q0 := 0) rfl rfl, fun U hU hW => ⟨rfl, hU, va_K.moved hW.alike hK⟩⟩ rfl rfl hl.1 rfl (lv_room (Nat.le_of_ble_eq_true rfl)) dX1_number_10 ⟨Nat.le_of_ble_eq_true rfl, Nat.le_of_ble_eq_true rfl⟩) ?_
    by_cases hfk : kb_fst (md_ne f u w g mf mu ml le) k 0 < k
    · refine tp_i (if_pos hfk) ?_
      refine lv_goto (tgt := 17) hx hb dX1_number_13 (by decide) ?_
      refine lv_istore_n (lv' := [(2, .int (nI (kb_fst (md_ne f u w g mf mu ml le) k 0))), (0, .ref x), (1, .int le)]) hx hb dX1_number_17 rfl hl (by decide) rfl (fun ls hl => ?_)
      refine lv_iload_n hx hb dX1_number_18 rfl (lv_at hl 0 rfl) ?_
      refine lv_iconst (v := (-1)) hx hb dX1_number_19 (by decide) ?_
      refine lv_icmp_ne (tgt := 28) hx hb dX1_number_20 (by decide) (fun c_3 => ?_) (fun c_3 => ?_)
      · refine lv_aload_n hx hb dX1_number_28 rfl (lv_at hl 1 rfl) ?_
        refine va_get (D := (dC, dI)) (ci := 1) (v := .ref a3) (C := RX1) (T := TX1) (N := 9) hx hb htl inX1 hown hK hP 0 rfl rfl 2 (by decide) (htl _ flX1_16) (fun _ h9 => h9) rfl dX1_number_29 ?_
        refine lv_iload_n hx hb dX1_number_32 rfl (lv_at hl 0 rfl) ?_
        refine ld_i hx hb hK hP 3 2 rfl rfl (j := (kb_fst (md_ne f u w g mf mu ml le) k 0)) (by omega) (Nat.le_of_ble_eq_true rfl) dX1_number_33 ?_
        exact ru_iret hx hb hr hlocks (by simp only [c_1, hfk, if_true, if_false, Bool.false_eq_true, reduceIte]) dX1_number_34
      · exact absurd c_3 (nI_nm1 (by omega))
    · refine tp_i (if_neg hfk) ?_
      refine lv_goto (tgt := 17) hx hb dX1_number_13 (by decide) ?_
      refine lv_istore_n (lv' := [(2, .int (-1)), (0, .ref x), (1, .int le)]) hx hb dX1_number_17 rfl hl (by decide) rfl (fun ls hl => ?_)
      refine lv_iload_n hx hb dX1_number_18 rfl (lv_at hl 0 rfl) ?_
      refine lv_iconst (v := (-1)) hx hb dX1_number_19 (by decide) ?_
      refine lv_icmp_ne (tgt := 28) hx hb dX1_number_20 (by decide) (fun c_4 => ?_) (fun c_4 => ?_)
      · exact absurd c_4 (by decide)
      · refine lv_ldc (v := (-2147483648)) hx hb hown (htl _ kcX1_57) dX1_number_23 ?_
        refine lv_goto (tgt := 34) hx hb dX1_number_25 (by decide) ?_
        exact ru_iret hx hb hr hlocks (by simp only [c_1, hfk, if_true, if_false, Bool.false_eq_true, reduceIte]) dX1_number_34
set_option maxHeartbeats 4000000 in
set_option maxRecDepth 100000 in
theorem c_X1_ahead (l : Launch) (dC : Nat → ClassId) (dI : Nat → Nat → Nat) {x a1 a2 a3 a4 a5 : Nat} {k1 k2 k3 k4 k5 : ClassId} {f : Nat → Int32} {u w : Nat → Int64} {g n : Nat → Int32} {k : Nat} {mf : Int32} {mu ml : Int64} (le : Int32) (Hh : Heap) (hk : k ≤ 1000) (hP : va_P (dC, dI) classes (mdw x a1 a2 a3 a4 a5 k1 k2 k3 k4 k5 f u w g n k mf mu ml) Hh) : Met l yX1_ahead (ww yX1_ahead cX1_ahead 2 (some .int)) ({ frames := 3, cells := 0, slots := 0, locals := 84 } : Room) (va_Pc [.ref x, .int le] (fun U => U.heap = Hh ∧ va_K (dC, dI) classes (mdt k1 k2 k3 k4 k5) U)) (va_Qi (fun r (_ : Unit) => r = (if kb_len mf le = true then nI (kb_cv (md_ah f u w g mf mu ml le) k) else (-1))) (fun _ t => t.heap = Hh) (fun _ => False)) 0 0 (fun _ => False) := by
  refine Met.ofW (cc := cX1_ahead) (maxL := 2) (ret := (some .int)) (by decide) rfl ?_
  intro p e s m args below meth c s₁ B hml hv
  obtain ⟨rfl, hHh, hK⟩ := hv
  subst hHh
  have hx := B.exec
  have hb := B.bytes
  have hr := B.returns
  have hts := atoms_spec (ws := ww yX1_ahead cX1_ahead 2 (some .int)) B.pre
  have htl : ∀ w ∈ ltg, w.before [.ref x, .int le].toArray s = true := fun w h => hts w (List.mem_cons_of_mem _ h)
  have hown : s.vm.findClass RX1 = some m.cls := findClass_of_methodNamed B.named
  have hlocks := B.notSynchronized
  have hl := lv_entry ([.ref x, .int le]) (n := 2) (Nat.le_of_ble_eq_true rfl)
  rw [lg_entry_eq]
  generalize (lg_sl ([.ref x, .int le]) ++ List.replicate (2 - (lg_sl ([.ref x, .int le])).length) Slot.unset).toArray = ls at hl ⊢
  have hl : lv_has ls 2 [(0, .ref x), (1, .int le)] := hl
  refine lv_aload_n hx hb dX1_ahead_0 rfl (lv_at hl 0 rfl) ?_
  refine lv_iload_n hx hb dX1_ahead_1 rfl (lv_at hl 1 rfl) ?_
  refine ru_calli (va_runV (As := [.int le]) (rest := []) ⟨hx, hb, hml, hown, htl⟩ (c_X1_isLength l dC dI le _ hP) (cwV 1 htl gX1_39 rfl rfl rfl hd_X1_isLength ⟨Nat.le_of_ble_eq_true rfl, Nat.le_of_ble_eq_true rfl⟩) ⟨fb_ro, va_recv hK hP (ci := 1) (q0 := 0) rfl rfl, fun U hU hW => ⟨rfl, hU, va_K.moved hW.alike hK⟩⟩ rfl rfl hl.1 rfl (lv_room (Nat.le_of_ble_eq_true rfl)) dX1_ahead_2 ⟨Nat.le_of_ble_eq_true rfl, Nat.le_of_ble_eq_true rfl⟩) ?_
  refine lv_if_eq (tgt := 28) hx hb dX1_ahead_5 (by decide) (fun c_1 => ?_) (fun c_1 => ?_)
  · rw [b2i_0] at c_1
    refine lv_iconst (v := (-1)) hx hb dX1_ahead_28 (by decide) ?_
    exact ru_iret hx hb hr hlocks (by simp only [c_1, if_true, if_false, Bool.false_eq_true, reduceIte]) dX1_ahead_29
  · rw [b2i_0, Bool.not_eq_false] at c_1
    refine lv_aload_n hx hb dX1_ahead_8 rfl (lv_at hl 0 rfl) ?_
    refine lv_aload_n hx hb dX1_ahead_9 rfl (lv_at hl 0 rfl) ?_
    refine va_get (D := (dC, dI)) (ci := 1) (v := .int mf) (C := RX1) (T := TX1) (N := 9) hx hb htl inX1 hown hK hP 0 rfl rfl 6 (by decide) (htl _ flX1_26) (fun _ h9 => h9) rfl dX1_ahead_10 ?_
    refine lv_aload_n hx hb dX1_ahead_13 rfl (lv_at hl 0 rfl) ?_
    refine va_get (D := (dC, dI)) (ci := 1) (v := .long mu) (C := RX1) (T := TX1) (N := 9) hx hb htl inX1 hown hK hP 0 rfl rfl 7 (by decide) (htl _ flX1_32) (fun _ h9 => h9) rfl dX1_ahead_14 ?_
    refine lv_aload_n hx hb dX1_ahead_17 rfl (lv_at hl 0 rfl) ?_
    refine va_get (D := (dC, dI)) (ci := 1) (v := .long ml) (C := RX1) (T := TX1) (N := 9) hx hb htl inX1 hown hK hP 0 rfl rfl 8 (by decide) (htl _ flX1_36) (fun _ h9 => h9) rfl dX1_ahead_18 ?_
    refine lv_iload_n hx hb dX1_ahead_21 rfl (lv_at hl 1 rfl) ?_
    refine ru_calli (va_runV (As := [.int mf, .long mu, .long ml, .int le]) (rest := []) ⟨hx, hb, hml, hown, htl⟩ (c_X1_countAhead l dC dI mf mu ml le _ hk hP) (cwV 4 htl gX1_71 rfl rfl rfl hd_X1_countAhead ⟨Nat.le_of_ble_eq_true rfl, Nat.le_of_ble_eq_true rfl⟩) ⟨fb_ro, va_recv hK hP (ci := 1) (q0 := 0) rfl rfl, fun U hU hW => ⟨rfl, hU, va_K.moved hW.alike hK⟩⟩ rfl rfl hl.1 rfl (lv_room (Nat.le_of_ble_eq_true rfl)) dX1_ahead_22 ⟨Nat.le_of_ble_eq_true rfl, Nat.le_of_ble_eq_true rfl⟩) ?_
    refine lv_goto (tgt := 29) hx hb dX1_ahead_25 (by decide) ?_
    exact ru_iret hx hb hr hlocks (by simp only [c_1, if_true, if_false, Bool.false_eq_true, reduceIte]) dX1_ahead_29
set_option maxHeartbeats 4000000 in
set_option maxRecDepth 100000 in
theorem c_X1_size (l : Launch) (dC : Nat → ClassId) (dI : Nat → Nat → Nat) {x a1 a2 a3 a4 a5 : Nat} {k1 k2 k3 k4 k5 : ClassId} {f : Nat → Int32} {u w : Nat → Int64} {g n : Nat → Int32} {k : Nat} {mf : Int32} {mu ml : Int64}  (Hh : Heap)  (hP : va_P (dC, dI) classes (mdw x a1 a2 a3 a4 a5 k1 k2 k3 k4 k5 f u w g n k mf mu ml) Hh) : Met l yX1_size (ww yX1_size cX1_size 1 (some .int)) ({ frames := 0, cells := 0, slots := 0, locals := 0 } : Room) (va_Pc [.ref x] (fun U => U.heap = Hh ∧ va_K (dC, dI) classes (mdt k1 k2 k3 k4 k5) U)) (va_Qi (fun r (_ : Unit) => r = (nI k)) (fun _ t => t.heap = Hh) (fun _ => False)) 0 0 (fun _ => False) := by
  refine Met.ofW (cc := cX1_size) (maxL := 1) (ret := (some .int)) (by decide) rfl ?_
  intro p e s m args below meth c s₁ B hml hv
  obtain ⟨rfl, hHh, hK⟩ := hv
  subst hHh
  have hx := B.exec
  have hb := B.bytes
  have hr := B.returns
  have hts := atoms_spec (ws := ww yX1_size cX1_size 1 (some .int)) B.pre
  have htl : ∀ w ∈ ltg, w.before [.ref x].toArray s = true := fun w h => hts w (List.mem_cons_of_mem _ h)
  have hown : s.vm.findClass RX1 = some m.cls := findClass_of_methodNamed B.named
  have hlocks := B.notSynchronized
  have hl := lv_entry ([.ref x]) (n := 1) (Nat.le_of_ble_eq_true rfl)
  rw [lg_entry_eq]
  generalize (lg_sl ([.ref x]) ++ List.replicate (1 - (lg_sl ([.ref x])).length) Slot.unset).toArray = ls at hl ⊢
  have hl : lv_has ls 1 [(0, .ref x)] := hl
  refine lv_aload_n hx hb dX1_size_0 rfl (lv_at hl 0 rfl) ?_
  refine va_get (D := (dC, dI)) (ci := 1) (v := .int (nI k)) (C := RX1) (T := TX1) (N := 9) hx hb htl inX1 hown hK hP 0 rfl rfl 5 (by decide) (htl _ flX1_47) (fun _ h9 => h9) rfl dX1_size_1 ?_
  exact ru_iret hx hb hr hlocks (rfl) dX1_size_4
set_option maxHeartbeats 4000000 in
set_option maxRecDepth 100000 in
theorem c_X1_told (l : Launch) (dC : Nat → ClassId) (dI : Nat → Nat → Nat) {x a1 a2 a3 a4 a5 : Nat} {k1 k2 k3 k4 k5 : ClassId} {f : Nat → Int32} {u w : Nat → Int64} {g n : Nat → Int32} {k : Nat} {mf : Int32} {mu ml : Int64} (wh : Int32) (Hh : Heap)  (hP : va_P (dC, dI) classes (mdw x a1 a2 a3 a4 a5 k1 k2 k3 k4 k5 f u w g n k mf mu ml) Hh) : Met l yX1_told (ww yX1_told cX1_told 2 (some .long)) ({ frames := 0, cells := 0, slots := 0, locals := 0 } : Room) (va_Pc [.ref x, .int wh] (fun U => U.heap = Hh ∧ va_K (dC, dI) classes (mdt k1 k2 k3 k4 k5) U)) (va_Ql (fun r (_ : Unit) => r = (if wh = 0 then mf.toInt64 else if wh = 1 then mu else if wh = 2 then ml else 0)) (fun _ t => t.heap = Hh) (fun _ => False)) 0 0 (fun _ => False) := by
  refine Met.ofW (cc := cX1_told) (maxL := 2) (ret := (some .long)) (by decide) rfl ?_
  intro p e s m args below meth c s₁ B hml hv
  obtain ⟨rfl, hHh, hK⟩ := hv
  subst hHh
  have hx := B.exec
  have hb := B.bytes
  have hr := B.returns
  have hts := atoms_spec (ws := ww yX1_told cX1_told 2 (some .long)) B.pre
  have htl : ∀ w ∈ ltg, w.before [.ref x, .int wh].toArray s = true := fun w h => hts w (List.mem_cons_of_mem _ h)
  have hown : s.vm.findClass RX1 = some m.cls := findClass_of_methodNamed B.named
  have hlocks := B.notSynchronized
  have hl := lv_entry ([.ref x, .int wh]) (n := 2) (Nat.le_of_ble_eq_true rfl)
  rw [lg_entry_eq]
  generalize (lg_sl ([.ref x, .int wh]) ++ List.replicate (2 - (lg_sl ([.ref x, .int wh])).length) Slot.unset).toArray = ls at hl ⊢
  have hl : lv_has ls 2 [(0, .ref x), (1, .int wh)] := hl
  refine lv_iload_n hx hb dX1_told_0 rfl (lv_at hl 1 rfl) ?_
  refine lv_if_ne (tgt := 12) hx hb dX1_told_1 (by decide) (fun c_1 => ?_) (fun c_1 => ?_)
  · refine lv_iload_n hx hb dX1_told_12 rfl (lv_at hl 1 rfl) ?_
    refine lv_iconst (v := 1) hx hb dX1_told_13 (by decide) ?_
    refine lv_icmp_ne (tgt := 24) hx hb dX1_told_14 (by decide) (fun c_2 => ?_) (fun c_2 => ?_)
    · refine lv_iload_n hx hb dX1_told_24 rfl (lv_at hl 1 rfl) ?_
      refine lv_iconst (v := 2) hx hb dX1_told_25 (by decide) ?_
      refine lv_icmp_ne (tgt := 36) hx hb dX1_told_26 (by decide) (fun c_3 => ?_) (fun c_3 => ?_)
      · refine lv_lconst (v := 0) hx hb dX1_told_36 (by decide) ?_
        exact ru_lret hx hb hr hlocks (by simp [c_1, c_2, c_3]) dX1_told_37
      · refine lv_aload_n hx hb dX1_told_29 rfl (lv_at hl 0 rfl) ?_
        refine va_get (D := (dC, dI)) (ci := 1) (v := .long ml) (C := RX1) (T := TX1) (N := 9) hx hb htl inX1 hown hK hP 0 rfl rfl 8 (by decide) (htl _ flX1_36) (fun _ h9 => h9) rfl dX1_told_30 ?_
        refine lv_goto (tgt := 37) hx hb dX1_told_33 (by decide) ?_
        exact ru_lret hx hb hr hlocks (by simp [c_1, c_2, c_3]) dX1_told_37
    · refine lv_aload_n hx hb dX1_told_17 rfl (lv_at hl 0 rfl) ?_
      refine va_get (D := (dC, dI)) (ci := 1) (v := .long mu) (C := RX1) (T := TX1) (N := 9) hx hb htl inX1 hown hK hP 0 rfl rfl 7 (by decide) (htl _ flX1_32) (fun _ h9 => h9) rfl dX1_told_18 ?_
      refine lv_goto (tgt := 37) hx hb dX1_told_21 (by decide) ?_
      exact ru_lret hx hb hr hlocks (by simp [c_1, c_2]) dX1_told_37
  · refine lv_aload_n hx hb dX1_told_4 rfl (lv_at hl 0 rfl) ?_
    refine va_get (D := (dC, dI)) (ci := 1) (v := .int mf) (C := RX1) (T := TX1) (N := 9) hx hb htl inX1 hown hK hP 0 rfl rfl 6 (by decide) (htl _ flX1_26) (fun _ h9 => h9) rfl dX1_told_5 ?_
    refine lv_i2l hx hb dX1_told_8 rfl ?_
    refine lv_goto (tgt := 37) hx hb dX1_told_9 (by decide) ?_
    exact ru_lret hx hb hr hlocks (by simp [c_1]) dX1_told_37
set_option maxHeartbeats 4000000 in
set_option maxRecDepth 100000 in
theorem c_X1_address (l : Launch) (dC : Nat → ClassId) (dI : Nat → Nat → Nat) {x a1 a2 a3 a4 a5 : Nat} {k1 k2 k3 k4 k5 : ClassId} {f : Nat → Int32} {u w : Nat → Int64} {g n : Nat → Int32} {k : Nat} {mf : Int32} {mu ml : Int64} (fa : Int32) (up lo : Int64) (A : Nat → Prop)  (hD : va_D A (mdw x a1 a2 a3 a4 a5 k1 k2 k3 k4 k5 f u w g n k mf mu ml)) : Met l yX1_address (ww yX1_address cX1_address 7 (some .boolean)) ({ frames := 0, cells := 0, slots := 0, locals := 0 } : Room) (va_Pc [.ref x, .int fa, .long up, .long lo] (fun U => va_P (dC, dI) classes (mdw x a1 a2 a3 a4 a5 k1 k2 k3 k4 k5 f u w g n k mf mu ml) U.heap ∧ va_K (dC, dI) classes (mdt k1 k2 k3 k4 k5) U)) (va_Qi (fun r (_ : Unit) => r = (b2i (kb_addr fa up lo))) (fun _ t => va_P (dC, dI) classes (if kb_addr fa up lo = true then (mdw x a1 a2 a3 a4 a5 k1 k2 k3 k4 k5 f u w g n k fa up lo) else (mdw x a1 a2 a3 a4 a5 k1 k2 k3 k4 k5 f u w g n k mf mu ml)) t.heap) A) 0 0 A := by
  refine Met.ofW (cc := cX1_address) (maxL := 7) (ret := (some .boolean)) (by decide) rfl ?_
  intro p e s m args below meth c s₁ B hml hv
  obtain ⟨rfl, hP, hK⟩ := hv
  have hS : va_S A s.heap s.heap [] := va_S.rf
  have hx := B.exec
  have hb := B.bytes
  have hr := B.returns
  have hts := atoms_spec (ws := ww yX1_address cX1_address 7 (some .boolean)) B.pre
  have htl : ∀ w ∈ ltg, w.before [.ref x, .int fa, .long up, .long lo].toArray s = true := fun w h => hts w (List.mem_cons_of_mem _ h)
  have hown : s.vm.findClass RX1 = some m.cls := findClass_of_methodNamed B.named
  have hlocks := B.notSynchronized
  have hl := lv_entry ([.ref x, .int fa, .long up, .long lo]) (n := 7) (Nat.le_of_ble_eq_true rfl)
  rw [lg_entry_eq]
  generalize (lg_sl ([.ref x, .int fa, .long up, .long lo]) ++ List.replicate (7 - (lg_sl ([.ref x, .int fa, .long up, .long lo])).length) Slot.unset).toArray = ls at hl ⊢
  have hl : lv_has ls 7 [(0, .ref x), (1, .int fa), (2, .long up), (4, .long lo)] := hl
  refine lv_iload_n hx hb dX1_address_0 rfl (lv_at hl 1 rfl) ?_
  refine lv_bipush (v := 6) hx hb dX1_address_1 (by decide) ?_
  refine lv_icmp_eq (tgt := 33) hx hb dX1_address_3 (by decide) (fun c_1 => ?_) (fun c_1 => ?_)
  · refine lv_iconst (v := 1) hx hb dX1_address_33 (by decide) ?_
    refine lv_goto (tgt := 38) hx hb dX1_address_34 (by decide) ?_
    refine lv_istore (lv' := [(6, .int 1), (0, .ref x), (1, .int fa), (2, .long up), (4, .long lo)]) hx hb dX1_address_38 hl (by decide) rfl (fun ls hl => ?_)
    refine lv_iload hx hb dX1_address_40 (lv_at hl 0 rfl) ?_
    refine lv_if_eq (tgt := 61) hx hb dX1_address_42 (by decide) (fun c_2 => ?_) (fun c_2 => ?_)
    · exact absurd c_2 (by decide)
    · refine lv_aload_n hx hb dX1_address_45 rfl (lv_at hl 1 rfl) ?_
      refine lv_iload_n hx hb dX1_address_46 rfl (lv_at hl 2 rfl) ?_
      refine va_put (D := (dC, dI)) (ci := 1) (v := .int fa) (ty := .int) (C := RX1) (T := TX1) (N := 9) hx hb htl inX1 tyX1 tyX1_ok nmX1 hown hK hP hD hS 0 rfl rfl 6 (by decide) (htl _ flX1_26) (fun _ h9 => h9) rfl (by decide +kernel) rfl rfl (Nat.le_of_ble_eq_true rfl) dX1_address_47 (fun H_3 locs hP hD hS => ?_)
      have hP : va_P (dC, dI) classes [(x, .inr (1, [.ref a1, .ref a2, .ref a3, .ref a4, .ref a5, .int (nI k), .int fa, .long mu, .long ml])), (a1, .inl (k1, 1000, .inl f)), (a2, .inl (k2, 1000, .inl g)), (a3, .inl (k3, 1000, .inl n)), (a4, .inl (k4, 1000, .inr (.inl u))), (a5, .inl (k5, 1000, .inr (.inl w)))] H_3 := hP
      have hD : va_D A [(x, .inr (1, [.ref a1, .ref a2, .ref a3, .ref a4, .ref a5, .int (nI k), .int fa, .long mu, .long ml])), (a1, .inl (k1, 1000, .inl f)), (a2, .inl (k2, 1000, .inl g)), (a3, .inl (k3, 1000, .inl n)), (a4, .inl (k4, 1000, .inr (.inl u))), (a5, .inl (k5, 1000, .inr (.inl w)))] := hD
      refine lv_aload_n hx hb dX1_address_50 rfl (lv_at hl 1 rfl) ?_
      refine lv_lload_n hx hb dX1_address_51 rfl (lv_at hl 3 rfl) ?_
      refine va_put (D := (dC, dI)) (ci := 1) (v := .long up) (ty := .long) (C := RX1) (T := TX1) (N := 9) hx hb htl inX1 tyX1 tyX1_ok nmX1 hown hK hP hD hS 0 rfl rfl 7 (by decide) (htl _ flX1_32) (fun _ h9 => h9) rfl (by decide +kernel) rfl rfl (Nat.le_of_ble_eq_true rfl) dX1_address_52 (fun H_4 locs hP hD hS => ?_)
      have hP : va_P (dC, dI) classes [(x, .inr (1, [.ref a1, .ref a2, .ref a3, .ref a4, .ref a5, .int (nI k), .int fa, .long up, .long ml])), (a1, .inl (k1, 1000, .inl f)), (a2, .inl (k2, 1000, .inl g)), (a3, .inl (k3, 1000, .inl n)), (a4, .inl (k4, 1000, .inr (.inl u))), (a5, .inl (k5, 1000, .inr (.inl w)))] H_4 := hP
      have hD : va_D A [(x, .inr (1, [.ref a1, .ref a2, .ref a3, .ref a4, .ref a5, .int (nI k), .int fa, .long up, .long ml])), (a1, .inl (k1, 1000, .inl f)), (a2, .inl (k2, 1000, .inl g)), (a3, .inl (k3, 1000, .inl n)), (a4, .inl (k4, 1000, .inr (.inl u))), (a5, .inl (k5, 1000, .inr (.inl w)))] := hD
      refine lv_aload_n hx hb dX1_address_55 rfl (lv_at hl 1 rfl) ?_
      refine lv_lload hx hb dX1_address_56 (lv_at hl 4 rfl) ?_
      refine va_put (D := (dC, dI)) (ci := 1) (v := .long lo) (ty := .long) (C := RX1) (T := TX1) (N := 9) hx hb htl inX1 tyX1 tyX1_ok nmX1 hown hK hP hD hS 0 rfl rfl 8 (by decide) (htl _ flX1_36) (fun _ h9 => h9) rfl (by decide +kernel) rfl rfl (Nat.le_of_ble_eq_true rfl) dX1_address_58 (fun H_5 locs hP hD hS => ?_)
      have hP : va_P (dC, dI) classes [(x, .inr (1, [.ref a1, .ref a2, .ref a3, .ref a4, .ref a5, .int (nI k), .int fa, .long up, .long lo])), (a1, .inl (k1, 1000, .inl f)), (a2, .inl (k2, 1000, .inl g)), (a3, .inl (k3, 1000, .inl n)), (a4, .inl (k4, 1000, .inr (.inl u))), (a5, .inl (k5, 1000, .inr (.inl w)))] H_5 := hP
      have hD : va_D A [(x, .inr (1, [.ref a1, .ref a2, .ref a3, .ref a4, .ref a5, .int (nI k), .int fa, .long up, .long lo])), (a1, .inl (k1, 1000, .inl f)), (a2, .inl (k2, 1000, .inl g)), (a3, .inl (k3, 1000, .inl n)), (a4, .inl (k4, 1000, .inr (.inl u))), (a5, .inl (k5, 1000, .inr (.inl w)))] := hD
      refine lv_iload hx hb dX1_address_61 (lv_at hl 0 rfl) ?_
      exact mu_zret hx hb hr hlocks hS hP (by rw [if_pos (by simp [kb_addr, c_1])]) (by simp [kb_addr, b2i, c_1]) rfl dX1_address_63
  · refine lv_iload_n hx hb dX1_address_6 rfl (lv_at hl 1 rfl) ?_
    refine lv_iconst (v := 4) hx hb dX1_address_7 (by decide) ?_
    refine lv_icmp_ne (tgt := 37) hx hb dX1_address_8 (by decide) (fun c_6 => ?_) (fun c_6 => ?_)
    · refine lv_iconst (v := 0) hx hb dX1_address_37 (by decide) ?_
      refine lv_istore (lv' := [(6, .int 0), (0, .ref x), (1, .int fa), (2, .long up), (4, .long lo)]) hx hb dX1_address_38 hl (by decide) rfl (fun ls hl => ?_)
      refine lv_iload hx hb dX1_address_40 (lv_at hl 0 rfl) ?_
      refine lv_if_eq (tgt := 61) hx hb dX1_address_42 (by decide) (fun c_7 => ?_) (fun c_7 => ?_)
      · refine lv_iload hx hb dX1_address_61 (lv_at hl 0 rfl) ?_
        exact mu_zret hx hb hr hlocks hS hP (by rw [if_neg (by simp [kb_addr, c_1, c_6])]) (by simp [kb_addr, b2i, c_1, c_6]) rfl dX1_address_63
      · exact absurd c_7 (by decide)
    · refine lv_lload_n hx hb dX1_address_11 rfl (lv_at hl 2 rfl) ?_
      refine lv_lconst (v := 0) hx hb dX1_address_12 (by decide) ?_
      refine W.lcmp hx hb dX1_address_13 ?_
      refine lv_if_ne (tgt := 37) hx hb dX1_address_14 (by decide) (fun c_8 => ?_) (fun c_8 => ?_)
      · rw [lg_cmp_eq] at c_8
        refine lv_iconst (v := 0) hx hb dX1_address_37 (by decide) ?_
        refine lv_istore (lv' := [(6, .int 0), (0, .ref x), (1, .int fa), (2, .long up), (4, .long lo)]) hx hb dX1_address_38 hl (by decide) rfl (fun ls hl => ?_)
        refine lv_iload hx hb dX1_address_40 (lv_at hl 0 rfl) ?_
        refine lv_if_eq (tgt := 61) hx hb dX1_address_42 (by decide) (fun c_9 => ?_) (fun c_9 => ?_)
        · refine lv_iload hx hb dX1_address_61 (lv_at hl 0 rfl) ?_
          exact mu_zret hx hb hr hlocks hS hP (by rw [if_neg (by simp [kb_addr, c_1, c_6, c_8])]) (by simp [kb_addr, b2i, c_1, c_6, c_8]) rfl dX1_address_63
        · exact absurd c_9 (by decide)
      · rw [lg_cmp_eq] at c_8
        refine lv_lload hx hb dX1_address_17 (lv_at hl 3 rfl) ?_
        refine lv_lconst (v := 0) hx hb dX1_address_19 (by decide) ?_
        refine W.lcmp hx hb dX1_address_20 ?_
        refine lv_if_lt (tgt := 37) hx hb dX1_address_21 (by decide) (fun c_10 => ?_) (fun c_10 => ?_)
        · rw [lg_cmp_lt] at c_10
          refine lv_iconst (v := 0) hx hb dX1_address_37 (by decide) ?_
          refine lv_istore (lv' := [(6, .int 0), (0, .ref x), (1, .int fa), (2, .long up), (4, .long lo)]) hx hb dX1_address_38 hl (by decide) rfl (fun ls hl => ?_)
          refine lv_iload hx hb dX1_address_40 (lv_at hl 0 rfl) ?_
          refine lv_if_eq (tgt := 61) hx hb dX1_address_42 (by decide) (fun c_11 => ?_) (fun c_11 => ?_)
          · refine lv_iload hx hb dX1_address_61 (lv_at hl 0 rfl) ?_
            exact mu_zret hx hb hr hlocks hS hP (by rw [if_neg (by simp [kb_addr, c_1, c_6, c_8, c_10])]) (by simp [kb_addr, b2i, c_1, c_6, c_8, c_10]) rfl dX1_address_63
          · exact absurd c_11 (by decide)
        · rw [lg_cmp_lt] at c_10
          refine lv_lload hx hb dX1_address_24 (lv_at hl 3 rfl) ?_
          refine lv_ldc2 (v := 4294967296) hx hb hown (htl _ kcX1_30) dX1_address_26 ?_
          refine W.lcmp hx hb dX1_address_29 ?_
          refine lv_if_ge (tgt := 37) hx hb dX1_address_30 (by decide) (fun c_12 => ?_) (fun c_12 => ?_)
          · rw [lg_cmp_ge] at c_12
            refine lv_iconst (v := 0) hx hb dX1_address_37 (by decide) ?_
            refine lv_istore (lv' := [(6, .int 0), (0, .ref x), (1, .int fa), (2, .long up), (4, .long lo)]) hx hb dX1_address_38 hl (by decide) rfl (fun ls hl => ?_)
            refine lv_iload hx hb dX1_address_40 (lv_at hl 0 rfl) ?_
            refine lv_if_eq (tgt := 61) hx hb dX1_address_42 (by decide) (fun c_13 => ?_) (fun c_13 => ?_)
            · refine lv_iload hx hb dX1_address_61 (lv_at hl 0 rfl) ?_
              exact mu_zret hx hb hr hlocks hS hP (by rw [if_neg (by simp [kb_addr, c_1, c_6, c_8, c_10, c_12])]) (by simp [kb_addr, b2i, c_1, c_6, c_8, c_10, c_12]) rfl dX1_address_63
            · exact absurd c_13 (by decide)
          · rw [lg_cmp_ge] at c_12
            refine lv_iconst (v := 1) hx hb dX1_address_33 (by decide) ?_
            refine lv_goto (tgt := 38) hx hb dX1_address_34 (by decide) ?_
            refine lv_istore (lv' := [(6, .int 1), (0, .ref x), (1, .int fa), (2, .long up), (4, .long lo)]) hx hb dX1_address_38 hl (by decide) rfl (fun ls hl => ?_)
            refine lv_iload hx hb dX1_address_40 (lv_at hl 0 rfl) ?_
            refine lv_if_eq (tgt := 61) hx hb dX1_address_42 (by decide) (fun c_14 => ?_) (fun c_14 => ?_)
            · exact absurd c_14 (by decide)
            · refine lv_aload_n hx hb dX1_address_45 rfl (lv_at hl 1 rfl) ?_
              refine lv_iload_n hx hb dX1_address_46 rfl (lv_at hl 2 rfl) ?_
              refine va_put (D := (dC, dI)) (ci := 1) (v := .int fa) (ty := .int) (C := RX1) (T := TX1) (N := 9) hx hb htl inX1 tyX1 tyX1_ok nmX1 hown hK hP hD hS 0 rfl rfl 6 (by decide) (htl _ flX1_26) (fun _ h9 => h9) rfl (by decide +kernel) rfl rfl (Nat.le_of_ble_eq_true rfl) dX1_address_47 (fun H_15 locs hP hD hS => ?_)
              have hP : va_P (dC, dI) classes [(x, .inr (1, [.ref a1, .ref a2, .ref a3, .ref a4, .ref a5, .int (nI k), .int fa, .long mu, .long ml])), (a1, .inl (k1, 1000, .inl f)), (a2, .inl (k2, 1000, .inl g)), (a3, .inl (k3, 1000, .inl n)), (a4, .inl (k4, 1000, .inr (.inl u))), (a5, .inl (k5, 1000, .inr (.inl w)))] H_15 := hP
              have hD : va_D A [(x, .inr (1, [.ref a1, .ref a2, .ref a3, .ref a4, .ref a5, .int (nI k), .int fa, .long mu, .long ml])), (a1, .inl (k1, 1000, .inl f)), (a2, .inl (k2, 1000, .inl g)), (a3, .inl (k3, 1000, .inl n)), (a4, .inl (k4, 1000, .inr (.inl u))), (a5, .inl (k5, 1000, .inr (.inl w)))] := hD
              refine lv_aload_n hx hb dX1_address_50 rfl (lv_at hl 1 rfl) ?_
              refine lv_lload_n hx hb dX1_address_51 rfl (lv_at hl 3 rfl) ?_
              refine va_put (D := (dC, dI)) (ci := 1) (v := .long up) (ty := .long) (C := RX1) (T := TX1) (N := 9) hx hb htl inX1 tyX1 tyX1_ok nmX1 hown hK hP hD hS 0 rfl rfl 7 (by decide) (htl _ flX1_32) (fun _ h9 => h9) rfl (by decide +kernel) rfl rfl (Nat.le_of_ble_eq_true rfl) dX1_address_52 (fun H_16 locs hP hD hS => ?_)
              have hP : va_P (dC, dI) classes [(x, .inr (1, [.ref a1, .ref a2, .ref a3, .ref a4, .ref a5, .int (nI k), .int fa, .long up, .long ml])), (a1, .inl (k1, 1000, .inl f)), (a2, .inl (k2, 1000, .inl g)), (a3, .inl (k3, 1000, .inl n)), (a4, .inl (k4, 1000, .inr (.inl u))), (a5, .inl (k5, 1000, .inr (.inl w)))] H_16 := hP
              have hD : va_D A [(x, .inr (1, [.ref a1, .ref a2, .ref a3, .ref a4, .ref a5, .int (nI k), .int fa, .long up, .long ml])), (a1, .inl (k1, 1000, .inl f)), (a2, .inl (k2, 1000, .inl g)), (a3, .inl (k3, 1000, .inl n)), (a4, .inl (k4, 1000, .inr (.inl u))), (a5, .inl (k5, 1000, .inr (.inl w)))] := hD
              refine lv_aload_n hx hb dX1_address_55 rfl (lv_at hl 1 rfl) ?_
              refine lv_lload hx hb dX1_address_56 (lv_at hl 4 rfl) ?_
              refine va_put (D := (dC, dI)) (ci := 1) (v := .long lo) (ty := .long) (C := RX1) (T := TX1) (N := 9) hx hb htl inX1 tyX1 tyX1_ok nmX1 hown hK hP hD hS 0 rfl rfl 8 (by decide) (htl _ flX1_36) (fun _ h9 => h9) rfl (by decide +kernel) rfl rfl (Nat.le_of_ble_eq_true rfl) dX1_address_58 (fun H_17 locs hP hD hS => ?_)
              have hP : va_P (dC, dI) classes [(x, .inr (1, [.ref a1, .ref a2, .ref a3, .ref a4, .ref a5, .int (nI k), .int fa, .long up, .long lo])), (a1, .inl (k1, 1000, .inl f)), (a2, .inl (k2, 1000, .inl g)), (a3, .inl (k3, 1000, .inl n)), (a4, .inl (k4, 1000, .inr (.inl u))), (a5, .inl (k5, 1000, .inr (.inl w)))] H_17 := hP
              have hD : va_D A [(x, .inr (1, [.ref a1, .ref a2, .ref a3, .ref a4, .ref a5, .int (nI k), .int fa, .long up, .long lo])), (a1, .inl (k1, 1000, .inl f)), (a2, .inl (k2, 1000, .inl g)), (a3, .inl (k3, 1000, .inl n)), (a4, .inl (k4, 1000, .inr (.inl u))), (a5, .inl (k5, 1000, .inr (.inl w)))] := hD
              refine lv_iload hx hb dX1_address_61 (lv_at hl 0 rfl) ?_
              exact mu_zret hx hb hr hlocks hS hP (by rw [if_pos (by simp [kb_addr, c_1, c_6, c_8, c_10, c_12])]) (by simp [kb_addr, b2i, c_1, c_6, c_8, c_10, c_12]) rfl dX1_address_63
set_option maxHeartbeats 4000000 in
set_option maxRecDepth 100000 in
theorem c_X1_atBad (l : Launch) (dC : Nat → ClassId) (dI : Nat → Nat → Nat) {x a1 a2 a3 a4 a5 : Nat} {k1 k2 k3 k4 k5 : ClassId} {f : Nat → Int32} {u w : Nat → Int64} {g n : Nat → Int32} {k : Nat} {mf : Int32} {mu ml : Int64} (ra : Int32) (A : Nat → Prop) (hra : ra < 0 ∨ nI k ≤ ra) (hD : va_D A (mdw x a1 a2 a3 a4 a5 k1 k2 k3 k4 k5 f u w g n k mf mu ml)) : Met l yX1_at (ww yX1_at cX1_at 3 (some .int)) ({ frames := 3, cells := 0, slots := 0, locals := 84 } : Room) (va_Pc [.ref x, .int ra] (fun U => va_P (dC, dI) classes (mdw x a1 a2 a3 a4 a5 k1 k2 k3 k4 k5 f u w g n k mf mu ml) U.heap ∧ va_K (dC, dI) classes (mdt k1 k2 k3 k4 k5) U)) (va_Qi (fun r (_ : Unit) => r = (-1)) (fun _ t => va_P (dC, dI) classes (mdw x a1 a2 a3 a4 a5 k1 k2 k3 k4 k5 f u w g n k mf mu ml) t.heap) A) 0 0 A := by
  refine Met.ofW (cc := cX1_at) (maxL := 3) (ret := (some .int)) (by decide) rfl ?_
  intro p e s m args below meth c s₁ B hml hv
  obtain ⟨rfl, hP, hK⟩ := hv
  have hS : va_S A s.heap s.heap [] := va_S.rf
  have hx := B.exec
  have hb := B.bytes
  have hr := B.returns
  have hts := atoms_spec (ws := ww yX1_at cX1_at 3 (some .int)) B.pre
  have htl : ∀ w ∈ ltg, w.before [.ref x, .int ra].toArray s = true := fun w h => hts w (List.mem_cons_of_mem _ h)
  have hown : s.vm.findClass RX1 = some m.cls := findClass_of_methodNamed B.named
  have hlocks := B.notSynchronized
  have hl := lv_entry ([.ref x, .int ra]) (n := 3) (Nat.le_of_ble_eq_true rfl)
  rw [lg_entry_eq]
  generalize (lg_sl ([.ref x, .int ra]) ++ List.replicate (3 - (lg_sl ([.ref x, .int ra])).length) Slot.unset).toArray = ls at hl ⊢
  have hl : lv_has ls 3 [(0, .ref x), (1, .int ra)] := hl
  refine lv_iload_n hx hb dX1_at_0 rfl (lv_at hl 1 rfl) ?_
  refine lv_if_lt (tgt := 12) hx hb dX1_at_1 (by decide) (fun c_1 => ?_) (fun c_1 => ?_)
  · refine lv_iconst (v := (-1)) hx hb dX1_at_12 (by decide) ?_
    exact mu_iret hx hb hr hlocks hS hP (rfl) (rfl) dX1_at_13
  · refine lv_iload_n hx hb dX1_at_4 rfl (lv_at hl 1 rfl) ?_
    refine lv_aload_n hx hb dX1_at_5 rfl (lv_at hl 0 rfl) ?_
    refine va_get (D := (dC, dI)) (ci := 1) (v := .int (nI k)) (C := RX1) (T := TX1) (N := 9) hx hb htl inX1 hown hK hP 0 rfl rfl 5 (by decide) (htl _ flX1_47) (fun _ h9 => h9) rfl dX1_at_6 ?_
    refine lv_icmp_lt (tgt := 14) hx hb dX1_at_9 (by decide) (fun c_2 => ?_) (fun c_2 => ?_)
    · exact absurd hra (fun q => q.elim c_1 (fun z => Int32.not_le.mpr c_2 z))
    · refine lv_iconst (v := (-1)) hx hb dX1_at_12 (by decide) ?_
      exact mu_iret hx hb hr hlocks hS hP (rfl) (rfl) dX1_at_13
set_option maxHeartbeats 4000000 in
set_option maxRecDepth 100000 in
theorem c_X1_atOk (l : Launch) (dC : Nat → ClassId) (dI : Nat → Nat → Nat) {x a1 a2 a3 a4 a5 : Nat} {k1 k2 k3 k4 k5 : ClassId} {f : Nat → Int32} {u w : Nat → Int64} {g n : Nat → Int32} {k : Nat} {mf : Int32} {mu ml : Int64} (rk : Nat) (A : Nat → Prop) (hj : rk < k) (hk : k ≤ 1000) (hR : kb_fst (fun q => !decide (md_ct f u w g k q = rk)) k 0 < k) (hD : va_D A (mdw x a1 a2 a3 a4 a5 k1 k2 k3 k4 k5 f u w g n k mf mu ml)) : Met l yX1_at (ww yX1_at cX1_at 3 (some .int)) ({ frames := 3, cells := 0, slots := 0, locals := 84 } : Room) (va_Pc [.ref x, .int (nI rk)] (fun U => va_P (dC, dI) classes (mdw x a1 a2 a3 a4 a5 k1 k2 k3 k4 k5 f u w g n k mf mu ml) U.heap ∧ va_K (dC, dI) classes (mdt k1 k2 k3 k4 k5) U)) (va_Qi (fun r (_ : Unit) => r = (g (kb_fst (fun q => !decide (md_ct f u w g k q = rk)) k 0))) (fun _ t => va_P (dC, dI) classes (mdw x a1 a2 a3 a4 a5 k1 k2 k3 k4 k5 f u w g n k (f (kb_fst (fun q => !decide (md_ct f u w g k q = rk)) k 0)) (u (kb_fst (fun q => !decide (md_ct f u w g k q = rk)) k 0)) (w (kb_fst (fun q => !decide (md_ct f u w g k q = rk)) k 0))) t.heap) A) 0 0 A := by
  refine Met.ofW (cc := cX1_at) (maxL := 3) (ret := (some .int)) (by decide) rfl ?_
  intro p e s m args below meth c s₁ B hml hv
  obtain ⟨rfl, hP, hK⟩ := hv
  have hS : va_S A s.heap s.heap [] := va_S.rf
  have hx := B.exec
  have hb := B.bytes
  have hr := B.returns
  have hts := atoms_spec (ws := ww yX1_at cX1_at 3 (some .int)) B.pre
  have htl : ∀ w ∈ ltg, w.before [.ref x, .int (nI rk)].toArray s = true := fun w h => hts w (List.mem_cons_of_mem _ h)
  have hown : s.vm.findClass RX1 = some m.cls := findClass_of_methodNamed B.named
  have hlocks := B.notSynchronized
  have hl := lv_entry ([.ref x, .int (nI rk)]) (n := 3) (Nat.le_of_ble_eq_true rfl)
  rw [lg_entry_eq]
  generalize (lg_sl ([.ref x, .int (nI rk)]) ++ List.replicate (3 - (lg_sl ([.ref x, .int (nI rk)])).length) Slot.unset).toArray = ls at hl ⊢
  have hl : lv_has ls 3 [(0, .ref x), (1, .int (nI rk))] := hl
  have hRP := kb_fst_in (fun q => !decide (md_ct f u w g k q = rk)) k 0
  have hRat := kb_fst_at (fun q => !decide (md_ct f u w g k q = rk)) k 0 (by omega)
  generalize hRA : kb_fst (fun q => !decide (md_ct f u w g k q = rk)) k 0 = R at hRP hRat hR ⊢
  have loop : ∀ (d i : Nat), i ≤ R → R + 1 ≤ i + d → ∀ (ls : Array Slot), lv_has ls 3 [(0, .ref x), (1, .int (nI rk)), (2, .int (nI i))] → W p l e ({ frames := 3, cells := 0, slots := 0, locals := 84 } : Room) s m ([.ref x, .int (nI rk)] : List Value).toArray below meth c s.heap [] 0 0 (MQ below (va_Qi (fun r (_ : Unit) => r = (g R)) (fun _ t => va_P (dC, dI) classes (mdw x a1 a2 a3 a4 a5 k1 k2 k3 k4 k5 f u w g n k (f R) (u R) (w R)) t.heap) A) [.ref x, .int (nI rk)].toArray s 0 0 A) (F0 m 16 ls []) := by
    intro d
    induction d with
    | zero => intro i h1 h2; exact absurd h2 (by omega)
    | succ d ih =>
      intro i hi hd ls hl
      have hcv := kb_cv_le (md_ah f u w g (f i) (u i) (w i) (g i)) k
      refine lv_aload_n hx hb dX1_at_16 rfl (lv_at hl 0 rfl) ?_
      refine lv_aload_n hx hb dX1_at_17 rfl (lv_at hl 0 rfl) ?_
      refine va_get (D := (dC, dI)) (ci := 1) (v := .ref a1) (C := RX1) (T := TX1) (N := 9) hx hb htl inX1 hown hK hP 0 rfl rfl 0 (by decide) (htl _ flX1_7) (fun _ h9 => h9) rfl dX1_at_18 ?_
      refine lv_iload_n hx hb dX1_at_21 rfl (lv_at hl 2 rfl) ?_
      refine ld_i hx hb hK hP 1 0 rfl rfl (j := i) (by omega) (Nat.le_of_ble_eq_true rfl) dX1_at_22 ?_
      refine lv_aload_n hx hb dX1_at_23 rfl (lv_at hl 0 rfl) ?_
      refine va_get (D := (dC, dI)) (ci := 1) (v := .ref a4) (C := RX1) (T := TX1) (N := 9) hx hb htl inX1 hown hK hP 0 rfl rfl 3 (by decide) (htl _ flX1_19) (fun _ h9 => h9) rfl dX1_at_24 ?_
      refine lv_iload_n hx hb dX1_at_27 rfl (lv_at hl 2 rfl) ?_
      refine ld_l hx hb hK hP 4 3 rfl rfl (j := i) (by omega) (Nat.le_of_ble_eq_true rfl) dX1_at_28 ?_
      refine lv_aload_n hx hb dX1_at_29 rfl (lv_at hl 0 rfl) ?_
      refine va_get (D := (dC, dI)) (ci := 1) (v := .ref a5) (C := RX1) (T := TX1) (N := 9) hx hb htl inX1 hown hK hP 0 rfl rfl 4 (by decide) (htl _ flX1_23) (fun _ h9 => h9) rfl dX1_at_30 ?_
      refine lv_iload_n hx hb dX1_at_33 rfl (lv_at hl 2 rfl) ?_
      refine ld_l hx hb hK hP 5 4 rfl rfl (j := i) (by omega) (Nat.le_of_ble_eq_true rfl) dX1_at_34 ?_
      refine lv_aload_n hx hb dX1_at_35 rfl (lv_at hl 0 rfl) ?_
      refine va_get (D := (dC, dI)) (ci := 1) (v := .ref a2) (C := RX1) (T := TX1) (N := 9) hx hb htl inX1 hown hK hP 0 rfl rfl 1 (by decide) (htl _ flX1_13) (fun _ h9 => h9) rfl dX1_at_36 ?_
      refine lv_iload_n hx hb dX1_at_39 rfl (lv_at hl 2 rfl) ?_
      refine ld_i hx hb hK hP 2 1 rfl rfl (j := i) (by omega) (Nat.le_of_ble_eq_true rfl) dX1_at_40 ?_
      refine ru_calli (va_runV (As := [.int (f i), .long (u i), .long (w i), .int (g i)]) (rest := []) ⟨hx, hb, hml, hown, htl⟩ (c_X1_countAhead l dC dI (f i) (u i) (w i) (g i) _ hk hP) (cwV 4 htl gX1_71 rfl rfl rfl hd_X1_countAhead ⟨Nat.le_of_ble_eq_true rfl, Nat.le_of_ble_eq_true rfl⟩) ⟨fb_ro, va_recv hK hP (ci := 1) (q0 := 0) rfl rfl, fun U hU hW => ⟨rfl, hU, va_K.moved hW.alike hK⟩⟩ rfl rfl hl.1 rfl (lv_room (Nat.le_of_ble_eq_true rfl)) dX1_at_41 ⟨Nat.le_of_ble_eq_true rfl, Nat.le_of_ble_eq_true rfl⟩) ?_
      refine lv_iload_n hx hb dX1_at_44 rfl (lv_at hl 1 rfl) ?_
      refine lv_icmp_eq (tgt := 54) hx hb dX1_at_45 (by decide) (fun c_1 => ?_) (fun c_1 => ?_)
      · rw [nI_eq (by omega) (by omega)] at c_1
        obtain rfl : i = R := by
          rcases Nat.lt_or_ge i R with z | z
          · have z1 := hRP i (Nat.zero_le i) z
            rw [show md_ct f u w g k i = rk from c_1] at z1
            simp at z1
          · omega
        refine lv_aload_n hx hb dX1_at_54 rfl (lv_at hl 0 rfl) ?_
        refine lv_aload_n hx hb dX1_at_55 rfl (lv_at hl 0 rfl) ?_
        refine va_get (D := (dC, dI)) (ci := 1) (v := .ref a1) (C := RX1) (T := TX1) (N := 9) hx hb htl inX1 hown hK hP 0 rfl rfl 0 (by decide) (htl _ flX1_7) (fun _ h9 => h9) rfl dX1_at_56 ?_
        refine lv_iload_n hx hb dX1_at_59 rfl (lv_at hl 2 rfl) ?_
        refine ld_i hx hb hK hP 1 0 rfl rfl (j := i) (by omega) (Nat.le_of_ble_eq_true rfl) dX1_at_60 ?_
        refine va_put (D := (dC, dI)) (ci := 1) (v := .int (f i)) (ty := .int) (C := RX1) (T := TX1) (N := 9) hx hb htl inX1 tyX1 tyX1_ok nmX1 hown hK hP hD hS 0 rfl rfl 6 (by decide) (htl _ flX1_26) (fun _ h9 => h9) rfl (by decide +kernel) rfl rfl (Nat.le_of_ble_eq_true rfl) dX1_at_61 (fun H_2 locs hP hD hS => ?_)
        have hP : va_P (dC, dI) classes [(x, .inr (1, [.ref a1, .ref a2, .ref a3, .ref a4, .ref a5, .int (nI k), .int (f i), .long mu, .long ml])), (a1, .inl (k1, 1000, .inl f)), (a2, .inl (k2, 1000, .inl g)), (a3, .inl (k3, 1000, .inl n)), (a4, .inl (k4, 1000, .inr (.inl u))), (a5, .inl (k5, 1000, .inr (.inl w)))] H_2 := hP
        have hD : va_D A [(x, .inr (1, [.ref a1, .ref a2, .ref a3, .ref a4, .ref a5, .int (nI k), .int (f i), .long mu, .long ml])), (a1, .inl (k1, 1000, .inl f)), (a2, .inl (k2, 1000, .inl g)), (a3, .inl (k3, 1000, .inl n)), (a4, .inl (k4, 1000, .inr (.inl u))), (a5, .inl (k5, 1000, .inr (.inl w)))] := hD
        refine lv_aload_n hx hb dX1_at_64 rfl (lv_at hl 0 rfl) ?_
        refine lv_aload_n hx hb dX1_at_65 rfl (lv_at hl 0 rfl) ?_
        refine va_get (D := (dC, dI)) (ci := 1) (v := .ref a4) (C := RX1) (T := TX1) (N := 9) hx hb htl inX1 hown hK hP 0 rfl rfl 3 (by decide) (htl _ flX1_19) (fun _ h9 => h9) rfl dX1_at_66 ?_
        refine lv_iload_n hx hb dX1_at_69 rfl (lv_at hl 2 rfl) ?_
        refine ld_l hx hb hK hP 4 3 rfl rfl (j := i) (by omega) (Nat.le_of_ble_eq_true rfl) dX1_at_70 ?_
        refine va_put (D := (dC, dI)) (ci := 1) (v := .long (u i)) (ty := .long) (C := RX1) (T := TX1) (N := 9) hx hb htl inX1 tyX1 tyX1_ok nmX1 hown hK hP hD hS 0 rfl rfl 7 (by decide) (htl _ flX1_32) (fun _ h9 => h9) rfl (by decide +kernel) rfl rfl (Nat.le_of_ble_eq_true rfl) dX1_at_71 (fun H_3 locs hP hD hS => ?_)
        have hP : va_P (dC, dI) classes [(x, .inr (1, [.ref a1, .ref a2, .ref a3, .ref a4, .ref a5, .int (nI k), .int (f i), .long (u i), .long ml])), (a1, .inl (k1, 1000, .inl f)), (a2, .inl (k2, 1000, .inl g)), (a3, .inl (k3, 1000, .inl n)), (a4, .inl (k4, 1000, .inr (.inl u))), (a5, .inl (k5, 1000, .inr (.inl w)))] H_3 := hP
        have hD : va_D A [(x, .inr (1, [.ref a1, .ref a2, .ref a3, .ref a4, .ref a5, .int (nI k), .int (f i), .long (u i), .long ml])), (a1, .inl (k1, 1000, .inl f)), (a2, .inl (k2, 1000, .inl g)), (a3, .inl (k3, 1000, .inl n)), (a4, .inl (k4, 1000, .inr (.inl u))), (a5, .inl (k5, 1000, .inr (.inl w)))] := hD
        refine lv_aload_n hx hb dX1_at_74 rfl (lv_at hl 0 rfl) ?_
        refine lv_aload_n hx hb dX1_at_75 rfl (lv_at hl 0 rfl) ?_
        refine va_get (D := (dC, dI)) (ci := 1) (v := .ref a5) (C := RX1) (T := TX1) (N := 9) hx hb htl inX1 hown hK hP 0 rfl rfl 4 (by decide) (htl _ flX1_23) (fun _ h9 => h9) rfl dX1_at_76 ?_
        refine lv_iload_n hx hb dX1_at_79 rfl (lv_at hl 2 rfl) ?_
        refine ld_l hx hb hK hP 5 4 rfl rfl (j := i) (by omega) (Nat.le_of_ble_eq_true rfl) dX1_at_80 ?_
        refine va_put (D := (dC, dI)) (ci := 1) (v := .long (w i)) (ty := .long) (C := RX1) (T := TX1) (N := 9) hx hb htl inX1 tyX1 tyX1_ok nmX1 hown hK hP hD hS 0 rfl rfl 8 (by decide) (htl _ flX1_36) (fun _ h9 => h9) rfl (by decide +kernel) rfl rfl (Nat.le_of_ble_eq_true rfl) dX1_at_81 (fun H_4 locs hP hD hS => ?_)
        have hP : va_P (dC, dI) classes [(x, .inr (1, [.ref a1, .ref a2, .ref a3, .ref a4, .ref a5, .int (nI k), .int (f i), .long (u i), .long (w i)])), (a1, .inl (k1, 1000, .inl f)), (a2, .inl (k2, 1000, .inl g)), (a3, .inl (k3, 1000, .inl n)), (a4, .inl (k4, 1000, .inr (.inl u))), (a5, .inl (k5, 1000, .inr (.inl w)))] H_4 := hP
        have hD : va_D A [(x, .inr (1, [.ref a1, .ref a2, .ref a3, .ref a4, .ref a5, .int (nI k), .int (f i), .long (u i), .long (w i)])), (a1, .inl (k1, 1000, .inl f)), (a2, .inl (k2, 1000, .inl g)), (a3, .inl (k3, 1000, .inl n)), (a4, .inl (k4, 1000, .inr (.inl u))), (a5, .inl (k5, 1000, .inr (.inl w)))] := hD
        refine lv_aload_n hx hb dX1_at_84 rfl (lv_at hl 0 rfl) ?_
        refine va_get (D := (dC, dI)) (ci := 1) (v := .ref a2) (C := RX1) (T := TX1) (N := 9) hx hb htl inX1 hown hK hP 0 rfl rfl 1 (by decide) (htl _ flX1_13) (fun _ h9 => h9) rfl dX1_at_85 ?_
        refine lv_iload_n hx hb dX1_at_88 rfl (lv_at hl 2 rfl) ?_
        refine ld_i hx hb hK hP 2 1 rfl rfl (j := i) (by omega) (Nat.le_of_ble_eq_true rfl) dX1_at_89 ?_
        exact mu_iret hx hb hr hlocks hS hP (rfl) (rfl) dX1_at_90
      · rw [nI_eq (by omega) (by omega)] at c_1
        have hne : i ≠ R := fun z => by
          rw [← z] at hRat
          simp [md_ct, c_1] at hRat
        refine lv_iinc (v := nI (i + 1)) (lv' := [(2, .int (nI (i + 1))), (0, .ref x), (1, .int (nI rk))]) hx hb dX1_at_48 hl (k := 2) rfl (by first | rfl | exact nI_1 _) (by decide) rfl (fun ls hl => ?_)
        refine lv_goto (tgt := 16) hx hb dX1_at_51 (by decide) ?_
        exact ih (i + 1) (by omega) (by omega) ls (lv_sub hl [1, 2, 0] rfl)
  refine lv_iload_n hx hb dX1_at_0 rfl (lv_at hl 1 rfl) ?_
  refine lv_if_lt (tgt := 12) hx hb dX1_at_1 (by decide) (fun c_21 => ?_) (fun c_21 => ?_)
  · exact absurd c_21 (nI_pos (by omega))
  · refine lv_iload_n hx hb dX1_at_4 rfl (lv_at hl 1 rfl) ?_
    refine lv_aload_n hx hb dX1_at_5 rfl (lv_at hl 0 rfl) ?_
    refine va_get (D := (dC, dI)) (ci := 1) (v := .int (nI k)) (C := RX1) (T := TX1) (N := 9) hx hb htl inX1 hown hK hP 0 rfl rfl 5 (by decide) (htl _ flX1_47) (fun _ h9 => h9) rfl dX1_at_6 ?_
    refine lv_icmp_lt (tgt := 14) hx hb dX1_at_9 (by decide) (fun c_22 => ?_) (fun c_22 => ?_)
    · refine lv_iconst (v := nI 0) hx hb dX1_at_14 (by decide) ?_
      refine lv_istore_n (lv' := [(2, .int (nI 0)), (0, .ref x), (1, .int (nI rk))]) hx hb dX1_at_15 rfl hl (by decide) rfl (fun ls hl => ?_)
      exact loop (R + 1) 0 (Nat.zero_le R) (by omega) ls (lv_sub hl [1, 2, 0] rfl)
    · exact absurd (nI_lt hj (by omega)) c_22
