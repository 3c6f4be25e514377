set_option maxHeartbeats 4000000 in
set_option maxRecDepth 100000 in
theorem c_X0_isLength (l : Launch) (dC : Nat → ClassId) (dI : Nat → Nat → Nat) {x a1 a2 a3 a4 a5 : Nat} {k1 k2 k3 k4 k5 : ClassId} {f : Nat → Int32} {u w : Nat → Int64} {g n : Nat → Int32} {k : Nat} {mf : Int32} {mu ml : Int64} (le : Int32) (Hh : Heap)  (hP : va_P (dC, dI) classes (pbw x a1 a2 a3 a4 a5 k1 k2 k3 k4 k5 f u w g n k mf mu ml) Hh) : Met l yX0_isLength (ww yX0_isLength cX0_isLength 3 (some .boolean)) ({ frames := 0, cells := 0, slots := 0, locals := 0 } : Room) (va_Pc [.ref x, .int le] (fun U => U.heap = Hh ∧ va_K (dC, dI) classes (pbt k1 k2 k3 k4 k5) U)) (va_Qi (fun r (_ : Unit) => r = (b2i (kb_len mf le))) (fun _ t => t.heap = Hh) (fun _ => False)) 0 0 (fun _ => False) := by
  refine Met.ofW (cc := cX0_isLength) (maxL := 3) (ret := (some .boolean)) (by decide) rfl ?_
  intro p e s m args below meth c s₁ B hml hv
  obtain ⟨rfl, hHh, hK⟩ := hv
  subst hHh
  have hx := B.exec
  have hb := B.bytes
  have hr := B.returns
  have hts := atoms_spec (ws := ww yX0_isLength cX0_isLength 3 (some .boolean)) B.pre
  have htl : ∀ w ∈ ltg, w.before [.ref x, .int le].toArray s = true := fun w h => hts w (List.mem_cons_of_mem _ h)
  have hown : s.vm.findClass RX0 = some m.cls := findClass_of_methodNamed B.named
  have hlocks := B.notSynchronized
  have hl := lv_entry ([.ref x, .int le]) (n := 3) (Nat.le_of_ble_eq_true rfl)
  rw [lg_entry_eq]
  generalize (lg_sl ([.ref x, .int le]) ++ List.replicate (3 - (lg_sl ([.ref x, .int le])).length) Slot.unset).toArray = ls at hl ⊢
  have hl : lv_has ls 3 [(0, .ref x), (1, .int le)] := hl
  refine lv_aload_n hx hb dX0_isLength_0 rfl (lv_at hl 0 rfl) ?_
  refine va_get (D := (dC, dI)) (ci := 0) (v := .int mf) (C := RX0) (T := TX0) (N := 9) hx hb htl inX0 hown hK hP 0 rfl rfl 6 (by decide) (htl _ flX0_30) (fun _ h9 => h9) rfl dX0_isLength_1 ?_
  refine lv_iconst (v := 4) hx hb dX0_isLength_4 (by decide) ?_
  refine lv_icmp_ne (tgt := 13) hx hb dX0_isLength_5 (by decide) (fun c_1 => ?_) (fun c_1 => ?_)
  · refine lv_sipush (v := 128) hx hb dX0_isLength_13 (by decide) ?_
    refine lv_istore_n (lv' := [(2, .int 128), (0, .ref x), (1, .int le)]) hx hb dX0_isLength_16 rfl hl (by decide) rfl (fun ls hl => ?_)
    refine lv_iload_n hx hb dX0_isLength_17 rfl (lv_at hl 2 rfl) ?_
    refine lv_if_lt (tgt := 30) hx hb dX0_isLength_18 (by decide) (fun c_2 => ?_) (fun c_2 => ?_)
    · refine lv_iconst (v := 0) hx hb dX0_isLength_30 (by decide) ?_
      exact ru_zret hx hb hr hlocks (by simp [kb_len, b2i, c_1, c_2]) rfl dX0_isLength_31
    · refine lv_iload_n hx hb dX0_isLength_21 rfl (lv_at hl 2 rfl) ?_
      refine lv_iload_n hx hb dX0_isLength_22 rfl (lv_at hl 0 rfl) ?_
      refine lv_icmp_gt (tgt := 30) hx hb dX0_isLength_23 (by decide) (fun c_3 => ?_) (fun c_3 => ?_)
      · refine lv_iconst (v := 0) hx hb dX0_isLength_30 (by decide) ?_
        exact ru_zret hx hb hr hlocks (by simp [kb_len, b2i, c_1, c_2, c_3]) rfl dX0_isLength_31
      · refine lv_iconst (v := 1) hx hb dX0_isLength_26 (by decide) ?_
        refine lv_goto (tgt := 31) hx hb dX0_isLength_27 (by decide) ?_
        exact ru_zret hx hb hr hlocks (by simp [kb_len, b2i, c_1, c_2, c_3]) rfl dX0_isLength_31
  · refine lv_bipush (v := 32) hx hb dX0_isLength_8 (by decide) ?_
    refine lv_goto (tgt := 16) hx hb dX0_isLength_10 (by decide) ?_
    refine lv_istore_n (lv' := [(2, .int 32), (0, .ref x), (1, .int le)]) hx hb dX0_isLength_16 rfl hl (by decide) rfl (fun ls hl => ?_)
    refine lv_iload_n hx hb dX0_isLength_17 rfl (lv_at hl 2 rfl) ?_
    refine lv_if_lt (tgt := 30) hx hb dX0_isLength_18 (by decide) (fun c_4 => ?_) (fun c_4 => ?_)
    · refine lv_iconst (v := 0) hx hb dX0_isLength_30 (by decide) ?_
      exact ru_zret hx hb hr hlocks (by simp [kb_len, b2i, c_1, c_4]) rfl dX0_isLength_31
    · refine lv_iload_n hx hb dX0_isLength_21 rfl (lv_at hl 2 rfl) ?_
      refine lv_iload_n hx hb dX0_isLength_22 rfl (lv_at hl 0 rfl) ?_
      refine lv_icmp_gt (tgt := 30) hx hb dX0_isLength_23 (by decide) (fun c_5 => ?_) (fun c_5 => ?_)
      · refine lv_iconst (v := 0) hx hb dX0_isLength_30 (by decide) ?_
        exact ru_zret hx hb hr hlocks (by simp [kb_len, b2i, c_1, c_4, c_5]) rfl dX0_isLength_31
      · refine lv_iconst (v := 1) hx hb dX0_isLength_26 (by decide) ?_
        refine lv_goto (tgt := 31) hx hb dX0_isLength_27 (by decide) ?_
        exact ru_zret hx hb hr hlocks (by simp [kb_len, b2i, c_1, c_4, c_5]) rfl dX0_isLength_31
set_option maxHeartbeats 4000000 in
set_option maxRecDepth 100000 in
theorem c_X0_isPrefix (l : Launch) (dC : Nat → ClassId) (dI : Nat → Nat → Nat) {x a1 a2 a3 a4 a5 : Nat} {k1 k2 k3 k4 k5 : ClassId} {f : Nat → Int32} {u w : Nat → Int64} {g n : Nat → Int32} {k : Nat} {mf : Int32} {mu ml : Int64} (le : Int32) (Hh : Heap)  (hP : va_P (dC, dI) classes (pbw x a1 a2 a3 a4 a5 k1 k2 k3 k4 k5 f u w g n k mf mu ml) Hh) : Met l yX0_isPrefix (ww yX0_isPrefix cX0_isPrefix 3 (some .boolean)) ({ frames := 2, cells := 0, slots := 0, locals := 40 } : Room) (va_Pc [.ref x, .int le] (fun U => U.heap = Hh ∧ va_K (dC, dI) classes (pbt k1 k2 k3 k4 k5) U)) (va_Qi (fun r (_ : Unit) => r = (b2i (kb_pre mf mu ml le))) (fun _ t => t.heap = Hh) (fun _ => False)) 0 0 (fun _ => False) := by
  refine Met.ofW (cc := cX0_isPrefix) (maxL := 3) (ret := (some .boolean)) (by decide) rfl ?_
  intro p e s m args below meth c s₁ B hml hv
  obtain ⟨rfl, hHh, hK⟩ := hv
  subst hHh
  have hx := B.exec
  have hb := B.bytes
  have hr := B.returns
  have hts := atoms_spec (ws := ww yX0_isPrefix cX0_isPrefix 3 (some .boolean)) B.pre
  have htl : ∀ w ∈ ltg, w.before [.ref x, .int le].toArray s = true := fun w h => hts w (List.mem_cons_of_mem _ h)
  have hown : s.vm.findClass RX0 = some m.cls := findClass_of_methodNamed B.named
  have hlocks := B.notSynchronized
  have hl := lv_entry ([.ref x, .int le]) (n := 3) (Nat.le_of_ble_eq_true rfl)
  rw [lg_entry_eq]
  generalize (lg_sl ([.ref x, .int le]) ++ List.replicate (3 - (lg_sl ([.ref x, .int le])).length) Slot.unset).toArray = ls at hl ⊢
  have hl : lv_has ls 3 [(0, .ref x), (1, .int le)] := hl
  refine lv_aload_n hx hb dX0_isPrefix_0 rfl (lv_at hl 0 rfl) ?_
  refine lv_iload_n hx hb dX0_isPrefix_1 rfl (lv_at hl 1 rfl) ?_
  refine ru_calli (va_runV (As := [.int le]) (rest := []) ⟨hx, hb, hml, hown, htl⟩ (c_X0_isLength l dC dI le _ hP) (cwV 1 htl gX0_75 rfl rfl rfl hd_X0_isLength ⟨Nat.le_of_ble_eq_true rfl, Nat.le_of_ble_eq_true rfl⟩) ⟨fb_ro, va_recv hK hP (ci := 0) (q0 := 0) rfl rfl, fun U hU hW => ⟨rfl, hU, va_K.moved hW.alike hK⟩⟩ rfl rfl hl.1 rfl (lv_room (Nat.le_of_ble_eq_true rfl)) dX0_isPrefix_2 ⟨Nat.le_of_ble_eq_true rfl, Nat.le_of_ble_eq_true rfl⟩) ?_
  refine lv_if_ne (tgt := 10) hx hb dX0_isPrefix_5 (by decide) (fun c_1 => ?_) (fun c_1 => ?_)
  · rw [b2i_0, Bool.not_eq_false] at c_1
    refine lv_aload_n hx hb dX0_isPrefix_10 rfl (lv_at hl 0 rfl) ?_
    refine va_get (D := (dC, dI)) (ci := 0) (v := .int mf) (C := RX0) (T := TX0) (N := 9) hx hb htl inX0 hown hK hP 0 rfl rfl 6 (by decide) (htl _ flX0_30) (fun _ h9 => h9) rfl dX0_isPrefix_11 ?_
    refine lv_iload_n hx hb dX0_isPrefix_14 rfl (lv_at hl 1 rfl) ?_
    refine ru_calli (va_runS (As := [.int mf, .int le]) (rest := []) ⟨hx, hb, hml, hown, htl⟩ (c_X0_bitsOfWhole l dC dI mf le _) (cwS 2 htl gX0_80 rfl rfl rfl hd_X0_bitsOfWhole ⟨Nat.le_of_ble_eq_true rfl, Nat.le_of_ble_eq_true rfl⟩) ⟨fb_ro, fun U hU hW => ⟨rfl, hU, va_K.moved hW.alike hK⟩⟩ rfl rfl hl.1 rfl (lv_room (Nat.le_of_ble_eq_true rfl)) dX0_isPrefix_15 ⟨Nat.le_of_ble_eq_true rfl, Nat.le_of_ble_eq_true rfl⟩) ?_
    refine lv_topi (fun y_2 ey_2 => ?_)
    refine lv_istore_n (lv' := [(2, .int y_2), (0, .ref x), (1, .int le)]) hx hb dX0_isPrefix_18 rfl hl (by decide) rfl (fun ls hl => ?_)
    refine lv_aload_n hx hb dX0_isPrefix_19 rfl (lv_at hl 1 rfl) ?_
    refine va_get (D := (dC, dI)) (ci := 0) (v := .long mu) (C := RX0) (T := TX0) (N := 9) hx hb htl inX0 hown hK hP 0 rfl rfl 7 (by decide) (htl _ flX0_33) (fun _ h9 => h9) rfl dX0_isPrefix_20 ?_
    refine lv_iload_n hx hb dX0_isPrefix_23 rfl (lv_at hl 0 rfl) ?_
    refine ru_calll (va_runS (As := [.int y_2]) (rest := [.long mu]) ⟨hx, hb, hml, hown, htl⟩ (c_X0_upperMask l dC dI y_2 _) (cwS 1 htl gX0_84 rfl rfl rfl hd_X0_upperMask ⟨Nat.le_of_ble_eq_true rfl, Nat.le_of_ble_eq_true rfl⟩) ⟨fb_ro, fun U hU hW => ⟨rfl, hU, va_K.moved hW.alike hK⟩⟩ rfl rfl hl.1 rfl (lv_room (Nat.le_of_ble_eq_true rfl)) dX0_isPrefix_24 ⟨Nat.le_of_ble_eq_true rfl, Nat.le_of_ble_eq_true rfl⟩) ?_
    refine lv_ldc2 (v := (-1)) hx hb hown (htl _ kcX0_88) dX0_isPrefix_27 ?_
    refine lv_lxor hx hb dX0_isPrefix_30 ?_
    refine lv_land hx hb dX0_isPrefix_31 ?_
    refine lv_lconst (v := 0) hx hb dX0_isPrefix_32 (by decide) ?_
    refine W.lcmp hx hb dX0_isPrefix_33 ?_
    refine lv_if_ne (tgt := 59) hx hb dX0_isPrefix_34 (by decide) (fun c_3 => ?_) (fun c_3 => ?_)
    · rw [lg_cmp_eq] at c_3
      refine lv_iconst (v := 0) hx hb dX0_isPrefix_59 (by decide) ?_
      exact ru_zret hx hb hr hlocks (by (try subst ey_2); simp [-Int64.xor_neg_one, kb_pre, b2i, c_1, c_3]) rfl dX0_isPrefix_60
    · rw [lg_cmp_eq] at c_3
      refine lv_aload_n hx hb dX0_isPrefix_37 rfl (lv_at hl 1 rfl) ?_
      refine va_get (D := (dC, dI)) (ci := 0) (v := .long ml) (C := RX0) (T := TX0) (N := 9) hx hb htl inX0 hown hK hP 0 rfl rfl 8 (by decide) (htl _ flX0_37) (fun _ h9 => h9) rfl dX0_isPrefix_38 ?_
      refine lv_iload_n hx hb dX0_isPrefix_41 rfl (lv_at hl 0 rfl) ?_
      refine ru_calll (va_runS (As := [.int y_2]) (rest := [.long ml]) ⟨hx, hb, hml, hown, htl⟩ (c_X0_lowerMask l dC dI y_2 _) (cwS 1 htl gX0_90 rfl rfl rfl hd_X0_lowerMask ⟨Nat.le_of_ble_eq_true rfl, Nat.le_of_ble_eq_true rfl⟩) ⟨fb_ro, fun U hU hW => ⟨rfl, hU, va_K.moved hW.alike hK⟩⟩ rfl rfl hl.1 rfl (lv_room (Nat.le_of_ble_eq_true rfl)) dX0_isPrefix_42 ⟨Nat.le_of_ble_eq_true rfl, Nat.le_of_ble_eq_true rfl⟩) ?_
      refine lv_ldc2 (v := (-1)) hx hb hown (htl _ kcX0_88) dX0_isPrefix_45 ?_
      refine lv_lxor hx hb dX0_isPrefix_48 ?_
      refine lv_land hx hb dX0_isPrefix_49 ?_
      refine lv_lconst (v := 0) hx hb dX0_isPrefix_50 (by decide) ?_
      refine W.lcmp hx hb dX0_isPrefix_51 ?_
      refine lv_if_ne (tgt := 59) hx hb dX0_isPrefix_52 (by decide) (fun c_4 => ?_) (fun c_4 => ?_)
      · rw [lg_cmp_eq] at c_4
        refine lv_iconst (v := 0) hx hb dX0_isPrefix_59 (by decide) ?_
        exact ru_zret hx hb hr hlocks (by (try subst ey_2); simp [-Int64.xor_neg_one, kb_pre, b2i, c_1, c_3, c_4]) rfl dX0_isPrefix_60
      · rw [lg_cmp_eq] at c_4
        refine lv_iconst (v := 1) hx hb dX0_isPrefix_55 (by decide) ?_
        refine lv_goto (tgt := 60) hx hb dX0_isPrefix_56 (by decide) ?_
        exact ru_zret hx hb hr hlocks (by (try subst ey_2); simp [-Int64.xor_neg_one, kb_pre, b2i, c_1, c_3, c_4]) rfl dX0_isPrefix_60
  · rw [b2i_0] at c_1
    refine lv_iconst (v := 0) hx hb dX0_isPrefix_8 (by decide) ?_
    exact ru_zret hx hb hr hlocks (by (try subst ey_2); simp [-Int64.xor_neg_one, kb_pre, b2i, c_1]) rfl dX0_isPrefix_9
set_option maxHeartbeats 4000000 in
set_option maxRecDepth 100000 in
theorem c_X0_coversMeant (l : Launch) (dC : Nat → ClassId) (dI : Nat → Nat → Nat) {x a1 a2 a3 a4 a5 : Nat} {k1 k2 k3 k4 k5 : ClassId} {f : Nat → Int32} {u w : Nat → Int64} {g n : Nat → Int32} {k : Nat} {mf : Int32} {mu ml : Int64} (j : Nat) (Hh : Heap) (hj : j < 1000) (hP : va_P (dC, dI) classes (pbw x a1 a2 a3 a4 a5 k1 k2 k3 k4 k5 f u w g n k mf mu ml) Hh) : Met l yX0_coversMeant (ww yX0_coversMeant cX0_coversMeant 3 (some .boolean)) ({ frames := 2, cells := 0, slots := 0, locals := 40 } : Room) (va_Pc [.ref x, .int (nI j)] (fun U => U.heap = Hh ∧ va_K (dC, dI) classes (pbt k1 k2 k3 k4 k5) U)) (va_Qi (fun r (_ : Unit) => r = (b2i (kb_cov f u w g mf mu ml j))) (fun _ t => t.heap = Hh) (fun _ => False)) 0 0 (fun _ => False) := by
  refine Met.ofW (cc := cX0_coversMeant) (maxL := 3) (ret := (some .boolean)) (by decide) rfl ?_
  intro p e s m args below meth c s₁ B hml hv
  obtain ⟨rfl, hHh, hK⟩ := hv
  subst hHh
  have hx := B.exec
  have hb := B.bytes
  have hr := B.returns
  have hts := atoms_spec (ws := ww yX0_coversMeant cX0_coversMeant 3 (some .boolean)) B.pre
  have htl : ∀ w ∈ ltg, w.before [.ref x, .int (nI j)].toArray s = true := fun w h => hts w (List.mem_cons_of_mem _ h)
  have hown : s.vm.findClass RX0 = some m.cls := findClass_of_methodNamed B.named
  have hlocks := B.notSynchronized
  have hl := lv_entry ([.ref x, .int (nI j)]) (n := 3) (Nat.le_of_ble_eq_true rfl)
  rw [lg_entry_eq]
  generalize (lg_sl ([.ref x, .int (nI j)]) ++ List.replicate (3 - (lg_sl ([.ref x, .int (nI j)])).length) Slot.unset).toArray = ls at hl ⊢
  have hl : lv_has ls 3 [(0, .ref x), (1, .int (nI j))] := hl
  refine lv_aload_n hx hb dX0_coversMeant_0 rfl (lv_at hl 0 rfl) ?_
  refine va_get (D := (dC, dI)) (ci := 0) (v := .ref a1) (C := RX0) (T := TX0) (N := 9) hx hb htl inX0 hown hK hP 0 rfl rfl 0 (by decide) (htl _ flX0_9) (fun _ h9 => h9) rfl dX0_coversMeant_1 ?_
  refine lv_iload_n hx hb dX0_coversMeant_4 rfl (lv_at hl 1 rfl) ?_
  refine ld_i hx hb hK hP 1 0 rfl rfl (j := j) (by omega) (Nat.le_of_ble_eq_true rfl) dX0_coversMeant_5 ?_
  refine lv_aload_n hx hb dX0_coversMeant_6 rfl (lv_at hl 0 rfl) ?_
  refine va_get (D := (dC, dI)) (ci := 0) (v := .int mf) (C := RX0) (T := TX0) (N := 9) hx hb htl inX0 hown hK hP 0 rfl rfl 6 (by decide) (htl _ flX0_30) (fun _ h9 => h9) rfl dX0_coversMeant_7 ?_
  refine lv_icmp_eq (tgt := 15) hx hb dX0_coversMeant_10 (by decide) (fun c_1 => ?_) (fun c_1 => ?_)
  · refine lv_aload_n hx hb dX0_coversMeant_15 rfl (lv_at hl 0 rfl) ?_
    refine va_get (D := (dC, dI)) (ci := 0) (v := .int mf) (C := RX0) (T := TX0) (N := 9) hx hb htl inX0 hown hK hP 0 rfl rfl 6 (by decide) (htl _ flX0_30) (fun _ h9 => h9) rfl dX0_coversMeant_16 ?_
    refine lv_aload_n hx hb dX0_coversMeant_19 rfl (lv_at hl 0 rfl) ?_
    refine va_get (D := (dC, dI)) (ci := 0) (v := .ref a4) (C := RX0) (T := TX0) (N := 9) hx hb htl inX0 hown hK hP 0 rfl rfl 3 (by decide) (htl _ flX0_20) (fun _ h9 => h9) rfl dX0_coversMeant_20 ?_
    refine lv_iload_n hx hb dX0_coversMeant_23 rfl (lv_at hl 1 rfl) ?_
    refine ld_i hx hb hK hP 4 3 rfl rfl (j := j) (by omega) (Nat.le_of_ble_eq_true rfl) dX0_coversMeant_24 ?_
    refine ru_calli (va_runS (As := [.int mf, .int (g j)]) (rest := []) ⟨hx, hb, hml, hown, htl⟩ (c_X0_bitsOfWhole l dC dI mf (g j) _) (cwS 2 htl gX0_80 rfl rfl rfl hd_X0_bitsOfWhole ⟨Nat.le_of_ble_eq_true rfl, Nat.le_of_ble_eq_true rfl⟩) ⟨fb_ro, fun U hU hW => ⟨rfl, hU, va_K.moved hW.alike hK⟩⟩ rfl rfl hl.1 rfl (lv_room (Nat.le_of_ble_eq_true rfl)) dX0_coversMeant_25 ⟨Nat.le_of_ble_eq_true rfl, Nat.le_of_ble_eq_true rfl⟩) ?_
    refine lv_topi (fun y_2 ey_2 => ?_)
    refine lv_istore_n (lv' := [(2, .int y_2), (0, .ref x), (1, .int (nI j))]) hx hb dX0_coversMeant_28 rfl hl (by decide) rfl (fun ls hl => ?_)
    refine lv_aload_n hx hb dX0_coversMeant_29 rfl (lv_at hl 1 rfl) ?_
    refine va_get (D := (dC, dI)) (ci := 0) (v := .ref a2) (C := RX0) (T := TX0) (N := 9) hx hb htl inX0 hown hK hP 0 rfl rfl 1 (by decide) (htl _ flX0_13) (fun _ h9 => h9) rfl dX0_coversMeant_30 ?_
    refine lv_iload_n hx hb dX0_coversMeant_33 rfl (lv_at hl 2 rfl) ?_
    refine ld_l hx hb hK hP 2 1 rfl rfl (j := j) (by omega) (Nat.le_of_ble_eq_true rfl) dX0_coversMeant_34 ?_
    refine lv_aload_n hx hb dX0_coversMeant_35 rfl (lv_at hl 1 rfl) ?_
    refine va_get (D := (dC, dI)) (ci := 0) (v := .long mu) (C := RX0) (T := TX0) (N := 9) hx hb htl inX0 hown hK hP 0 rfl rfl 7 (by decide) (htl _ flX0_33) (fun _ h9 => h9) rfl dX0_coversMeant_36 ?_
    refine lv_lxor hx hb dX0_coversMeant_39 ?_
    refine lv_iload_n hx hb dX0_coversMeant_40 rfl (lv_at hl 0 rfl) ?_
    refine ru_calll (va_runS (As := [.int y_2]) (rest := [.long ((u j) ^^^ mu)]) ⟨hx, hb, hml, hown, htl⟩ (c_X0_upperMask l dC dI y_2 _) (cwS 1 htl gX0_84 rfl rfl rfl hd_X0_upperMask ⟨Nat.le_of_ble_eq_true rfl, Nat.le_of_ble_eq_true rfl⟩) ⟨fb_ro, fun U hU hW => ⟨rfl, hU, va_K.moved hW.alike hK⟩⟩ rfl rfl hl.1 rfl (lv_room (Nat.le_of_ble_eq_true rfl)) dX0_coversMeant_41 ⟨Nat.le_of_ble_eq_true rfl, Nat.le_of_ble_eq_true rfl⟩) ?_
    refine lv_land hx hb dX0_coversMeant_44 ?_
    refine lv_lconst (v := 0) hx hb dX0_coversMeant_45 (by decide) ?_
    refine W.lcmp hx hb dX0_coversMeant_46 ?_
    refine lv_if_ne (tgt := 75) hx hb dX0_coversMeant_47 (by decide) (fun c_3 => ?_) (fun c_3 => ?_)
    · rw [lg_cmp_eq] at c_3
      refine lv_iconst (v := 0) hx hb dX0_coversMeant_75 (by decide) ?_
      exact ru_zret hx hb hr hlocks (by (try subst ey_2); simp [kb_cov, b2i, c_1, c_3]) rfl dX0_coversMeant_76
    · rw [lg_cmp_eq] at c_3
      refine lv_aload_n hx hb dX0_coversMeant_50 rfl (lv_at hl 1 rfl) ?_
      refine va_get (D := (dC, dI)) (ci := 0) (v := .ref a3) (C := RX0) (T := TX0) (N := 9) hx hb htl inX0 hown hK hP 0 rfl rfl 2 (by decide) (htl _ flX0_17) (fun _ h9 => h9) rfl dX0_coversMeant_51 ?_
      refine lv_iload_n hx hb dX0_coversMeant_54 rfl (lv_at hl 2 rfl) ?_
      refine ld_l hx hb hK hP 3 2 rfl rfl (j := j) (by omega) (Nat.le_of_ble_eq_true rfl) dX0_coversMeant_55 ?_
      refine lv_aload_n hx hb dX0_coversMeant_56 rfl (lv_at hl 1 rfl) ?_
      refine va_get (D := (dC, dI)) (ci := 0) (v := .long ml) (C := RX0) (T := TX0) (N := 9) hx hb htl inX0 hown hK hP 0 rfl rfl 8 (by decide) (htl _ flX0_37) (fun _ h9 => h9) rfl dX0_coversMeant_57 ?_
      refine lv_lxor hx hb dX0_coversMeant_60 ?_
      refine lv_iload_n hx hb dX0_coversMeant_61 rfl (lv_at hl 0 rfl) ?_
      refine ru_calll (va_runS (As := [.int y_2]) (rest := [.long ((w j) ^^^ ml)]) ⟨hx, hb, hml, hown, htl⟩ (c_X0_lowerMask l dC dI y_2 _) (cwS 1 htl gX0_90 rfl rfl rfl hd_X0_lowerMask ⟨Nat.le_of_ble_eq_true rfl, Nat.le_of_ble_eq_true rfl⟩) ⟨fb_ro, fun U hU hW => ⟨rfl, hU, va_K.moved hW.alike hK⟩⟩ rfl rfl hl.1 rfl (lv_room (Nat.le_of_ble_eq_true rfl)) dX0_coversMeant_62 ⟨Nat.le_of_ble_eq_true rfl, Nat.le_of_ble_eq_true rfl⟩) ?_
      refine lv_land hx hb dX0_coversMeant_65 ?_
      refine lv_lconst (v := 0) hx hb dX0_coversMeant_66 (by decide) ?_
      refine W.lcmp hx hb dX0_coversMeant_67 ?_
      refine lv_if_ne (tgt := 75) hx hb dX0_coversMeant_68 (by decide) (fun c_4 => ?_) (fun c_4 => ?_)
      · rw [lg_cmp_eq] at c_4
        refine lv_iconst (v := 0) hx hb dX0_coversMeant_75 (by decide) ?_
        exact ru_zret hx hb hr hlocks (by (try subst ey_2); simp [kb_cov, b2i, c_1, c_3, c_4]) rfl dX0_coversMeant_76
      · rw [lg_cmp_eq] at c_4
        refine lv_iconst (v := 1) hx hb dX0_coversMeant_71 (by decide) ?_
        refine lv_goto (tgt := 76) hx hb dX0_coversMeant_72 (by decide) ?_
        exact ru_zret hx hb hr hlocks (by (try subst ey_2); simp [kb_cov, b2i, c_1, c_3, c_4]) rfl dX0_coversMeant_76
  · refine lv_iconst (v := 0) hx hb dX0_coversMeant_13 (by decide) ?_
    exact ru_zret hx hb hr hlocks (by (try subst ey_2); simp [kb_cov, b2i, c_1]) rfl dX0_coversMeant_14
set_option maxHeartbeats 4000000 in
set_option maxRecDepth 100000 in
theorem c_X0_standsAhead (l : Launch) (dC : Nat → ClassId) (dI : Nat → Nat → Nat) {x a1 a2 a3 a4 a5 : Nat} {k1 k2 k3 k4 k5 : ClassId} {f : Nat → Int32} {u w : Nat → Int64} {g n : Nat → Int32} {k : Nat} {mf : Int32} {mu ml : Int64} (j : Nat) (le : Int32) (Hh : Heap) (hj : j < 1000) (hP : va_P (dC, dI) classes (pbw x a1 a2 a3 a4 a5 k1 k2 k3 k4 k5 f u w g n k mf mu ml) Hh) : Met l yX0_standsAhead (ww yX0_standsAhead cX0_standsAhead 3 (some .boolean)) ({ frames := 1, cells := 0, slots := 0, locals := 23 } : Room) (va_Pc [.ref x, .int (nI j), .int le] (fun U => U.heap = Hh ∧ va_K (dC, dI) classes (pbt k1 k2 k3 k4 k5) U)) (va_Qi (fun r (_ : Unit) => r = (b2i (kb_ah f u w g mf mu ml le j))) (fun _ t => t.heap = Hh) (fun _ => False)) 0 0 (fun _ => False) := by
  refine Met.ofW (cc := cX0_standsAhead) (maxL := 3) (ret := (some .boolean)) (by decide) rfl ?_
  intro p e s m args below meth c s₁ B hml hv
  obtain ⟨rfl, hHh, hK⟩ := hv
  subst hHh
  have hx := B.exec
  have hb := B.bytes
  have hr := B.returns
  have hts := atoms_spec (ws := ww yX0_standsAhead cX0_standsAhead 3 (some .boolean)) B.pre
  have htl : ∀ w ∈ ltg, w.before [.ref x, .int (nI j), .int le].toArray s = true := fun w h => hts w (List.mem_cons_of_mem _ h)
  have hown : s.vm.findClass RX0 = some m.cls := findClass_of_methodNamed B.named
  have hlocks := B.notSynchronized
  have hl := lv_entry ([.ref x, .int (nI j), .int le]) (n := 3) (Nat.le_of_ble_eq_true rfl)
  rw [lg_entry_eq]
  generalize (lg_sl ([.ref x, .int (nI j), .int le]) ++ List.replicate (3 - (lg_sl ([.ref x, .int (nI j), .int le])).length) Slot.unset).toArray = ls at hl ⊢
  have hl : lv_has ls 3 [(0, .ref x), (1, .int (nI j)), (2, .int le)] := hl
  refine lv_aload_n hx hb dX0_standsAhead_0 rfl (lv_at hl 0 rfl) ?_
  refine va_get (D := (dC, dI)) (ci := 0) (v := .ref a1) (C := RX0) (T := TX0) (N := 9) hx hb htl inX0 hown hK hP 0 rfl rfl 0 (by decide) (htl _ flX0_9) (fun _ h9 => h9) rfl dX0_standsAhead_1 ?_
  refine lv_iload_n hx hb dX0_standsAhead_4 rfl (lv_at hl 1 rfl) ?_
  refine ld_i hx hb hK hP 1 0 rfl rfl (j := j) (by omega) (Nat.le_of_ble_eq_true rfl) dX0_standsAhead_5 ?_
  refine lv_aload_n hx hb dX0_standsAhead_6 rfl (lv_at hl 0 rfl) ?_
  refine va_get (D := (dC, dI)) (ci := 0) (v := .int mf) (C := RX0) (T := TX0) (N := 9) hx hb htl inX0 hown hK hP 0 rfl rfl 6 (by decide) (htl _ flX0_30) (fun _ h9 => h9) rfl dX0_standsAhead_7 ?_
  refine lv_icmp_eq (tgt := 32) hx hb dX0_standsAhead_10 (by decide) (fun c_1 => ?_) (fun c_1 => ?_)
  · refine lv_aload_n hx hb dX0_standsAhead_32 rfl (lv_at hl 0 rfl) ?_
    refine va_get (D := (dC, dI)) (ci := 0) (v := .ref a2) (C := RX0) (T := TX0) (N := 9) hx hb htl inX0 hown hK hP 0 rfl rfl 1 (by decide) (htl _ flX0_13) (fun _ h9 => h9) rfl dX0_standsAhead_33 ?_
    refine lv_iload_n hx hb dX0_standsAhead_36 rfl (lv_at hl 1 rfl) ?_
    refine ld_l hx hb hK hP 2 1 rfl rfl (j := j) (by omega) (Nat.le_of_ble_eq_true rfl) dX0_standsAhead_37 ?_
    refine lv_aload_n hx hb dX0_standsAhead_38 rfl (lv_at hl 0 rfl) ?_
    refine va_get (D := (dC, dI)) (ci := 0) (v := .long mu) (C := RX0) (T := TX0) (N := 9) hx hb htl inX0 hown hK hP 0 rfl rfl 7 (by decide) (htl _ flX0_33) (fun _ h9 => h9) rfl dX0_standsAhead_39 ?_
    refine W.lcmp hx hb dX0_standsAhead_42 ?_
    refine lv_if_eq (tgt := 60) hx hb dX0_standsAhead_43 (by decide) (fun c_2 => ?_) (fun c_2 => ?_)
    · rw [lg_cmp_eq] at c_2
      refine lv_aload_n hx hb dX0_standsAhead_60 rfl (lv_at hl 0 rfl) ?_
      refine va_get (D := (dC, dI)) (ci := 0) (v := .ref a3) (C := RX0) (T := TX0) (N := 9) hx hb htl inX0 hown hK hP 0 rfl rfl 2 (by decide) (htl _ flX0_17) (fun _ h9 => h9) rfl dX0_standsAhead_61 ?_
      refine lv_iload_n hx hb dX0_standsAhead_64 rfl (lv_at hl 1 rfl) ?_
      refine ld_l hx hb hK hP 3 2 rfl rfl (j := j) (by omega) (Nat.le_of_ble_eq_true rfl) dX0_standsAhead_65 ?_
      refine lv_aload_n hx hb dX0_standsAhead_66 rfl (lv_at hl 0 rfl) ?_
      refine va_get (D := (dC, dI)) (ci := 0) (v := .long ml) (C := RX0) (T := TX0) (N := 9) hx hb htl inX0 hown hK hP 0 rfl rfl 8 (by decide) (htl _ flX0_37) (fun _ h9 => h9) rfl dX0_standsAhead_67 ?_
      refine W.lcmp hx hb dX0_standsAhead_70 ?_
      refine lv_if_eq (tgt := 88) hx hb dX0_standsAhead_71 (by decide) (fun c_3 => ?_) (fun c_3 => ?_)
      · rw [lg_cmp_eq] at c_3
        refine lv_aload_n hx hb dX0_standsAhead_88 rfl (lv_at hl 0 rfl) ?_
        refine va_get (D := (dC, dI)) (ci := 0) (v := .ref a4) (C := RX0) (T := TX0) (N := 9) hx hb htl inX0 hown hK hP 0 rfl rfl 3 (by decide) (htl _ flX0_20) (fun _ h9 => h9) rfl dX0_standsAhead_89 ?_
        refine lv_iload_n hx hb dX0_standsAhead_92 rfl (lv_at hl 1 rfl) ?_
        refine ld_i hx hb hK hP 4 3 rfl rfl (j := j) (by omega) (Nat.le_of_ble_eq_true rfl) dX0_standsAhead_93 ?_
        refine lv_iload_n hx hb dX0_standsAhead_94 rfl (lv_at hl 2 rfl) ?_
        refine lv_icmp_ge (tgt := 102) hx hb dX0_standsAhead_95 (by decide) (fun c_4 => ?_) (fun c_4 => ?_)
        · refine lv_iconst (v := 0) hx hb dX0_standsAhead_102 (by decide) ?_
          exact ru_zret hx hb hr hlocks (by simp [kb_ah, b2i, c_1, c_2, c_3, c_4]) rfl dX0_standsAhead_103
        · refine lv_iconst (v := 1) hx hb dX0_standsAhead_98 (by decide) ?_
          refine lv_goto (tgt := 103) hx hb dX0_standsAhead_99 (by decide) ?_
          exact ru_zret hx hb hr hlocks (by simp [kb_ah, b2i, c_1, c_2, c_3, c_4]) rfl dX0_standsAhead_103
      · rw [lg_cmp_eq] at c_3
        refine lv_aload_n hx hb dX0_standsAhead_74 rfl (lv_at hl 0 rfl) ?_
        refine va_get (D := (dC, dI)) (ci := 0) (v := .ref a3) (C := RX0) (T := TX0) (N := 9) hx hb htl inX0 hown hK hP 0 rfl rfl 2 (by decide) (htl _ flX0_17) (fun _ h9 => h9) rfl dX0_standsAhead_75 ?_
        refine lv_iload_n hx hb dX0_standsAhead_78 rfl (lv_at hl 1 rfl) ?_
        refine ld_l hx hb hK hP 3 2 rfl rfl (j := j) (by omega) (Nat.le_of_ble_eq_true rfl) dX0_standsAhead_79 ?_
        refine lv_aload_n hx hb dX0_standsAhead_80 rfl (lv_at hl 0 rfl) ?_
        refine va_get (D := (dC, dI)) (ci := 0) (v := .long ml) (C := RX0) (T := TX0) (N := 9) hx hb htl inX0 hown hK hP 0 rfl rfl 8 (by decide) (htl _ flX0_37) (fun _ h9 => h9) rfl dX0_standsAhead_81 ?_
        refine ru_calli (va_runS (As := [.long (w j), .long ml]) (rest := []) ⟨hx, hb, hml, hown, htl⟩ (c_X0_isBelow l dC dI (w j) ml _) (cwS 2 htl gX0_99 rfl rfl rfl hd_X0_isBelow ⟨Nat.le_of_ble_eq_true rfl, Nat.le_of_ble_eq_true rfl⟩) ⟨fb_ro, fun U hU hW => ⟨rfl, hU, va_K.moved hW.alike hK⟩⟩ rfl rfl hl.1 rfl (lv_room (Nat.le_of_ble_eq_true rfl)) dX0_standsAhead_84 ⟨Nat.le_of_ble_eq_true rfl, Nat.le_of_ble_eq_true rfl⟩) ?_
        exact ru_zret hx hb hr hlocks (by simp [kb_ah, b2i, c_1, c_2, c_3]) b2i_n dX0_standsAhead_87
    · rw [lg_cmp_eq] at c_2
      refine lv_aload_n hx hb dX0_standsAhead_46 rfl (lv_at hl 0 rfl) ?_
      refine va_get (D := (dC, dI)) (ci := 0) (v := .ref a2) (C := RX0) (T := TX0) (N := 9) hx hb htl inX0 hown hK hP 0 rfl rfl 1 (by decide) (htl _ flX0_13) (fun _ h9 => h9) rfl dX0_standsAhead_47 ?_
      refine lv_iload_n hx hb dX0_standsAhead_50 rfl (lv_at hl 1 rfl) ?_
      refine ld_l hx hb hK hP 2 1 rfl rfl (j := j) (by omega) (Nat.le_of_ble_eq_true rfl) dX0_standsAhead_51 ?_
      refine lv_aload_n hx hb dX0_standsAhead_52 rfl (lv_at hl 0 rfl) ?_
      refine va_get (D := (dC, dI)) (ci := 0) (v := .long mu) (C := RX0) (T := TX0) (N := 9) hx hb htl inX0 hown hK hP 0 rfl rfl 7 (by decide) (htl _ flX0_33) (fun _ h9 => h9) rfl dX0_standsAhead_53 ?_
      refine ru_calli (va_runS (As := [.long (u j), .long mu]) (rest := []) ⟨hx, hb, hml, hown, htl⟩ (c_X0_isBelow l dC dI (u j) mu _) (cwS 2 htl gX0_99 rfl rfl rfl hd_X0_isBelow ⟨Nat.le_of_ble_eq_true rfl, Nat.le_of_ble_eq_true rfl⟩) ⟨fb_ro, fun U hU hW => ⟨rfl, hU, va_K.moved hW.alike hK⟩⟩ rfl rfl hl.1 rfl (lv_room (Nat.le_of_ble_eq_true rfl)) dX0_standsAhead_56 ⟨Nat.le_of_ble_eq_true rfl, Nat.le_of_ble_eq_true rfl⟩) ?_
      exact ru_zret hx hb hr hlocks (by simp [kb_ah, b2i, c_1, c_2]) b2i_n dX0_standsAhead_59
  · refine lv_aload_n hx hb dX0_standsAhead_13 rfl (lv_at hl 0 rfl) ?_
    refine va_get (D := (dC, dI)) (ci := 0) (v := .ref a1) (C := RX0) (T := TX0) (N := 9) hx hb htl inX0 hown hK hP 0 rfl rfl 0 (by decide) (htl _ flX0_9) (fun _ h9 => h9) rfl dX0_standsAhead_14 ?_
    refine lv_iload_n hx hb dX0_standsAhead_17 rfl (lv_at hl 1 rfl) ?_
    refine ld_i hx hb hK hP 1 0 rfl rfl (j := j) (by omega) (Nat.le_of_ble_eq_true rfl) dX0_standsAhead_18 ?_
    refine lv_aload_n hx hb dX0_standsAhead_19 rfl (lv_at hl 0 rfl) ?_
    refine va_get (D := (dC, dI)) (ci := 0) (v := .int mf) (C := RX0) (T := TX0) (N := 9) hx hb htl inX0 hown hK hP 0 rfl rfl 6 (by decide) (htl _ flX0_30) (fun _ h9 => h9) rfl dX0_standsAhead_20 ?_
    refine lv_icmp_ge (tgt := 30) hx hb dX0_standsAhead_23 (by decide) (fun c_5 => ?_) (fun c_5 => ?_)
    · refine lv_iconst (v := 0) hx hb dX0_standsAhead_30 (by decide) ?_
      exact ru_zret hx hb hr hlocks (by simp [kb_ah, b2i, c_1, c_5]) rfl dX0_standsAhead_31
    · refine lv_iconst (v := 1) hx hb dX0_standsAhead_26 (by decide) ?_
      refine lv_goto (tgt := 31) hx hb dX0_standsAhead_27 (by decide) ?_
      exact ru_zret hx hb hr hlocks (by simp [kb_ah, b2i, c_1, c_5]) rfl dX0_standsAhead_31
set_option maxHeartbeats 4000000 in
set_option maxRecDepth 100000 in
theorem c_X0_standsAt (l : Launch) (dC : Nat → ClassId) (dI : Nat → Nat → Nat) {x a1 a2 a3 a4 a5 : Nat} {k1 k2 k3 k4 k5 : ClassId} {f : Nat → Int32} {u w : Nat → Int64} {g n : Nat → Int32} {k : Nat} {mf : Int32} {mu ml : Int64} (j : Nat) (le : Int32) (Hh : Heap) (hk : k ≤ 1000) (hj : j ≤ 1000) (hP : va_P (dC, dI) classes (pbw x a1 a2 a3 a4 a5 k1 k2 k3 k4 k5 f u w g n k mf mu ml) Hh) : Met l yX0_standsAt (ww yX0_standsAt cX0_standsAt 3 (some .boolean)) ({ frames := 0, cells := 0, slots := 0, locals := 0 } : Room) (va_Pc [.ref x, .int (nI j), .int le] (fun U => U.heap = Hh ∧ va_K (dC, dI) classes (pbt k1 k2 k3 k4 k5) U)) (va_Qi (fun r (_ : Unit) => r = (b2i (kb_st f u w g mf mu ml le k j))) (fun _ t => t.heap = Hh) (fun _ => False)) 0 0 (fun _ => False) := by
  refine Met.ofW (cc := cX0_standsAt) (maxL := 3) (ret := (some .boolean)) (by decide) rfl ?_
  intro p e s m args below meth c s₁ B hml hv
  obtain ⟨rfl, hHh, hK⟩ := hv
  subst hHh
  have hx := B.exec
  have hb := B.bytes
  have hr := B.returns
  have hts := atoms_spec (ws := ww yX0_standsAt cX0_standsAt 3 (some .boolean)) B.pre
  have htl : ∀ w ∈ ltg, w.before [.ref x, .int (nI j), .int le].toArray s = true := fun w h => hts w (List.mem_cons_of_mem _ h)
  have hown : s.vm.findClass RX0 = some m.cls := findClass_of_methodNamed B.named
  have hlocks := B.notSynchronized
  have hl := lv_entry ([.ref x, .int (nI j), .int le]) (n := 3) (Nat.le_of_ble_eq_true rfl)
  rw [lg_entry_eq]
  generalize (lg_sl ([.ref x, .int (nI j), .int le]) ++ List.replicate (3 - (lg_sl ([.ref x, .int (nI j), .int le])).length) Slot.unset).toArray = ls at hl ⊢
  have hl : lv_has ls 3 [(0, .ref x), (1, .int (nI j)), (2, .int le)] := hl
  refine lv_iload_n hx hb dX0_standsAt_0 rfl (lv_at hl 1 rfl) ?_
  refine lv_if_lt (tgt := 67) hx hb dX0_standsAt_1 (by decide) (fun c_1 => ?_) (fun c_1 => ?_)
  · exact absurd c_1 (nI_pos (by omega))
  · refine lv_iload_n hx hb dX0_standsAt_4 rfl (lv_at hl 1 rfl) ?_
    refine lv_aload_n hx hb dX0_standsAt_5 rfl (lv_at hl 0 rfl) ?_
    refine va_get (D := (dC, dI)) (ci := 0) (v := .int (nI k)) (C := RX0) (T := TX0) (N := 9) hx hb htl inX0 hown hK hP 0 rfl rfl 5 (by decide) (htl _ flX0_26) (fun _ h9 => h9) rfl dX0_standsAt_6 ?_
    refine lv_icmp_ge (tgt := 67) hx hb dX0_standsAt_9 (by decide) (fun c_2 => ?_) (fun c_2 => ?_)
    · rw [nI_leI (by omega) (by omega)] at c_2
      refine lv_iconst (v := 0) hx hb dX0_standsAt_67 (by decide) ?_
      exact ru_zret hx hb hr hlocks (by simp [kb_st, b2i, c_1, c_2]) rfl dX0_standsAt_68
    · rw [nI_leI (by omega) (by omega)] at c_2
      refine lv_aload_n hx hb dX0_standsAt_12 rfl (lv_at hl 0 rfl) ?_
      refine va_get (D := (dC, dI)) (ci := 0) (v := .ref a1) (C := RX0) (T := TX0) (N := 9) hx hb htl inX0 hown hK hP 0 rfl rfl 0 (by decide) (htl _ flX0_9) (fun _ h9 => h9) rfl dX0_standsAt_13 ?_
      refine lv_iload_n hx hb dX0_standsAt_16 rfl (lv_at hl 1 rfl) ?_
      refine ld_i hx hb hK hP 1 0 rfl rfl (j := j) (by omega) (Nat.le_of_ble_eq_true rfl) dX0_standsAt_17 ?_
      refine lv_aload_n hx hb dX0_standsAt_18 rfl (lv_at hl 0 rfl) ?_
      refine va_get (D := (dC, dI)) (ci := 0) (v := .int mf) (C := RX0) (T := TX0) (N := 9) hx hb htl inX0 hown hK hP 0 rfl rfl 6 (by decide) (htl _ flX0_30) (fun _ h9 => h9) rfl dX0_standsAt_19 ?_
      refine lv_icmp_ne (tgt := 67) hx hb dX0_standsAt_22 (by decide) (fun c_3 => ?_) (fun c_3 => ?_)
      · refine lv_iconst (v := 0) hx hb dX0_standsAt_67 (by decide) ?_
        exact ru_zret hx hb hr hlocks (by simp [kb_st, b2i, c_1, c_2, c_3]) rfl dX0_standsAt_68
      · refine lv_aload_n hx hb dX0_standsAt_25 rfl (lv_at hl 0 rfl) ?_
        refine va_get (D := (dC, dI)) (ci := 0) (v := .ref a2) (C := RX0) (T := TX0) (N := 9) hx hb htl inX0 hown hK hP 0 rfl rfl 1 (by decide) (htl _ flX0_13) (fun _ h9 => h9) rfl dX0_standsAt_26 ?_
        refine lv_iload_n hx hb dX0_standsAt_29 rfl (lv_at hl 1 rfl) ?_
        refine ld_l hx hb hK hP 2 1 rfl rfl (j := j) (by omega) (Nat.le_of_ble_eq_true rfl) dX0_standsAt_30 ?_
        refine lv_aload_n hx hb dX0_standsAt_31 rfl (lv_at hl 0 rfl) ?_
        refine va_get (D := (dC, dI)) (ci := 0) (v := .long mu) (C := RX0) (T := TX0) (N := 9) hx hb htl inX0 hown hK hP 0 rfl rfl 7 (by decide) (htl _ flX0_33) (fun _ h9 => h9) rfl dX0_standsAt_32 ?_
        refine W.lcmp hx hb dX0_standsAt_35 ?_
        refine lv_if_ne (tgt := 67) hx hb dX0_standsAt_36 (by decide) (fun c_4 => ?_) (fun c_4 => ?_)
        · rw [lg_cmp_eq] at c_4
          refine lv_iconst (v := 0) hx hb dX0_standsAt_67 (by decide) ?_
          exact ru_zret hx hb hr hlocks (by simp [kb_st, b2i, c_1, c_2, c_3, c_4]) rfl dX0_standsAt_68
        · rw [lg_cmp_eq] at c_4
          refine lv_aload_n hx hb dX0_standsAt_39 rfl (lv_at hl 0 rfl) ?_
          refine va_get (D := (dC, dI)) (ci := 0) (v := .ref a3) (C := RX0) (T := TX0) (N := 9) hx hb htl inX0 hown hK hP 0 rfl rfl 2 (by decide) (htl _ flX0_17) (fun _ h9 => h9) rfl dX0_standsAt_40 ?_
          refine lv_iload_n hx hb dX0_standsAt_43 rfl (lv_at hl 1 rfl) ?_
          refine ld_l hx hb hK hP 3 2 rfl rfl (j := j) (by omega) (Nat.le_of_ble_eq_true rfl) dX0_standsAt_44 ?_
          refine lv_aload_n hx hb dX0_standsAt_45 rfl (lv_at hl 0 rfl) ?_
          refine va_get (D := (dC, dI)) (ci := 0) (v := .long ml) (C := RX0) (T := TX0) (N := 9) hx hb htl inX0 hown hK hP 0 rfl rfl 8 (by decide) (htl _ flX0_37) (fun _ h9 => h9) rfl dX0_standsAt_46 ?_
          refine W.lcmp hx hb dX0_standsAt_49 ?_
          refine lv_if_ne (tgt := 67) hx hb dX0_standsAt_50 (by decide) (fun c_5 => ?_) (fun c_5 => ?_)
          · rw [lg_cmp_eq] at c_5
            refine lv_iconst (v := 0) hx hb dX0_standsAt_67 (by decide) ?_
            exact ru_zret hx hb hr hlocks (by simp [kb_st, b2i, c_1, c_2, c_3, c_4, c_5]) rfl dX0_standsAt_68
          · rw [lg_cmp_eq] at c_5
            refine lv_aload_n hx hb dX0_standsAt_53 rfl (lv_at hl 0 rfl) ?_
            refine va_get (D := (dC, dI)) (ci := 0) (v := .ref a4) (C := RX0) (T := TX0) (N := 9) hx hb htl inX0 hown hK hP 0 rfl rfl 3 (by decide) (htl _ flX0_20) (fun _ h9 => h9) rfl dX0_standsAt_54 ?_
            refine lv_iload_n hx hb dX0_standsAt_57 rfl (lv_at hl 1 rfl) ?_
            refine ld_i hx hb hK hP 4 3 rfl rfl (j := j) (by omega) (Nat.le_of_ble_eq_true rfl) dX0_standsAt_58 ?_
            refine lv_iload_n hx hb dX0_standsAt_59 rfl (lv_at hl 2 rfl) ?_
            refine lv_icmp_ne (tgt := 67) hx hb dX0_standsAt_60 (by decide) (fun c_6 => ?_) (fun c_6 => ?_)
            · refine lv_iconst (v := 0) hx hb dX0_standsAt_67 (by decide) ?_
              exact ru_zret hx hb hr hlocks (by simp [kb_st, b2i, c_1, c_2, c_3, c_4, c_5, c_6]) rfl dX0_standsAt_68
            · refine lv_iconst (v := 1) hx hb dX0_standsAt_63 (by decide) ?_
              refine lv_goto (tgt := 68) hx hb dX0_standsAt_64 (by decide) ?_
              exact ru_zret hx hb hr hlocks (by simp [kb_st, b2i, c_1, c_2, c_3, c_4, c_5, c_6]) rfl dX0_standsAt_68
