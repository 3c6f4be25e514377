set_option maxHeartbeats 4000000 in
set_option maxRecDepth 100000 in
theorem c_X1_bit (l : Launch) (dC : Nat → ClassId) (dI : Nat → Nat → Nat)  {tys : List (ClassId × FieldType)} (fa : Int32) (up lo : Int64) (q : Int32) (Hh : Heap)  : Met l yX1_bit (ww yX1_bit cX1_bit 6 (some .int)) ({ frames := 0, cells := 0, slots := 0, locals := 0 } : Room) (va_Pc [.int fa, .long up, .long lo, .int q] (fun U => U.heap = Hh ∧ va_K (dC, dI) classes tys U)) (va_Qi (fun r (_ : Unit) => r = (md_bit fa up lo q)) (fun _ t => t.heap = Hh) (fun _ => False)) 0 0 (fun _ => False) := by
  refine Met.ofW (cc := cX1_bit) (maxL := 6) (ret := (some .int)) (by decide) rfl ?_
  intro p e s m args below meth c s₁ B hml hv
  obtain ⟨rfl, hHh, hK⟩ := hv
  subst hHh
  have hx := B.exec
  have hb := B.bytes
  have hr := B.returns
  have hts := atoms_spec (ws := ww yX1_bit cX1_bit 6 (some .int)) B.pre
  have htl : ∀ w ∈ ltg, w.before [.int fa, .long up, .long lo, .int q].toArray s = true := fun w h => hts w (List.mem_cons_of_mem _ h)
  have hown : s.vm.findClass RX1 = some m.cls := findClass_of_methodNamed B.named
  have hlocks := B.notSynchronized
  have hl := lv_entry ([.int fa, .long up, .long lo, .int q]) (n := 6) (Nat.le_of_ble_eq_true rfl)
  rw [lg_entry_eq]
  generalize (lg_sl ([.int fa, .long up, .long lo, .int q]) ++ List.replicate (6 - (lg_sl ([.int fa, .long up, .long lo, .int q])).length) Slot.unset).toArray = ls at hl ⊢
  have hl : lv_has ls 6 [(0, .int fa), (1, .long up), (3, .long lo), (5, .int q)] := hl
  refine lv_iload_n hx hb dX1_bit_0 rfl (lv_at hl 0 rfl) ?_
  refine lv_iconst (v := 4) hx hb dX1_bit_1 (by decide) ?_
  refine lv_icmp_ne (tgt := 16) hx hb dX1_bit_2 (by decide) (fun c_1 => ?_) (fun c_1 => ?_)
  · refine lv_iload hx hb dX1_bit_16 (lv_at hl 3 rfl) ?_
    refine lv_bipush (v := 64) hx hb dX1_bit_18 (by decide) ?_
    refine lv_icmp_ge (tgt := 35) hx hb dX1_bit_20 (by decide) (fun c_2 => ?_) (fun c_2 => ?_)
    · refine lv_lload_n hx hb dX1_bit_35 rfl (lv_at hl 2 rfl) ?_
      refine lv_bipush (v := 127) hx hb dX1_bit_36 (by decide) ?_
      refine lv_iload hx hb dX1_bit_38 (lv_at hl 3 rfl) ?_
      refine lv_isub hx hb dX1_bit_40 ?_
      refine lv_lshr hx hb dX1_bit_41 rfl ?_
      refine lv_lconst (v := 1) hx hb dX1_bit_42 (by decide) ?_
      refine lv_land hx hb dX1_bit_43 ?_
      refine lv_l2i hx hb dX1_bit_44 rfl ?_
      exact ru_iret hx hb hr hlocks (by simp [md_bit, c_1, c_2]) dX1_bit_45
    · refine lv_lload_n hx hb dX1_bit_23 rfl (lv_at hl 1 rfl) ?_
      refine lv_bipush (v := 63) hx hb dX1_bit_24 (by decide) ?_
      refine lv_iload hx hb dX1_bit_26 (lv_at hl 3 rfl) ?_
      refine lv_isub hx hb dX1_bit_28 ?_
      refine lv_lshr hx hb dX1_bit_29 rfl ?_
      refine lv_lconst (v := 1) hx hb dX1_bit_30 (by decide) ?_
      refine lv_land hx hb dX1_bit_31 ?_
      refine lv_goto (tgt := 44) hx hb dX1_bit_32 (by decide) ?_
      refine lv_l2i hx hb dX1_bit_44 rfl ?_
      exact ru_iret hx hb hr hlocks (by simp [md_bit, c_1, c_2]) dX1_bit_45
  · refine lv_lload_n hx hb dX1_bit_5 rfl (lv_at hl 2 rfl) ?_
    refine lv_bipush (v := 31) hx hb dX1_bit_6 (by decide) ?_
    refine lv_iload hx hb dX1_bit_8 (lv_at hl 3 rfl) ?_
    refine lv_isub hx hb dX1_bit_10 ?_
    refine lv_lshr hx hb dX1_bit_11 rfl ?_
    refine lv_lconst (v := 1) hx hb dX1_bit_12 (by decide) ?_
    refine lv_land hx hb dX1_bit_13 ?_
    refine lv_l2i hx hb dX1_bit_14 rfl ?_
    exact ru_iret hx hb hr hlocks (by simp [md_bit, c_1]) dX1_bit_15
set_option maxHeartbeats 4000000 in
set_option maxRecDepth 100000 in
theorem c_X1_compare (l : Launch) (dC : Nat → ClassId) (dI : Nat → Nat → Nat)  {tys : List (ClassId × FieldType)} (y z : Int64) (Hh : Heap)  : Met l yX1_compare (ww yX1_compare cX1_compare 8 (some .int)) ({ frames := 0, cells := 0, slots := 0, locals := 0 } : Room) (va_Pc [.long y, .long z] (fun U => U.heap = Hh ∧ va_K (dC, dI) classes tys U)) (va_Qi (fun r (_ : Unit) => r = (md_cmp y z)) (fun _ t => t.heap = Hh) (fun _ => False)) 0 0 (fun _ => False) := by
  refine Met.ofW (cc := cX1_compare) (maxL := 8) (ret := (some .int)) (by decide) rfl ?_
  intro p e s m args below meth c s₁ B hml hv
  obtain ⟨rfl, hHh, hK⟩ := hv
  subst hHh
  have hx := B.exec
  have hb := B.bytes
  have hr := B.returns
  have hts := atoms_spec (ws := ww yX1_compare cX1_compare 8 (some .int)) B.pre
  have htl : ∀ w ∈ ltg, w.before [.long y, .long z].toArray s = true := fun w h => hts w (List.mem_cons_of_mem _ h)
  have hown : s.vm.findClass RX1 = some m.cls := findClass_of_methodNamed B.named
  have hlocks := B.notSynchronized
  have hl := lv_entry ([.long y, .long z]) (n := 8) (Nat.le_of_ble_eq_true rfl)
  rw [lg_entry_eq]
  generalize (lg_sl ([.long y, .long z]) ++ List.replicate (8 - (lg_sl ([.long y, .long z])).length) Slot.unset).toArray = ls at hl ⊢
  have hl : lv_has ls 8 [(0, .long y), (2, .long z)] := hl
  refine lv_lload_n hx hb dX1_compare_0 rfl (lv_at hl 0 rfl) ?_
  refine lv_ldc2 (v := (-9223372036854775808)) hx hb hown (htl _ kcX1_61) dX1_compare_1 ?_
  refine lv_lxor hx hb dX1_compare_4 ?_
  refine lv_lstore (lv' := [(4, .long (y ^^^ (-9223372036854775808))), (0, .long y), (2, .long z)]) hx hb dX1_compare_5 hl (by decide) rfl (fun ls hl => ?_)
  refine lv_lload_n hx hb dX1_compare_7 rfl (lv_at hl 2 rfl) ?_
  refine lv_ldc2 (v := (-9223372036854775808)) hx hb hown (htl _ kcX1_61) dX1_compare_8 ?_
  refine lv_lxor hx hb dX1_compare_11 ?_
  refine lv_lstore (lv' := [(6, .long (z ^^^ (-9223372036854775808))), (4, .long (y ^^^ (-9223372036854775808))), (0, .long y), (2, .long z)]) hx hb dX1_compare_12 hl (by decide) rfl (fun ls hl => ?_)
  refine lv_lload hx hb dX1_compare_14 (lv_at hl 1 rfl) ?_
  refine lv_lload hx hb dX1_compare_16 (lv_at hl 0 rfl) ?_
  refine W.lcmp hx hb dX1_compare_18 ?_
  refine lv_if_ge (tgt := 26) hx hb dX1_compare_19 (by decide) (fun c_1 => ?_) (fun c_1 => ?_)
  · rw [lg_cmp_ge] at c_1
    refine lv_lload hx hb dX1_compare_26 (lv_at hl 1 rfl) ?_
    refine lv_lload hx hb dX1_compare_28 (lv_at hl 0 rfl) ?_
    refine W.lcmp hx hb dX1_compare_30 ?_
    refine lv_if_le (tgt := 38) hx hb dX1_compare_31 (by decide) (fun c_2 => ?_) (fun c_2 => ?_)
    · rw [lg_cmp_le] at c_2
      refine lv_iconst (v := 0) hx hb dX1_compare_38 (by decide) ?_
      exact ru_iret hx hb hr hlocks (by simp [md_cmp, c_1, c_2]) dX1_compare_39
    · rw [lg_cmp_le] at c_2
      refine lv_iconst (v := 1) hx hb dX1_compare_34 (by decide) ?_
      refine lv_goto (tgt := 39) hx hb dX1_compare_35 (by decide) ?_
      exact ru_iret hx hb hr hlocks (by simp [md_cmp, c_1, c_2]) dX1_compare_39
  · rw [lg_cmp_ge] at c_1
    refine lv_iconst (v := (-1)) hx hb dX1_compare_22 (by decide) ?_
    refine lv_goto (tgt := 39) hx hb dX1_compare_23 (by decide) ?_
    exact ru_iret hx hb hr hlocks (by simp [md_cmp, c_1]) dX1_compare_39
set_option maxHeartbeats 4000000 in
set_option maxRecDepth 100000 in
theorem c_X1_isLength (l : Launch) (dC : Nat → ClassId) (dI : Nat → Nat → Nat) {x a1 a2 a3 a4 a5 : Nat} {k1 k2 k3 k4 k5 : ClassId} {f : Nat → Int32} {u w : Nat → Int64} {g n : Nat → Int32} {k : Nat} {mf : Int32} {mu ml : Int64} (le : Int32) (Hh : Heap)  (hP : va_P (dC, dI) classes (mdw x a1 a2 a3 a4 a5 k1 k2 k3 k4 k5 f u w g n k mf mu ml) Hh) : Met l yX1_isLength (ww yX1_isLength cX1_isLength 2 (some .boolean)) ({ frames := 0, cells := 0, slots := 0, locals := 0 } : Room) (va_Pc [.ref x, .int le] (fun U => U.heap = Hh ∧ va_K (dC, dI) classes (mdt k1 k2 k3 k4 k5) U)) (va_Qi (fun r (_ : Unit) => r = (b2i (kb_len mf le))) (fun _ t => t.heap = Hh) (fun _ => False)) 0 0 (fun _ => False) := by
  refine Met.ofW (cc := cX1_isLength) (maxL := 2) (ret := (some .boolean)) (by decide) rfl ?_
  intro p e s m args below meth c s₁ B hml hv
  obtain ⟨rfl, hHh, hK⟩ := hv
  subst hHh
  have hx := B.exec
  have hb := B.bytes
  have hr := B.returns
  have hts := atoms_spec (ws := ww yX1_isLength cX1_isLength 2 (some .boolean)) B.pre
  have htl : ∀ w ∈ ltg, w.before [.ref x, .int le].toArray s = true := fun w h => hts w (List.mem_cons_of_mem _ h)
  have hown : s.vm.findClass RX1 = some m.cls := findClass_of_methodNamed B.named
  have hlocks := B.notSynchronized
  have hl := lv_entry ([.ref x, .int le]) (n := 2) (Nat.le_of_ble_eq_true rfl)
  rw [lg_entry_eq]
  generalize (lg_sl ([.ref x, .int le]) ++ List.replicate (2 - (lg_sl ([.ref x, .int le])).length) Slot.unset).toArray = ls at hl ⊢
  have hl : lv_has ls 2 [(0, .ref x), (1, .int le)] := hl
  refine lv_iload_n hx hb dX1_isLength_0 rfl (lv_at hl 1 rfl) ?_
  refine lv_if_lt (tgt := 28) hx hb dX1_isLength_1 (by decide) (fun c_1 => ?_) (fun c_1 => ?_)
  · refine lv_iconst (v := 0) hx hb dX1_isLength_28 (by decide) ?_
    exact ru_zret hx hb hr hlocks (by simp [kb_len, b2i, c_1]) rfl dX1_isLength_29
  · refine lv_iload_n hx hb dX1_isLength_4 rfl (lv_at hl 1 rfl) ?_
    refine lv_aload_n hx hb dX1_isLength_5 rfl (lv_at hl 0 rfl) ?_
    refine va_get (D := (dC, dI)) (ci := 1) (v := .int mf) (C := RX1) (T := TX1) (N := 9) hx hb htl inX1 hown hK hP 0 rfl rfl 6 (by decide) (htl _ flX1_26) (fun _ h9 => h9) rfl dX1_isLength_6 ?_
    refine lv_iconst (v := 4) hx hb dX1_isLength_9 (by decide) ?_
    refine lv_icmp_ne (tgt := 18) hx hb dX1_isLength_10 (by decide) (fun c_2 => ?_) (fun c_2 => ?_)
    · refine lv_sipush (v := 128) hx hb dX1_isLength_18 (by decide) ?_
      refine lv_icmp_gt (tgt := 28) hx hb dX1_isLength_21 (by decide) (fun c_3 => ?_) (fun c_3 => ?_)
      · refine lv_iconst (v := 0) hx hb dX1_isLength_28 (by decide) ?_
        exact ru_zret hx hb hr hlocks (by simp [kb_len, b2i, c_1, c_2, c_3]) rfl dX1_isLength_29
      · refine lv_iconst (v := 1) hx hb dX1_isLength_24 (by decide) ?_
        refine lv_goto (tgt := 29) hx hb dX1_isLength_25 (by decide) ?_
        exact ru_zret hx hb hr hlocks (by simp [kb_len, b2i, c_1, c_2, c_3]) rfl dX1_isLength_29
    · refine lv_bipush (v := 32) hx hb dX1_isLength_13 (by decide) ?_
      refine lv_goto (tgt := 21) hx hb dX1_isLength_15 (by decide) ?_
      refine lv_icmp_gt (tgt := 28) hx hb dX1_isLength_21 (by decide) (fun c_4 => ?_) (fun c_4 => ?_)
      · refine lv_iconst (v := 0) hx hb dX1_isLength_28 (by decide) ?_
        exact ru_zret hx hb hr hlocks (by simp [kb_len, b2i, c_1, c_2, c_4]) rfl dX1_isLength_29
      · refine lv_iconst (v := 1) hx hb dX1_isLength_24 (by decide) ?_
        refine lv_goto (tgt := 29) hx hb dX1_isLength_25 (by decide) ?_
        exact ru_zret hx hb hr hlocks (by simp [kb_len, b2i, c_1, c_2, c_4]) rfl dX1_isLength_29
set_option maxHeartbeats 4000000 in
set_option maxRecDepth 100000 in
theorem c_X1_isPrefix (l : Launch) (dC : Nat → ClassId) (dI : Nat → Nat → Nat) {x a1 a2 a3 a4 a5 : Nat} {k1 k2 k3 k4 k5 : ClassId} {f : Nat → Int32} {u w : Nat → Int64} {g n : Nat → Int32} {k : Nat} {mf : Int32} {mu ml : Int64} (le : Int32) (Hh : Heap)  (hP : va_P (dC, dI) classes (mdw x a1 a2 a3 a4 a5 k1 k2 k3 k4 k5 f u w g n k mf mu ml) Hh) : Met l yX1_isPrefix (ww yX1_isPrefix cX1_isPrefix 5 (some .boolean)) ({ frames := 1, cells := 0, slots := 0, locals := 25 } : Room) (va_Pc [.ref x, .int le] (fun U => U.heap = Hh ∧ va_K (dC, dI) classes (mdt k1 k2 k3 k4 k5) U)) (va_Qi (fun r (_ : Unit) => r = (b2i (md_pre mf mu ml le))) (fun _ t => t.heap = Hh) (fun _ => False)) 0 0 (fun _ => False) := by
  refine Met.ofW (cc := cX1_isPrefix) (maxL := 5) (ret := (some .boolean)) (by decide) rfl ?_
  intro p e s m args below meth c s₁ B hml hv
  obtain ⟨rfl, hHh, hK⟩ := hv
  subst hHh
  have hx := B.exec
  have hb := B.bytes
  have hr := B.returns
  have hts := atoms_spec (ws := ww yX1_isPrefix cX1_isPrefix 5 (some .boolean)) B.pre
  have htl : ∀ w ∈ ltg, w.before [.ref x, .int le].toArray s = true := fun w h => hts w (List.mem_cons_of_mem _ h)
  have hown : s.vm.findClass RX1 = some m.cls := findClass_of_methodNamed B.named
  have hlocks := B.notSynchronized
  have hl := lv_entry ([.ref x, .int le]) (n := 5) (Nat.le_of_ble_eq_true rfl)
  rw [lg_entry_eq]
  generalize (lg_sl ([.ref x, .int le]) ++ List.replicate (5 - (lg_sl ([.ref x, .int le])).length) Slot.unset).toArray = ls at hl ⊢
  have hl : lv_has ls 5 [(0, .ref x), (1, .int le)] := hl
  have loop : ∀ (al : Nat), al ≤ 128 → ∀ (d i : Nat) (b : Bool), i ≤ al → al + 1 ≤ i + d → b2i (md_pre mf mu ml le) = b2i (b && md_z (fun i => decide (md_bit mf mu ml (nI i) = 0)) (al - i) i) → ∀ (ls : Array Slot), lv_has ls 5 [(0, .ref x), (1, .int le), (2, .int (b2i b)), (3, .int (nI al)), (4, .int (nI i))] → W p l e ({ frames := 1, cells := 0, slots := 0, locals := 25 } : Room) s m ([.ref x, .int le] : List Value).toArray below meth c s.heap [] 0 0 (MQ below (va_Qi (fun r (_ : Unit) => r = (b2i (md_pre mf mu ml le))) (fun _ t => t.heap = s.heap) (fun _ => False)) [.ref x, .int le].toArray s 0 0 (fun _ => False)) (F0 m 26 ls []) := by
    intro al hal d
    induction d with
    | zero => intro i b hi hd; exact absurd hd (by omega)
    | succ d ih =>
      intro i b hi hd hinv ls hl
      refine lv_iload hx hb dX1_isPrefix_26 (lv_at hl 4 rfl) ?_
      refine lv_iload_n hx hb dX1_isPrefix_28 rfl (lv_at hl 3 rfl) ?_
      refine lv_icmp_ge (tgt := 68) hx hb dX1_isPrefix_29 (by decide) (fun c_1 => ?_) (fun c_1 => ?_)
      · rw [nI_leI (by omega) (by omega)] at c_1
        refine lv_iload_n hx hb dX1_isPrefix_68 rfl (lv_at hl 2 rfl) ?_
        exact ru_zret hx hb hr hlocks (by rw [hinv, show al - i = 0 by omega]; simp [md_z]) b2i_n dX1_isPrefix_69
      · rw [nI_leI (by omega) (by omega), Nat.not_le] at c_1
        refine lv_iload_n hx hb dX1_isPrefix_32 rfl (lv_at hl 2 rfl) ?_
        refine lv_if_eq (tgt := 68) hx hb dX1_isPrefix_33 (by decide) (fun c_2 => ?_) (fun c_2 => ?_)
        · rw [b2i_0] at c_2
          refine lv_iload_n hx hb dX1_isPrefix_68 rfl (lv_at hl 2 rfl) ?_
          exact ru_zret hx hb hr hlocks (by rw [hinv, c_2]; rfl) b2i_n dX1_isPrefix_69
        · rw [b2i_0, Bool.not_eq_false] at c_2
          refine lv_aload_n hx hb dX1_isPrefix_36 rfl (lv_at hl 0 rfl) ?_
          refine va_get (D := (dC, dI)) (ci := 1) (v := .int mf) (C := RX1) (T := TX1) (N := 9) hx hb htl inX1 hown hK hP 0 rfl rfl 6 (by decide) (htl _ flX1_26) (fun _ h9 => h9) rfl dX1_isPrefix_37 ?_
          refine lv_aload_n hx hb dX1_isPrefix_40 rfl (lv_at hl 0 rfl) ?_
          refine va_get (D := (dC, dI)) (ci := 1) (v := .long mu) (C := RX1) (T := TX1) (N := 9) hx hb htl inX1 hown hK hP 0 rfl rfl 7 (by decide) (htl _ flX1_32) (fun _ h9 => h9) rfl dX1_isPrefix_41 ?_
          refine lv_aload_n hx hb dX1_isPrefix_44 rfl (lv_at hl 0 rfl) ?_
          refine va_get (D := (dC, dI)) (ci := 1) (v := .long ml) (C := RX1) (T := TX1) (N := 9) hx hb htl inX1 hown hK hP 0 rfl rfl 8 (by decide) (htl _ flX1_36) (fun _ h9 => h9) rfl dX1_isPrefix_45 ?_
          refine lv_iload hx hb dX1_isPrefix_48 (lv_at hl 4 rfl) ?_
          refine ru_calli (va_runS (As := [.int mf, .long mu, .long ml, .int (nI i)]) (rest := []) ⟨hx, hb, hml, hown, htl⟩ (c_X1_bit l dC dI mf mu ml (nI i) _) (cwS 4 htl gX1_43 rfl rfl rfl hd_X1_bit ⟨Nat.le_of_ble_eq_true rfl, Nat.le_of_ble_eq_true rfl⟩) ⟨fb_ro, fun U hU hW => ⟨rfl, hU, va_K.moved hW.alike hK⟩⟩ rfl rfl hl.1 rfl (lv_room (Nat.le_of_ble_eq_true rfl)) dX1_isPrefix_50 ⟨Nat.le_of_ble_eq_true rfl, Nat.le_of_ble_eq_true rfl⟩) ?_
          refine lv_if_ne (tgt := 60) hx hb dX1_isPrefix_53 (by decide) (fun c_3 => ?_) (fun c_3 => ?_)
          · refine lv_iconst (v := b2i false) hx hb dX1_isPrefix_60 (by decide) ?_
            refine lv_istore_n (lv' := [(2, .int (b2i false)), (0, .ref x), (1, .int le), (3, .int (nI al)), (4, .int (nI i))]) hx hb dX1_isPrefix_61 rfl hl (by decide) rfl (fun ls hl => ?_)
            refine lv_iinc (v := nI (i + 1)) (lv' := [(4, .int (nI (i + 1))), (2, .int (b2i false)), (0, .ref x), (1, .int le), (3, .int (nI al))]) hx hb dX1_isPrefix_62 hl (k := 4) rfl (by first | rfl | exact nI_1 _) (by decide) rfl (fun ls hl => ?_)
            refine lv_goto (tgt := 26) hx hb dX1_isPrefix_65 (by decide) ?_
            exact ih (i + 1) false (by omega) (by omega) (by rw [hinv, c_2, md_z_step _ al i c_1]; simp [c_3]) ls (lv_sub hl [2, 3, 1, 4, 0] rfl)
          · refine lv_iconst (v := b2i true) hx hb dX1_isPrefix_56 (by decide) ?_
            refine lv_goto (tgt := 61) hx hb dX1_isPrefix_57 (by decide) ?_
            refine lv_istore_n (lv' := [(2, .int (b2i true)), (0, .ref x), (1, .int le), (3, .int (nI al)), (4, .int (nI i))]) hx hb dX1_isPrefix_61 rfl hl (by decide) rfl (fun ls hl => ?_)
            refine lv_iinc (v := nI (i + 1)) (lv' := [(4, .int (nI (i + 1))), (2, .int (b2i true)), (0, .ref x), (1, .int le), (3, .int (nI al))]) hx hb dX1_isPrefix_62 hl (k := 4) rfl (by first | rfl | exact nI_1 _) (by decide) rfl (fun ls hl => ?_)
            refine lv_goto (tgt := 26) hx hb dX1_isPrefix_65 (by decide) ?_
            exact ih (i + 1) true (by omega) (by omega) (by rw [hinv, c_2, md_z_step _ al i c_1]; simp [c_3]) ls (lv_sub hl [2, 3, 1, 4, 0] rfl)
  refine lv_aload_n hx hb dX1_isPrefix_0 rfl (lv_at hl 0 rfl) ?_
  refine lv_iload_n hx hb dX1_isPrefix_1 rfl (lv_at hl 1 rfl) ?_
  refine ru_calli (va_runV (As := [.int le]) (rest := []) ⟨hx, hb, hml, hown, htl⟩ (c_X1_isLength l dC dI le _ hP) (cwV 1 htl gX1_39 rfl rfl rfl hd_X1_isLength ⟨Nat.le_of_ble_eq_true rfl, Nat.le_of_ble_eq_true rfl⟩) ⟨fb_ro, va_recv hK hP (ci := 1) (q0 := 0) rfl rfl, fun U hU hW => ⟨rfl, hU, va_K.moved hW.alike hK⟩⟩ rfl rfl hl.1 rfl (lv_room (Nat.le_of_ble_eq_true rfl)) dX1_isPrefix_2 ⟨Nat.le_of_ble_eq_true rfl, Nat.le_of_ble_eq_true rfl⟩) ?_
  refine lv_istore_n (lv' := [(2, .int (b2i (kb_len mf le))), (0, .ref x), (1, .int le)]) hx hb dX1_isPrefix_5 rfl hl (by decide) rfl (fun ls hl => ?_)
  cases hlen : kb_len mf le with
    | false =>
      rw [hlen] at hl
      refine lv_aload_n hx hb dX1_isPrefix_6 rfl (lv_at hl 1 rfl) ?_
      refine va_get (D := (dC, dI)) (ci := 1) (v := .int mf) (C := RX1) (T := TX1) (N := 9) hx hb htl inX1 hown hK hP 0 rfl rfl 6 (by decide) (htl _ flX1_26) (fun _ h9 => h9) rfl dX1_isPrefix_7 ?_
      refine lv_iconst (v := 4) hx hb dX1_isPrefix_10 (by decide) ?_
      refine lv_icmp_ne (tgt := 19) hx hb dX1_isPrefix_11 (by decide) (fun c_11 => ?_) (fun c_11 => ?_)
      · refine lv_sipush (v := nI 128) hx hb dX1_isPrefix_19 (by decide) ?_
        refine lv_istore_n (lv' := [(3, .int (nI 128)), (2, .int (b2i false)), (0, .ref x), (1, .int le)]) hx hb dX1_isPrefix_22 rfl hl (by decide) rfl (fun ls hl => ?_)
        refine lv_iload_n hx hb dX1_isPrefix_23 rfl (lv_at hl 3 rfl) ?_
        refine lv_istore (lv' := [(4, .int le), (3, .int (nI 128)), (2, .int (b2i false)), (0, .ref x), (1, .int le)]) hx hb dX1_isPrefix_24 hl (by decide) rfl (fun ls hl => ?_)
        refine lv_iload hx hb dX1_isPrefix_26 (lv_at hl 0 rfl) ?_
        refine lv_iload_n hx hb dX1_isPrefix_28 rfl (lv_at hl 1 rfl) ?_
        refine lv_icmp_ge (tgt := 68) hx hb dX1_isPrefix_29 (by decide) (fun c_12 => ?_) (fun c_12 => ?_)
        · refine lv_iload_n hx hb dX1_isPrefix_68 rfl (lv_at hl 2 rfl) ?_
          exact ru_zret hx hb hr hlocks (by simp [md_pre, hlen]) b2i_n dX1_isPrefix_69
        · refine lv_iload_n hx hb dX1_isPrefix_32 rfl (lv_at hl 2 rfl) ?_
          refine lv_if_eq (tgt := 68) hx hb dX1_isPrefix_33 (by decide) (fun c_13 => ?_) (fun c_13 => ?_)
          · refine lv_iload_n hx hb dX1_isPrefix_68 rfl (lv_at hl 2 rfl) ?_
            exact ru_zret hx hb hr hlocks (by simp [md_pre, hlen]) b2i_n dX1_isPrefix_69
          · exact absurd c_13 (by decide)
      · refine lv_bipush (v := nI 32) hx hb dX1_isPrefix_14 (by decide) ?_
        refine lv_goto (tgt := 22) hx hb dX1_isPrefix_16 (by decide) ?_
        refine lv_istore_n (lv' := [(3, .int (nI 32)), (2, .int (b2i false)), (0, .ref x), (1, .int le)]) hx hb dX1_isPrefix_22 rfl hl (by decide) rfl (fun ls hl => ?_)
        refine lv_iload_n hx hb dX1_isPrefix_23 rfl (lv_at hl 3 rfl) ?_
        refine lv_istore (lv' := [(4, .int le), (3, .int (nI 32)), (2, .int (b2i false)), (0, .ref x), (1, .int le)]) hx hb dX1_isPrefix_24 hl (by decide) rfl (fun ls hl => ?_)
        refine lv_iload hx hb dX1_isPrefix_26 (lv_at hl 0 rfl) ?_
        refine lv_iload_n hx hb dX1_isPrefix_28 rfl (lv_at hl 1 rfl) ?_
        refine lv_icmp_ge (tgt := 68) hx hb dX1_isPrefix_29 (by decide) (fun c_14 => ?_) (fun c_14 => ?_)
        · refine lv_iload_n hx hb dX1_isPrefix_68 rfl (lv_at hl 2 rfl) ?_
          exact ru_zret hx hb hr hlocks (by simp [md_pre, hlen]) b2i_n dX1_isPrefix_69
        · refine lv_iload_n hx hb dX1_isPrefix_32 rfl (lv_at hl 2 rfl) ?_
          refine lv_if_eq (tgt := 68) hx hb dX1_isPrefix_33 (by decide) (fun c_15 => ?_) (fun c_15 => ?_)
          · refine lv_iload_n hx hb dX1_isPrefix_68 rfl (lv_at hl 2 rfl) ?_
            exact ru_zret hx hb hr hlocks (by simp [md_pre, hlen]) b2i_n dX1_isPrefix_69
          · exact absurd c_15 (by decide)
    | true =>
      rw [hlen] at hl
      obtain ⟨hle, hlb⟩ := kb_len_nI hlen
      refine lv_aload_n hx hb dX1_isPrefix_6 rfl (lv_at hl 1 rfl) ?_
      refine va_get (D := (dC, dI)) (ci := 1) (v := .int mf) (C := RX1) (T := TX1) (N := 9) hx hb htl inX1 hown hK hP 0 rfl rfl 6 (by decide) (htl _ flX1_26) (fun _ h9 => h9) rfl dX1_isPrefix_7 ?_
      refine lv_iconst (v := 4) hx hb dX1_isPrefix_10 (by decide) ?_
      refine lv_icmp_ne (tgt := 19) hx hb dX1_isPrefix_11 (by decide) (fun c_16 => ?_) (fun c_16 => ?_)
      · refine lv_sipush (v := nI 128) hx hb dX1_isPrefix_19 (by decide) ?_
        refine lv_istore_n (lv' := [(3, .int (nI 128)), (2, .int (b2i true)), (0, .ref x), (1, .int le)]) hx hb dX1_isPrefix_22 rfl hl (by decide) rfl (fun ls hl => ?_)
        refine lv_iload_n hx hb dX1_isPrefix_23 rfl (lv_at hl 3 rfl) ?_
        refine lv_istore (lv' := [(4, .int le), (3, .int (nI 128)), (2, .int (b2i true)), (0, .ref x), (1, .int le)]) hx hb dX1_isPrefix_24 hl (by decide) rfl (fun ls hl => ?_)
        rw [if_neg c_16] at hlb
        exact loop 128 (by omega) (128 + 1) le.toNatClampNeg true hlb (by omega) (by unfold md_pre; rw [hlen, if_neg c_16]) ls (by rw [← hle]; exact lv_sub hl [3, 4, 2, 1, 0] rfl)
      · refine lv_bipush (v := nI 32) hx hb dX1_isPrefix_14 (by decide) ?_
        refine lv_goto (tgt := 22) hx hb dX1_isPrefix_16 (by decide) ?_
        refine lv_istore_n (lv' := [(3, .int (nI 32)), (2, .int (b2i true)), (0, .ref x), (1, .int le)]) hx hb dX1_isPrefix_22 rfl hl (by decide) rfl (fun ls hl => ?_)
        refine lv_iload_n hx hb dX1_isPrefix_23 rfl (lv_at hl 3 rfl) ?_
        refine lv_istore (lv' := [(4, .int le), (3, .int (nI 32)), (2, .int (b2i true)), (0, .ref x), (1, .int le)]) hx hb dX1_isPrefix_24 hl (by decide) rfl (fun ls hl => ?_)
        rw [if_pos c_16] at hlb
        exact loop 32 (by omega) (32 + 1) le.toNatClampNeg true hlb (by omega) (by unfold md_pre; rw [hlen, if_pos c_16]) ls (by rw [← hle]; exact lv_sub hl [3, 4, 2, 1, 0] rfl)
