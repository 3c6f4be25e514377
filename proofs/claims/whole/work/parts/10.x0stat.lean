/-! THE CLASS: its cells, and its methods that only read -/
abbrev pbw (x a1 a2 a3 a4 a5 : Nat) (k1 k2 k3 k4 k5 : ClassId) (f : Nat → Int32) (u w : Nat → Int64) (g n : Nat → Int32) (k : Nat) (mf : Int32) (mu ml : Int64) : va_W := [(x, .inr (0, [.ref a1, .ref a2, .ref a3, .ref a4, .ref a5, .int (nI k), .int mf, .long mu, .long ml])), (a1, .inl (k1, 1000, .inl f)), (a2, .inl (k2, 1000, .inr (.inl u))), (a3, .inl (k3, 1000, .inr (.inl w))), (a4, .inl (k4, 1000, .inl g)), (a5, .inl (k5, 1000, .inl n))]
abbrev pbt (k1 k2 k3 k4 k5 : ClassId) : List (ClassId × FieldType) := [(k1, .int), (k2, .long), (k3, .long), (k4, .int), (k5, .int)]
abbrev mdw (x a1 a2 a3 a4 a5 : Nat) (k1 k2 k3 k4 k5 : ClassId) (f : Nat → Int32) (u w : Nat → Int64) (g n : Nat → Int32) (k : Nat) (mf : Int32) (mu ml : Int64) : va_W := [(x, .inr (1, [.ref a1, .ref a2, .ref a3, .ref a4, .ref a5, .int (nI k), .int mf, .long mu, .long ml])), (a1, .inl (k1, 1000, .inl f)), (a2, .inl (k2, 1000, .inl g)), (a3, .inl (k3, 1000, .inl n)), (a4, .inl (k4, 1000, .inr (.inl u))), (a5, .inl (k5, 1000, .inr (.inl w)))]
abbrev mdt (k1 k2 k3 k4 k5 : ClassId) : List (ClassId × FieldType) := [(k1, .int), (k2, .int), (k3, .int), (k4, .long), (k5, .long)]
set_option maxHeartbeats 4000000 in
set_option maxRecDepth 100000 in
theorem c_X0_isAddress (l : Launch) (dC : Nat → ClassId) (dI : Nat → Nat → Nat)  {tys : List (ClassId × FieldType)} (fa : Int32) (up lo : Int64) (Hh : Heap)  : Met l yX0_isAddress (ww yX0_isAddress cX0_isAddress 5 (some .boolean)) ({ frames := 0, cells := 0, slots := 0, locals := 0 } : Room) (va_Pc [.int fa, .long up, .long lo] (fun U => U.heap = Hh ∧ va_K (dC, dI) classes tys U)) (va_Qi (fun r (_ : Unit) => r = (b2i (kb_addr fa up lo))) (fun _ t => t.heap = Hh) (fun _ => False)) 0 0 (fun _ => False) := by
  refine Met.ofW (cc := cX0_isAddress) (maxL := 5) (ret := (some .boolean)) (by decide) rfl ?_
  intro p e s m args below meth c s₁ B hml hv
  obtain ⟨rfl, hHh, hK⟩ := hv
  subst hHh
  have hx := B.exec
  have hb := B.bytes
  have hr := B.returns
  have hts := atoms_spec (ws := ww yX0_isAddress cX0_isAddress 5 (some .boolean)) B.pre
  have htl : ∀ w ∈ ltg, w.before [.int fa, .long up, .long lo].toArray s = true := fun w h => hts w (List.mem_cons_of_mem _ h)
  have hown : s.vm.findClass RX0 = some m.cls := findClass_of_methodNamed B.named
  have hlocks := B.notSynchronized
  have hl := lv_entry ([.int fa, .long up, .long lo]) (n := 5) (Nat.le_of_ble_eq_true rfl)
  rw [lg_entry_eq]
  generalize (lg_sl ([.int fa, .long up, .long lo]) ++ List.replicate (5 - (lg_sl ([.int fa, .long up, .long lo])).length) Slot.unset).toArray = ls at hl ⊢
  have hl : lv_has ls 5 [(0, .int fa), (1, .long up), (3, .long lo)] := hl
  refine lv_iload_n hx hb dX0_isAddress_0 rfl (lv_at hl 0 rfl) ?_
  refine lv_iconst (v := 4) hx hb dX0_isAddress_1 (by decide) ?_
  refine lv_icmp_ne (tgt := 31) hx hb dX0_isAddress_2 (by decide) (fun c_1 => ?_) (fun c_1 => ?_)
  · refine lv_iload_n hx hb dX0_isAddress_31 rfl (lv_at hl 0 rfl) ?_
    refine lv_bipush (v := 6) hx hb dX0_isAddress_32 (by decide) ?_
    refine lv_icmp_ne (tgt := 41) hx hb dX0_isAddress_34 (by decide) (fun c_2 => ?_) (fun c_2 => ?_)
    · refine lv_iconst (v := 0) hx hb dX0_isAddress_41 (by decide) ?_
      exact ru_zret hx hb hr hlocks (by simp [kb_addr, b2i, c_1, c_2]) rfl dX0_isAddress_42
    · refine lv_iconst (v := 1) hx hb dX0_isAddress_37 (by decide) ?_
      refine lv_goto (tgt := 42) hx hb dX0_isAddress_38 (by decide) ?_
      exact ru_zret hx hb hr hlocks (by simp [kb_addr, b2i, c_1, c_2]) rfl dX0_isAddress_42
  · refine lv_lload_n hx hb dX0_isAddress_5 rfl (lv_at hl 1 rfl) ?_
    refine lv_lconst (v := 0) hx hb dX0_isAddress_6 (by decide) ?_
    refine W.lcmp hx hb dX0_isAddress_7 ?_
    refine lv_if_ne (tgt := 29) hx hb dX0_isAddress_8 (by decide) (fun c_3 => ?_) (fun c_3 => ?_)
    · rw [lg_cmp_eq] at c_3
      refine lv_iconst (v := 0) hx hb dX0_isAddress_29 (by decide) ?_
      exact ru_zret hx hb hr hlocks (by simp [kb_addr, b2i, c_1, c_3]) rfl dX0_isAddress_30
    · rw [lg_cmp_eq] at c_3
      refine lv_lload_n hx hb dX0_isAddress_11 rfl (lv_at hl 2 rfl) ?_
      refine lv_lconst (v := 0) hx hb dX0_isAddress_12 (by decide) ?_
      refine W.lcmp hx hb dX0_isAddress_13 ?_
      refine lv_if_lt (tgt := 29) hx hb dX0_isAddress_14 (by decide) (fun c_4 => ?_) (fun c_4 => ?_)
      · rw [lg_cmp_lt] at c_4
        refine lv_iconst (v := 0) hx hb dX0_isAddress_29 (by decide) ?_
        exact ru_zret hx hb hr hlocks (by simp [kb_addr, b2i, c_1, c_3, c_4]) rfl dX0_isAddress_30
      · rw [lg_cmp_lt] at c_4
        refine lv_lload_n hx hb dX0_isAddress_17 rfl (lv_at hl 2 rfl) ?_
        refine lv_ldc2 (v := 4294967296) hx hb hown (htl _ kcX0_78) dX0_isAddress_18 ?_
        refine W.lcmp hx hb dX0_isAddress_21 ?_
        refine lv_if_ge (tgt := 29) hx hb dX0_isAddress_22 (by decide) (fun c_5 => ?_) (fun c_5 => ?_)
        · rw [lg_cmp_ge] at c_5
          refine lv_iconst (v := 0) hx hb dX0_isAddress_29 (by decide) ?_
          exact ru_zret hx hb hr hlocks (by simp [kb_addr, b2i, c_1, c_3, c_4, c_5]) rfl dX0_isAddress_30
        · rw [lg_cmp_ge] at c_5
          refine lv_iconst (v := 1) hx hb dX0_isAddress_25 (by decide) ?_
          refine lv_goto (tgt := 30) hx hb dX0_isAddress_26 (by decide) ?_
          exact ru_zret hx hb hr hlocks (by simp [kb_addr, b2i, c_1, c_3, c_4, c_5]) rfl dX0_isAddress_30
set_option maxHeartbeats 4000000 in
set_option maxRecDepth 100000 in
theorem c_X0_bitsOfWhole (l : Launch) (dC : Nat → ClassId) (dI : Nat → Nat → Nat)  {tys : List (ClassId × FieldType)} (fa le : Int32) (Hh : Heap)  : Met l yX0_bitsOfWhole (ww yX0_bitsOfWhole cX0_bitsOfWhole 2 (some .int)) ({ frames := 0, cells := 0, slots := 0, locals := 0 } : Room) (va_Pc [.int fa, .int le] (fun U => U.heap = Hh ∧ va_K (dC, dI) classes tys U)) (va_Qi (fun r (_ : Unit) => r = (kb_bits fa le)) (fun _ t => t.heap = Hh) (fun _ => False)) 0 0 (fun _ => False) := by
  refine Met.ofW (cc := cX0_bitsOfWhole) (maxL := 2) (ret := (some .int)) (by decide) rfl ?_
  intro p e s m args below meth c s₁ B hml hv
  obtain ⟨rfl, hHh, hK⟩ := hv
  subst hHh
  have hx := B.exec
  have hb := B.bytes
  have hr := B.returns
  have hts := atoms_spec (ws := ww yX0_bitsOfWhole cX0_bitsOfWhole 2 (some .int)) B.pre
  have htl : ∀ w ∈ ltg, w.before [.int fa, .int le].toArray s = true := fun w h => hts w (List.mem_cons_of_mem _ h)
  have hown : s.vm.findClass RX0 = some m.cls := findClass_of_methodNamed B.named
  have hlocks := B.notSynchronized
  have hl := lv_entry ([.int fa, .int le]) (n := 2) (Nat.le_of_ble_eq_true rfl)
  rw [lg_entry_eq]
  generalize (lg_sl ([.int fa, .int le]) ++ List.replicate (2 - (lg_sl ([.int fa, .int le])).length) Slot.unset).toArray = ls at hl ⊢
  have hl : lv_has ls 2 [(0, .int fa), (1, .int le)] := hl
  refine lv_iload_n hx hb dX0_bitsOfWhole_0 rfl (lv_at hl 0 rfl) ?_
  refine lv_iconst (v := 4) hx hb dX0_bitsOfWhole_1 (by decide) ?_
  refine lv_icmp_ne (tgt := 12) hx hb dX0_bitsOfWhole_2 (by decide) (fun c_1 => ?_) (fun c_1 => ?_)
  · refine lv_iload_n hx hb dX0_bitsOfWhole_12 rfl (lv_at hl 1 rfl) ?_
    exact ru_iret hx hb hr hlocks (by simp [kb_bits, c_1]) dX0_bitsOfWhole_13
  · refine lv_bipush (v := 96) hx hb dX0_bitsOfWhole_5 (by decide) ?_
    refine lv_iload_n hx hb dX0_bitsOfWhole_7 rfl (lv_at hl 1 rfl) ?_
    refine lv_iadd hx hb dX0_bitsOfWhole_8 ?_
    refine lv_goto (tgt := 13) hx hb dX0_bitsOfWhole_9 (by decide) ?_
    exact ru_iret hx hb hr hlocks (by simp [kb_bits, c_1]) dX0_bitsOfWhole_13
set_option maxHeartbeats 4000000 in
set_option maxRecDepth 100000 in
theorem c_X0_firstBits (l : Launch) (dC : Nat → ClassId) (dI : Nat → Nat → Nat)  {tys : List (ClassId × FieldType)} (b : Int32) (Hh : Heap)  : Met l yX0_firstBits (ww yX0_firstBits cX0_firstBits 1 (some .long)) ({ frames := 0, cells := 0, slots := 0, locals := 0 } : Room) (va_Pc [.int b] (fun U => U.heap = Hh ∧ va_K (dC, dI) classes tys U)) (va_Ql (fun r (_ : Unit) => r = (kb_first b)) (fun _ t => t.heap = Hh) (fun _ => False)) 0 0 (fun _ => False) := by
  refine Met.ofW (cc := cX0_firstBits) (maxL := 1) (ret := (some .long)) (by decide) rfl ?_
  intro p e s m args below meth c s₁ B hml hv
  obtain ⟨rfl, hHh, hK⟩ := hv
  subst hHh
  have hx := B.exec
  have hb := B.bytes
  have hr := B.returns
  have hts := atoms_spec (ws := ww yX0_firstBits cX0_firstBits 1 (some .long)) B.pre
  have htl : ∀ w ∈ ltg, w.before [.int b].toArray s = true := fun w h => hts w (List.mem_cons_of_mem _ h)
  have hown : s.vm.findClass RX0 = some m.cls := findClass_of_methodNamed B.named
  have hlocks := B.notSynchronized
  have hl := lv_entry ([.int b]) (n := 1) (Nat.le_of_ble_eq_true rfl)
  rw [lg_entry_eq]
  generalize (lg_sl ([.int b]) ++ List.replicate (1 - (lg_sl ([.int b])).length) Slot.unset).toArray = ls at hl ⊢
  have hl : lv_has ls 1 [(0, .int b)] := hl
  refine lv_iload_n hx hb dX0_firstBits_0 rfl (lv_at hl 0 rfl) ?_
  refine lv_if_gt (tgt := 6) hx hb dX0_firstBits_1 (by decide) (fun c_1 => ?_) (fun c_1 => ?_)
  · refine lv_iload_n hx hb dX0_firstBits_6 rfl (lv_at hl 0 rfl) ?_
    refine lv_bipush (v := 64) hx hb dX0_firstBits_7 (by decide) ?_
    refine lv_icmp_lt (tgt := 16) hx hb dX0_firstBits_9 (by decide) (fun c_2 => ?_) (fun c_2 => ?_)
    · refine lv_ldc2 (v := (-1)) hx hb hown (htl _ kcX0_88) dX0_firstBits_16 ?_
      refine lv_bipush (v := 64) hx hb dX0_firstBits_19 (by decide) ?_
      refine lv_iload_n hx hb dX0_firstBits_21 rfl (lv_at hl 0 rfl) ?_
      refine lv_isub hx hb dX0_firstBits_22 ?_
      refine lv_lshl hx hb dX0_firstBits_23 rfl ?_
      exact ru_lret hx hb hr hlocks (by simp [kb_first, c_1, c_2]) dX0_firstBits_24
    · refine lv_ldc2 (v := (-1)) hx hb hown (htl _ kcX0_88) dX0_firstBits_12 ?_
      exact ru_lret hx hb hr hlocks (by simp [kb_first, c_1, c_2]) dX0_firstBits_15
  · refine lv_lconst (v := 0) hx hb dX0_firstBits_4 (by decide) ?_
    exact ru_lret hx hb hr hlocks (by simp [kb_first, c_1]) dX0_firstBits_5
set_option maxHeartbeats 4000000 in
set_option maxRecDepth 100000 in
theorem c_X0_upperMask (l : Launch) (dC : Nat → ClassId) (dI : Nat → Nat → Nat)  {tys : List (ClassId × FieldType)} (b : Int32) (Hh : Heap)  : Met l yX0_upperMask (ww yX0_upperMask cX0_upperMask 1 (some .long)) ({ frames := 1, cells := 0, slots := 0, locals := 20 } : Room) (va_Pc [.int b] (fun U => U.heap = Hh ∧ va_K (dC, dI) classes tys U)) (va_Ql (fun r (_ : Unit) => r = (kb_first b)) (fun _ t => t.heap = Hh) (fun _ => False)) 0 0 (fun _ => False) := by
  refine Met.ofW (cc := cX0_upperMask) (maxL := 1) (ret := (some .long)) (by decide) rfl ?_
  intro p e s m args below meth c s₁ B hml hv
  obtain ⟨rfl, hHh, hK⟩ := hv
  subst hHh
  have hx := B.exec
  have hb := B.bytes
  have hr := B.returns
  have hts := atoms_spec (ws := ww yX0_upperMask cX0_upperMask 1 (some .long)) B.pre
  have htl : ∀ w ∈ ltg, w.before [.int b].toArray s = true := fun w h => hts w (List.mem_cons_of_mem _ h)
  have hown : s.vm.findClass RX0 = some m.cls := findClass_of_methodNamed B.named
  have hlocks := B.notSynchronized
  have hl := lv_entry ([.int b]) (n := 1) (Nat.le_of_ble_eq_true rfl)
  rw [lg_entry_eq]
  generalize (lg_sl ([.int b]) ++ List.replicate (1 - (lg_sl ([.int b])).length) Slot.unset).toArray = ls at hl ⊢
  have hl : lv_has ls 1 [(0, .int b)] := hl
  refine lv_iload_n hx hb dX0_upperMask_0 rfl (lv_at hl 0 rfl) ?_
  refine ru_calll (va_runS (As := [.int b]) (rest := []) ⟨hx, hb, hml, hown, htl⟩ (c_X0_firstBits l dC dI b _) (cwS 1 htl gX0_93 rfl rfl rfl hd_X0_firstBits ⟨Nat.le_of_ble_eq_true rfl, Nat.le_of_ble_eq_true rfl⟩) ⟨fb_ro, fun U hU hW => ⟨rfl, hU, va_K.moved hW.alike hK⟩⟩ rfl rfl hl.1 rfl (lv_room (Nat.le_of_ble_eq_true rfl)) dX0_upperMask_1 ⟨Nat.le_of_ble_eq_true rfl, Nat.le_of_ble_eq_true rfl⟩) ?_
  exact ru_lret hx hb hr hlocks (rfl) dX0_upperMask_4
set_option maxHeartbeats 4000000 in
set_option maxRecDepth 100000 in
theorem c_X0_lowerMask (l : Launch) (dC : Nat → ClassId) (dI : Nat → Nat → Nat)  {tys : List (ClassId × FieldType)} (b : Int32) (Hh : Heap)  : Met l yX0_lowerMask (ww yX0_lowerMask cX0_lowerMask 1 (some .long)) ({ frames := 1, cells := 0, slots := 0, locals := 20 } : Room) (va_Pc [.int b] (fun U => U.heap = Hh ∧ va_K (dC, dI) classes tys U)) (va_Ql (fun r (_ : Unit) => r = (kb_first (b - 64))) (fun _ t => t.heap = Hh) (fun _ => False)) 0 0 (fun _ => False) := by
  refine Met.ofW (cc := cX0_lowerMask) (maxL := 1) (ret := (some .long)) (by decide) rfl ?_
  intro p e s m args below meth c s₁ B hml hv
  obtain ⟨rfl, hHh, hK⟩ := hv
  subst hHh
  have hx := B.exec
  have hb := B.bytes
  have hr := B.returns
  have hts := atoms_spec (ws := ww yX0_lowerMask cX0_lowerMask 1 (some .long)) B.pre
  have htl : ∀ w ∈ ltg, w.before [.int b].toArray s = true := fun w h => hts w (List.mem_cons_of_mem _ h)
  have hown : s.vm.findClass RX0 = some m.cls := findClass_of_methodNamed B.named
  have hlocks := B.notSynchronized
  have hl := lv_entry ([.int b]) (n := 1) (Nat.le_of_ble_eq_true rfl)
  rw [lg_entry_eq]
  generalize (lg_sl ([.int b]) ++ List.replicate (1 - (lg_sl ([.int b])).length) Slot.unset).toArray = ls at hl ⊢
  have hl : lv_has ls 1 [(0, .int b)] := hl
  refine lv_iload_n hx hb dX0_lowerMask_0 rfl (lv_at hl 0 rfl) ?_
  refine lv_bipush (v := 64) hx hb dX0_lowerMask_1 (by decide) ?_
  refine lv_isub hx hb dX0_lowerMask_3 ?_
  refine ru_calll (va_runS (As := [.int (b - 64)]) (rest := []) ⟨hx, hb, hml, hown, htl⟩ (c_X0_firstBits l dC dI (b - 64) _) (cwS 1 htl gX0_93 rfl rfl rfl hd_X0_firstBits ⟨Nat.le_of_ble_eq_true rfl, Nat.le_of_ble_eq_true rfl⟩) ⟨fb_ro, fun U hU hW => ⟨rfl, hU, va_K.moved hW.alike hK⟩⟩ rfl rfl hl.1 rfl (lv_room (Nat.le_of_ble_eq_true rfl)) dX0_lowerMask_4 ⟨Nat.le_of_ble_eq_true rfl, Nat.le_of_ble_eq_true rfl⟩) ?_
  exact ru_lret hx hb hr hlocks (rfl) dX0_lowerMask_7
set_option maxHeartbeats 4000000 in
set_option maxRecDepth 100000 in
theorem c_X0_isBelow (l : Launch) (dC : Nat → ClassId) (dI : Nat → Nat → Nat)  {tys : List (ClassId × FieldType)} (y z : Int64) (Hh : Heap)  : Met l yX0_isBelow (ww yX0_isBelow cX0_isBelow 4 (some .boolean)) ({ frames := 0, cells := 0, slots := 0, locals := 0 } : Room) (va_Pc [.long y, .long z] (fun U => U.heap = Hh ∧ va_K (dC, dI) classes tys U)) (va_Qi (fun r (_ : Unit) => r = (b2i (kb_below y z))) (fun _ t => t.heap = Hh) (fun _ => False)) 0 0 (fun _ => False) := by
  refine Met.ofW (cc := cX0_isBelow) (maxL := 4) (ret := (some .boolean)) (by decide) rfl ?_
  intro p e s m args below meth c s₁ B hml hv
  obtain ⟨rfl, hHh, hK⟩ := hv
  subst hHh
  have hx := B.exec
  have hb := B.bytes
  have hr := B.returns
  have hts := atoms_spec (ws := ww yX0_isBelow cX0_isBelow 4 (some .boolean)) B.pre
  have htl : ∀ w ∈ ltg, w.before [.long y, .long z].toArray s = true := fun w h => hts w (List.mem_cons_of_mem _ h)
  have hown : s.vm.findClass RX0 = some m.cls := findClass_of_methodNamed B.named
  have hlocks := B.notSynchronized
  have hl := lv_entry ([.long y, .long z]) (n := 4) (Nat.le_of_ble_eq_true rfl)
  rw [lg_entry_eq]
  generalize (lg_sl ([.long y, .long z]) ++ List.replicate (4 - (lg_sl ([.long y, .long z])).length) Slot.unset).toArray = ls at hl ⊢
  have hl : lv_has ls 4 [(0, .long y), (2, .long z)] := hl
  refine lv_lload_n hx hb dX0_isBelow_0 rfl (lv_at hl 0 rfl) ?_
  refine lv_ldc2 (v := (-9223372036854775808)) hx hb hown (htl _ kcX0_103) dX0_isBelow_1 ?_
  refine lv_lxor hx hb dX0_isBelow_4 ?_
  refine lv_lload_n hx hb dX0_isBelow_5 rfl (lv_at hl 1 rfl) ?_
  refine lv_ldc2 (v := (-9223372036854775808)) hx hb hown (htl _ kcX0_103) dX0_isBelow_6 ?_
  refine lv_lxor hx hb dX0_isBelow_9 ?_
  refine W.lcmp hx hb dX0_isBelow_10 ?_
  refine lv_if_ge (tgt := 18) hx hb dX0_isBelow_11 (by decide) (fun c_1 => ?_) (fun c_1 => ?_)
  · rw [lg_cmp_ge] at c_1
    refine lv_iconst (v := 0) hx hb dX0_isBelow_18 (by decide) ?_
    exact ru_zret hx hb hr hlocks (by simp [kb_below, b2i, c_1]) rfl dX0_isBelow_19
  · rw [lg_cmp_ge] at c_1
    refine lv_iconst (v := 1) hx hb dX0_isBelow_14 (by decide) ?_
    refine lv_goto (tgt := 19) hx hb dX0_isBelow_15 (by decide) ?_
    exact ru_zret hx hb hr hlocks (by simp [kb_below, b2i, c_1]) rfl dX0_isBelow_19
