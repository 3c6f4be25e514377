set_option maxHeartbeats 4000000 in
set_option maxRecDepth 100000 in
theorem c_X1_find (l : Launch) (dC : Nat → ClassId) (dI : Nat → Nat → Nat) {x a1 a2 a3 a4 a5 : Nat} {k1 k2 k3 k4 k5 : ClassId} {f : Nat → Int32} {u w : Nat → Int64} {g n : Nat → Int32} {k : Nat} {mf : Int32} {mu ml : Int64} (le : Int32) (Hh : Heap) (hk : k ≤ 1000) (hP : va_P (dC, dI) classes (mdw x a1 a2 a3 a4 a5 k1 k2 k3 k4 k5 f u w g n k mf mu ml) Hh) : Met l yX1_find (ww yX1_find cX1_find 3 (some .int)) ({ frames := 0, cells := 0, slots := 0, locals := 0 } : Room) (va_Pc [.ref x, .int le] (fun U => U.heap = Hh ∧ va_K (dC, dI) classes (mdt k1 k2 k3 k4 k5) U)) (va_Qi (fun r (_ : Unit) => r = (if kb_fst (md_ne f u w g mf mu ml le) k 0 < k then nI (kb_fst (md_ne f u w g mf mu ml le) k 0) else (-1))) (fun _ t => t.heap = Hh) (fun _ => False)) 0 0 (fun _ => False) := by
  refine Met.ofW (cc := cX1_find) (maxL := 3) (ret := (some .int)) (by decide) rfl ?_
  intro p e s m args below meth c s₁ B hml hv
  obtain ⟨rfl, hHh, hK⟩ := hv
  subst hHh
  have hx := B.exec
  have hb := B.bytes
  have hr := B.returns
  have hts := atoms_spec (ws := ww yX1_find cX1_find 3 (some .int)) B.pre
  have htl : ∀ w ∈ ltg, w.before [.ref x, .int le].toArray s = true := fun w h => hts w (List.mem_cons_of_mem _ h)
  have hown : s.vm.findClass RX1 = some m.cls := findClass_of_methodNamed B.named
  have hlocks := B.notSynchronized
  have hl := lv_entry ([.ref x, .int le]) (n := 3) (Nat.le_of_ble_eq_true rfl)
  rw [lg_entry_eq]
  generalize (lg_sl ([.ref x, .int le]) ++ List.replicate (3 - (lg_sl ([.ref x, .int le])).length) Slot.unset).toArray = ls at hl ⊢
  have hl : lv_has ls 3 [(0, .ref x), (1, .int le)] := hl
  have loop : ∀  (d i : Nat), i ≤ k → k + 1 ≤ i + d → (∀ j, j < i → md_ne f u w g mf mu ml le j = true) → ∀ (ls : Array Slot), lv_has ls 3 [(0, .ref x), (1, .int le), (2, .int (nI i))] → W p l e ({ frames := 0, cells := 0, slots := 0, locals := 0 } : Room) s m ([.ref x, .int le] : List Value).toArray below meth c s.heap [] 0 0 (MQ below (va_Qi (fun r (_ : Unit) => r = (if kb_fst (md_ne f u w g mf mu ml le) k 0 < k then nI (kb_fst (md_ne f u w g mf mu ml le) k 0) else (-1))) (fun _ t => t.heap = s.heap) (fun _ => False)) [.ref x, .int le].toArray s 0 0 (fun _ => False)) (F0 m 2 ls []) := by
    intro d
    induction d with
    | zero => intro i  hi hd; exact absurd hd (by omega)
    | succ d ih =>
      intro i  hi hd hinv ls hl
      refine lv_iload_n hx hb dX1_find_2 rfl (lv_at hl 2 rfl) ?_
      refine lv_aload_n hx hb dX1_find_3 rfl (lv_at hl 0 rfl) ?_
      refine va_get (D := (dC, dI)) (ci := 1) (v := .int (nI k)) (C := RX1) (T := TX1) (N := 9) hx hb htl inX1 hown hK hP 0 rfl rfl 5 (by decide) (htl _ flX1_47) (fun _ h9 => h9) rfl dX1_find_4 ?_
      refine lv_icmp_ge (tgt := 69) hx hb dX1_find_7 (by decide) (fun c_1 => ?_) (fun c_1 => ?_)
      · rw [nI_leI (by omega) (by omega)] at c_1
        refine lv_iconst (v := (-1)) hx hb dX1_find_69 (by decide) ?_
        exact ru_iret hx hb hr hlocks (by rw [kb_fst_eq _ k k (Nat.le_refl k) (fun j h => hinv j (by omega)) (Or.inl rfl), if_neg (Nat.lt_irrefl k)]) dX1_find_70
      · rw [nI_leI (by omega) (by omega), Nat.not_le] at c_1
        refine lv_aload_n hx hb dX1_find_10 rfl (lv_at hl 0 rfl) ?_
        refine va_get (D := (dC, dI)) (ci := 1) (v := .ref a1) (C := RX1) (T := TX1) (N := 9) hx hb htl inX1 hown hK hP 0 rfl rfl 0 (by decide) (htl _ flX1_7) (fun _ h9 => h9) rfl dX1_find_11 ?_
        refine lv_iload_n hx hb dX1_find_14 rfl (lv_at hl 2 rfl) ?_
        refine ld_i hx hb hK hP 1 0 rfl rfl (j := i) (by omega) (Nat.le_of_ble_eq_true rfl) dX1_find_15 ?_
        refine lv_aload_n hx hb dX1_find_16 rfl (lv_at hl 0 rfl) ?_
        refine va_get (D := (dC, dI)) (ci := 1) (v := .int mf) (C := RX1) (T := TX1) (N := 9) hx hb htl inX1 hown hK hP 0 rfl rfl 6 (by decide) (htl _ flX1_26) (fun _ h9 => h9) rfl dX1_find_17 ?_
        refine lv_icmp_ne (tgt := 63) hx hb dX1_find_20 (by decide) (fun c_2 => ?_) (fun c_2 => ?_)
        · refine lv_iinc (v := nI (i + 1)) (lv' := [(2, .int (nI (i + 1))), (0, .ref x), (1, .int le)]) hx hb dX1_find_63 hl (k := 2) rfl (by first | rfl | exact nI_1 _) (by decide) rfl (fun ls hl => ?_)
          refine lv_goto (tgt := 2) hx hb dX1_find_66 (by decide) ?_
          exact ih (i + 1) c_1 (by omega) (lt_s hinv (by simp [md_ne, c_2])) ls (lv_sub hl [1, 2, 0] rfl)
        · refine lv_aload_n hx hb dX1_find_23 rfl (lv_at hl 0 rfl) ?_
          refine va_get (D := (dC, dI)) (ci := 1) (v := .ref a4) (C := RX1) (T := TX1) (N := 9) hx hb htl inX1 hown hK hP 0 rfl rfl 3 (by decide) (htl _ flX1_19) (fun _ h9 => h9) rfl dX1_find_24 ?_
          refine lv_iload_n hx hb dX1_find_27 rfl (lv_at hl 2 rfl) ?_
          refine ld_l hx hb hK hP 4 3 rfl rfl (j := i) (by omega) (Nat.le_of_ble_eq_true rfl) dX1_find_28 ?_
          refine lv_aload_n hx hb dX1_find_29 rfl (lv_at hl 0 rfl) ?_
          refine va_get (D := (dC, dI)) (ci := 1) (v := .long mu) (C := RX1) (T := TX1) (N := 9) hx hb htl inX1 hown hK hP 0 rfl rfl 7 (by decide) (htl _ flX1_32) (fun _ h9 => h9) rfl dX1_find_30 ?_
          refine W.lcmp hx hb dX1_find_33 ?_
          refine lv_if_ne (tgt := 63) hx hb dX1_find_34 (by decide) (fun c_3 => ?_) (fun c_3 => ?_)
          · rw [lg_cmp_eq] at c_3
            refine lv_iinc (v := nI (i + 1)) (lv' := [(2, .int (nI (i + 1))), (0, .ref x), (1, .int le)]) hx hb dX1_find_63 hl (k := 2) rfl (by first | rfl | exact nI_1 _) (by decide) rfl (fun ls hl => ?_)
            refine lv_goto (tgt := 2) hx hb dX1_find_66 (by decide) ?_
            exact ih (i + 1) c_1 (by omega) (lt_s hinv (by simp [md_ne, c_2, c_3])) ls (lv_sub hl [1, 2, 0] rfl)
          · rw [lg_cmp_eq] at c_3
            refine lv_aload_n hx hb dX1_find_37 rfl (lv_at hl 0 rfl) ?_
            refine va_get (D := (dC, dI)) (ci := 1) (v := .ref a5) (C := RX1) (T := TX1) (N := 9) hx hb htl inX1 hown hK hP 0 rfl rfl 4 (by decide) (htl _ flX1_23) (fun _ h9 => h9) rfl dX1_find_38 ?_
            refine lv_iload_n hx hb dX1_find_41 rfl (lv_at hl 2 rfl) ?_
            refine ld_l hx hb hK hP 5 4 rfl rfl (j := i) (by omega) (Nat.le_of_ble_eq_true rfl) dX1_find_42 ?_
            refine lv_aload_n hx hb dX1_find_43 rfl (lv_at hl 0 rfl) ?_
            refine va_get (D := (dC, dI)) (ci := 1) (v := .long ml) (C := RX1) (T := TX1) (N := 9) hx hb htl inX1 hown hK hP 0 rfl rfl 8 (by decide) (htl _ flX1_36) (fun _ h9 => h9) rfl dX1_find_44 ?_
            refine W.lcmp hx hb dX1_find_47 ?_
            refine lv_if_ne (tgt := 63) hx hb dX1_find_48 (by decide) (fun c_4 => ?_) (fun c_4 => ?_)
            · rw [lg_cmp_eq] at c_4
              refine lv_iinc (v := nI (i + 1)) (lv' := [(2, .int (nI (i + 1))), (0, .ref x), (1, .int le)]) hx hb dX1_find_63 hl (k := 2) rfl (by first | rfl | exact nI_1 _) (by decide) rfl (fun ls hl => ?_)
              refine lv_goto (tgt := 2) hx hb dX1_find_66 (by decide) ?_
              exact ih (i + 1) c_1 (by omega) (lt_s hinv (by simp [md_ne, c_2, c_3, c_4])) ls (lv_sub hl [1, 2, 0] rfl)
            · rw [lg_cmp_eq] at c_4
              refine lv_aload_n hx hb dX1_find_51 rfl (lv_at hl 0 rfl) ?_
              refine va_get (D := (dC, dI)) (ci := 1) (v := .ref a2) (C := RX1) (T := TX1) (N := 9) hx hb htl inX1 hown hK hP 0 rfl rfl 1 (by decide) (htl _ flX1_13) (fun _ h9 => h9) rfl dX1_find_52 ?_
              refine lv_iload_n hx hb dX1_find_55 rfl (lv_at hl 2 rfl) ?_
              refine ld_i hx hb hK hP 2 1 rfl rfl (j := i) (by omega) (Nat.le_of_ble_eq_true rfl) dX1_find_56 ?_
              refine lv_iload_n hx hb dX1_find_57 rfl (lv_at hl 1 rfl) ?_
              refine lv_icmp_ne (tgt := 63) hx hb dX1_find_58 (by decide) (fun c_5 => ?_) (fun c_5 => ?_)
              · refine lv_iinc (v := nI (i + 1)) (lv' := [(2, .int (nI (i + 1))), (0, .ref x), (1, .int le)]) hx hb dX1_find_63 hl (k := 2) rfl (by first | rfl | exact nI_1 _) (by decide) rfl (fun ls hl => ?_)
                refine lv_goto (tgt := 2) hx hb dX1_find_66 (by decide) ?_
                exact ih (i + 1) c_1 (by omega) (lt_s hinv (by simp [md_ne, c_2, c_3, c_4, c_5])) ls (lv_sub hl [1, 2, 0] rfl)
              · refine lv_iload_n hx hb dX1_find_61 rfl (lv_at hl 2 rfl) ?_
                exact ru_iret hx hb hr hlocks (by rw [kb_fst_eq _ k i hi hinv (Or.inr (by simp [md_ne, c_2, c_3, c_4, c_5])), if_pos c_1]) dX1_find_62
  refine lv_iconst (v := nI 0) hx hb dX1_find_0 (by decide) ?_
  refine lv_istore_n (lv' := [(2, .int (nI 0)), (0, .ref x), (1, .int le)]) hx hb dX1_find_1 rfl hl (by decide) rfl (fun ls hl => ?_)
  exact loop (k + 1) 0 (Nat.zero_le k) (by omega) (fun j h => absurd h (by omega)) ls (lv_sub hl [1, 2, 0] rfl)
set_option maxHeartbeats 4000000 in
set_option maxRecDepth 100000 in
theorem c_X1_covers (l : Launch) (dC : Nat → ClassId) (dI : Nat → Nat → Nat) {x a1 a2 a3 a4 a5 : Nat} {k1 k2 k3 k4 k5 : ClassId} {f : Nat → Int32} {u w : Nat → Int64} {g n : Nat → Int32} {k : Nat} {mf : Int32} {mu ml : Int64} (j : Nat) (Hh : Heap) (hj : j < 1000) (hg : g j = nI (g j).toNatClampNeg ∧ (g j).toNatClampNeg ≤ 128) (hP : va_P (dC, dI) classes (mdw x a1 a2 a3 a4 a5 k1 k2 k3 k4 k5 f u w g n k mf mu ml) Hh) : Met l yX1_covers (ww yX1_covers cX1_covers 4 (some .boolean)) ({ frames := 1, cells := 0, slots := 0, locals := 25 } : Room) (va_Pc [.ref x, .int (nI j)] (fun U => U.heap = Hh ∧ va_K (dC, dI) classes (mdt k1 k2 k3 k4 k5) U)) (va_Qi (fun r (_ : Unit) => r = (b2i (md_cov f u w g mf mu ml j))) (fun _ t => t.heap = Hh) (fun _ => False)) 0 0 (fun _ => False) := by
  refine Met.ofW (cc := cX1_covers) (maxL := 4) (ret := (some .boolean)) (by decide) rfl ?_
  intro p e s m args below meth c s₁ B hml hv
  obtain ⟨rfl, hHh, hK⟩ := hv
  subst hHh
  have hx := B.exec
  have hb := B.bytes
  have hr := B.returns
  have hts := atoms_spec (ws := ww yX1_covers cX1_covers 4 (some .boolean)) B.pre
  have htl : ∀ w ∈ ltg, w.before [.ref x, .int (nI j)].toArray s = true := fun w h => hts w (List.mem_cons_of_mem _ h)
  have hown : s.vm.findClass RX1 = some m.cls := findClass_of_methodNamed B.named
  have hlocks := B.notSynchronized
  have hl := lv_entry ([.ref x, .int (nI j)]) (n := 4) (Nat.le_of_ble_eq_true rfl)
  rw [lg_entry_eq]
  generalize (lg_sl ([.ref x, .int (nI j)]) ++ List.replicate (4 - (lg_sl ([.ref x, .int (nI j)])).length) Slot.unset).toArray = ls at hl ⊢
  have hl : lv_has ls 4 [(0, .ref x), (1, .int (nI j))] := hl
  obtain ⟨hgq, hgb⟩ := hg
  generalize hq : (g j).toNatClampNeg = q at hgq hgb
  have loop : ∀  (d i : Nat) (b : Bool), i ≤ q → q + 1 ≤ i + d → b2i (md_cov f u w g mf mu ml j) = b2i (b && md_z (fun i => decide (md_bit mf (u j) (w j) (nI i) = md_bit mf mu ml (nI i))) (q - i) i) → ∀ (ls : Array Slot), lv_has ls 4 [(0, .ref x), (1, .int (nI j)), (2, .int (b2i b)), (3, .int (nI i))] → W p l e ({ frames := 1, cells := 0, slots := 0, locals := 25 } : Room) s m ([.ref x, .int (nI j)] : List Value).toArray below meth c s.heap [] 0 0 (MQ below (va_Qi (fun r (_ : Unit) => r = (b2i (md_cov f u w g mf mu ml j))) (fun _ t => t.heap = s.heap) (fun _ => False)) [.ref x, .int (nI j)].toArray s 0 0 (fun _ => False)) (F0 m 21 ls []) := by
    intro d
    induction d with
    | zero => intro i b hi hd; exact absurd hd (by omega)
    | succ d ih =>
      intro i b hi hd hinv ls hl
      refine lv_iload_n hx hb dX1_covers_21 rfl (lv_at hl 3 rfl) ?_
      refine lv_aload_n hx hb dX1_covers_22 rfl (lv_at hl 0 rfl) ?_
      refine va_get (D := (dC, dI)) (ci := 1) (v := .ref a2) (C := RX1) (T := TX1) (N := 9) hx hb htl inX1 hown hK hP 0 rfl rfl 1 (by decide) (htl _ flX1_13) (fun _ h9 => h9) rfl dX1_covers_23 ?_
      refine lv_iload_n hx hb dX1_covers_26 rfl (lv_at hl 1 rfl) ?_
      refine ld_i hx hb hK hP 2 1 rfl rfl (j := j) (by omega) (Nat.le_of_ble_eq_true rfl) dX1_covers_27 ?_
      refine tp_i (hgq) ?_
      refine lv_icmp_ge (tgt := 86) hx hb dX1_covers_28 (by decide) (fun c_1 => ?_) (fun c_1 => ?_)
      · rw [nI_leI (by omega) (by omega)] at c_1
        refine lv_iload_n hx hb dX1_covers_86 rfl (lv_at hl 2 rfl) ?_
        exact ru_zret hx hb hr hlocks (by rw [hinv, show q - i = 0 by omega]; simp [md_z]) b2i_n dX1_covers_87
      · rw [nI_leI (by omega) (by omega), Nat.not_le] at c_1
        refine lv_iload_n hx hb dX1_covers_31 rfl (lv_at hl 2 rfl) ?_
        refine lv_if_eq (tgt := 86) hx hb dX1_covers_32 (by decide) (fun c_2 => ?_) (fun c_2 => ?_)
        · rw [b2i_0] at c_2
          refine lv_iload_n hx hb dX1_covers_86 rfl (lv_at hl 2 rfl) ?_
          exact ru_zret hx hb hr hlocks (by rw [hinv, c_2]; rfl) b2i_n dX1_covers_87
        · rw [b2i_0, Bool.not_eq_false] at c_2
          refine lv_aload_n hx hb dX1_covers_35 rfl (lv_at hl 0 rfl) ?_
          refine va_get (D := (dC, dI)) (ci := 1) (v := .int mf) (C := RX1) (T := TX1) (N := 9) hx hb htl inX1 hown hK hP 0 rfl rfl 6 (by decide) (htl _ flX1_26) (fun _ h9 => h9) rfl dX1_covers_36 ?_
          refine lv_aload_n hx hb dX1_covers_39 rfl (lv_at hl 0 rfl) ?_
          refine va_get (D := (dC, dI)) (ci := 1) (v := .ref a4) (C := RX1) (T := TX1) (N := 9) hx hb htl inX1 hown hK hP 0 rfl rfl 3 (by decide) (htl _ flX1_19) (fun _ h9 => h9) rfl dX1_covers_40 ?_
          refine lv_iload_n hx hb dX1_covers_43 rfl (lv_at hl 1 rfl) ?_
          refine ld_l hx hb hK hP 4 3 rfl rfl (j := j) (by omega) (Nat.le_of_ble_eq_true rfl) dX1_covers_44 ?_
          refine lv_aload_n hx hb dX1_covers_45 rfl (lv_at hl 0 rfl) ?_
          refine va_get (D := (dC, dI)) (ci := 1) (v := .ref a5) (C := RX1) (T := TX1) (N := 9) hx hb htl inX1 hown hK hP 0 rfl rfl 4 (by decide) (htl _ flX1_23) (fun _ h9 => h9) rfl dX1_covers_46 ?_
          refine lv_iload_n hx hb dX1_covers_49 rfl (lv_at hl 1 rfl) ?_
          refine ld_l hx hb hK hP 5 4 rfl rfl (j := j) (by omega) (Nat.le_of_ble_eq_true rfl) dX1_covers_50 ?_
          refine lv_iload_n hx hb dX1_covers_51 rfl (lv_at hl 3 rfl) ?_
          refine ru_calli (va_runS (As := [.int mf, .long (u j), .long (w j), .int (nI i)]) (rest := []) ⟨hx, hb, hml, hown, htl⟩ (c_X1_bit l dC dI mf (u j) (w j) (nI i) _) (cwS 4 htl gX1_43 rfl rfl rfl hd_X1_bit ⟨Nat.le_of_ble_eq_true rfl, Nat.le_of_ble_eq_true rfl⟩) ⟨fb_ro, fun U hU hW => ⟨rfl, hU, va_K.moved hW.alike hK⟩⟩ rfl rfl hl.1 rfl (lv_room (Nat.le_of_ble_eq_true rfl)) dX1_covers_52 ⟨Nat.le_of_ble_eq_true rfl, Nat.le_of_ble_eq_true rfl⟩) ?_
          refine lv_aload_n hx hb dX1_covers_55 rfl (lv_at hl 0 rfl) ?_
          refine va_get (D := (dC, dI)) (ci := 1) (v := .int mf) (C := RX1) (T := TX1) (N := 9) hx hb htl inX1 hown hK hP 0 rfl rfl 6 (by decide) (htl _ flX1_26) (fun _ h9 => h9) rfl dX1_covers_56 ?_
          refine lv_aload_n hx hb dX1_covers_59 rfl (lv_at hl 0 rfl) ?_
          refine va_get (D := (dC, dI)) (ci := 1) (v := .long mu) (C := RX1) (T := TX1) (N := 9) hx hb htl inX1 hown hK hP 0 rfl rfl 7 (by decide) (htl _ flX1_32) (fun _ h9 => h9) rfl dX1_covers_60 ?_
          refine lv_aload_n hx hb dX1_covers_63 rfl (lv_at hl 0 rfl) ?_
          refine va_get (D := (dC, dI)) (ci := 1) (v := .long ml) (C := RX1) (T := TX1) (N := 9) hx hb htl inX1 hown hK hP 0 rfl rfl 8 (by decide) (htl _ flX1_36) (fun _ h9 => h9) rfl dX1_covers_64 ?_
          refine lv_iload_n hx hb dX1_covers_67 rfl (lv_at hl 3 rfl) ?_
          refine ru_calli (va_runS (As := [.int mf, .long mu, .long ml, .int (nI i)]) (rest := [.int (md_bit mf (u j) (w j) (nI i))]) ⟨hx, hb, hml, hown, htl⟩ (c_X1_bit l dC dI mf mu ml (nI i) _) (cwS 4 htl gX1_43 rfl rfl rfl hd_X1_bit ⟨Nat.le_of_ble_eq_true rfl, Nat.le_of_ble_eq_true rfl⟩) ⟨fb_ro, fun U hU hW => ⟨rfl, hU, va_K.moved hW.alike hK⟩⟩ rfl rfl hl.1 rfl (lv_room (Nat.le_of_ble_eq_true rfl)) dX1_covers_68 ⟨Nat.le_of_ble_eq_true rfl, Nat.le_of_ble_eq_true rfl⟩) ?_
          refine lv_icmp_ne (tgt := 78) hx hb dX1_covers_71 (by decide) (fun c_3 => ?_) (fun c_3 => ?_)
          · refine lv_iconst (v := b2i false) hx hb dX1_covers_78 (by decide) ?_
            refine lv_istore_n (lv' := [(2, .int (b2i false)), (0, .ref x), (1, .int (nI j)), (3, .int (nI i))]) hx hb dX1_covers_79 rfl hl (by decide) rfl (fun ls hl => ?_)
            refine lv_iinc (v := nI (i + 1)) (lv' := [(3, .int (nI (i + 1))), (2, .int (b2i false)), (0, .ref x), (1, .int (nI j))]) hx hb dX1_covers_80 hl (k := 3) rfl (by first | rfl | exact nI_1 _) (by decide) rfl (fun ls hl => ?_)
            refine lv_goto (tgt := 21) hx hb dX1_covers_83 (by decide) ?_
            exact ih (i + 1) false (by omega) (by omega) (by rw [hinv, c_2, md_z_step _ q i c_1]; simp [c_3]) ls (lv_sub hl [2, 3, 1, 0] rfl)
          · refine lv_iconst (v := b2i true) hx hb dX1_covers_74 (by decide) ?_
            refine lv_goto (tgt := 79) hx hb dX1_covers_75 (by decide) ?_
            refine lv_istore_n (lv' := [(2, .int (b2i true)), (0, .ref x), (1, .int (nI j)), (3, .int (nI i))]) hx hb dX1_covers_79 rfl hl (by decide) rfl (fun ls hl => ?_)
            refine lv_iinc (v := nI (i + 1)) (lv' := [(3, .int (nI (i + 1))), (2, .int (b2i true)), (0, .ref x), (1, .int (nI j))]) hx hb dX1_covers_80 hl (k := 3) rfl (by first | rfl | exact nI_1 _) (by decide) rfl (fun ls hl => ?_)
            refine lv_goto (tgt := 21) hx hb dX1_covers_83 (by decide) ?_
            exact ih (i + 1) true (by omega) (by omega) (by rw [hinv, c_2, md_z_step _ q i c_1]; simp [c_3]) ls (lv_sub hl [2, 3, 1, 0] rfl)
  refine lv_aload_n hx hb dX1_covers_0 rfl (lv_at hl 0 rfl) ?_
  refine va_get (D := (dC, dI)) (ci := 1) (v := .ref a1) (C := RX1) (T := TX1) (N := 9) hx hb htl inX1 hown hK hP 0 rfl rfl 0 (by decide) (htl _ flX1_7) (fun _ h9 => h9) rfl dX1_covers_1 ?_
  refine lv_iload_n hx hb dX1_covers_4 rfl (lv_at hl 1 rfl) ?_
  refine ld_i hx hb hK hP 1 0 rfl rfl (j := j) (by omega) (Nat.le_of_ble_eq_true rfl) dX1_covers_5 ?_
  refine lv_aload_n hx hb dX1_covers_6 rfl (lv_at hl 0 rfl) ?_
  refine va_get (D := (dC, dI)) (ci := 1) (v := .int mf) (C := RX1) (T := TX1) (N := 9) hx hb htl inX1 hown hK hP 0 rfl rfl 6 (by decide) (htl _ flX1_26) (fun _ h9 => h9) rfl dX1_covers_7 ?_
  refine lv_icmp_ne (tgt := 17) hx hb dX1_covers_10 (by decide) (fun c_11 => ?_) (fun c_11 => ?_)
  · refine lv_iconst (v := b2i false) hx hb dX1_covers_17 (by decide) ?_
    refine lv_istore_n (lv' := [(2, .int (b2i false)), (0, .ref x), (1, .int (nI j))]) hx hb dX1_covers_18 rfl hl (by decide) rfl (fun ls hl => ?_)
    refine lv_iconst (v := nI 0) hx hb dX1_covers_19 (by decide) ?_
    refine lv_istore_n (lv' := [(3, .int (nI 0)), (2, .int (b2i false)), (0, .ref x), (1, .int (nI j))]) hx hb dX1_covers_20 rfl hl (by decide) rfl (fun ls hl => ?_)
    exact loop (q + 1) 0 false (Nat.zero_le q) (by omega) (by simp [md_cov, hq, c_11]) ls (lv_sub hl [2, 3, 1, 0] rfl)
  · refine lv_iconst (v := b2i true) hx hb dX1_covers_13 (by decide) ?_
    refine lv_goto (tgt := 18) hx hb dX1_covers_14 (by decide) ?_
    refine lv_istore_n (lv' := [(2, .int (b2i true)), (0, .ref x), (1, .int (nI j))]) hx hb dX1_covers_18 rfl hl (by decide) rfl (fun ls hl => ?_)
    refine lv_iconst (v := nI 0) hx hb dX1_covers_19 (by decide) ?_
    refine lv_istore_n (lv' := [(3, .int (nI 0)), (2, .int (b2i true)), (0, .ref x), (1, .int (nI j))]) hx hb dX1_covers_20 rfl hl (by decide) rfl (fun ls hl => ?_)
    exact loop (q + 1) 0 true (Nat.zero_le q) (by omega) (by simp [md_cov, hq, c_11]) ls (lv_sub hl [2, 3, 1, 0] rfl)
set_option maxHeartbeats 4000000 in
set_option maxRecDepth 100000 in
theorem c_X1_longest (l : Launch) (dC : Nat → ClassId) (dI : Nat → Nat → Nat) {x a1 a2 a3 a4 a5 : Nat} {k1 k2 k3 k4 k5 : ClassId} {f : Nat → Int32} {u w : Nat → Int64} {g n : Nat → Int32} {k : Nat} {mf : Int32} {mu ml : Int64}  (Hh : Heap) (hk : k ≤ 1000) (hg : ∀ j, j < k → g j = nI (g j).toNatClampNeg ∧ (g j).toNatClampNeg ≤ 128) (hP : va_P (dC, dI) classes (mdw x a1 a2 a3 a4 a5 k1 k2 k3 k4 k5 f u w g n k mf mu ml) Hh) : Met l yX1_longest (ww yX1_longest cX1_longest 3 (some .int)) ({ frames := 2, cells := 0, slots := 0, locals := 48 } : Room) (va_Pc [.ref x] (fun U => U.heap = Hh ∧ va_K (dC, dI) classes (mdt k1 k2 k3 k4 k5) U)) (va_Qi (fun r (_ : Unit) => r = (kb_lg (md_cov f u w g mf mu ml) g k)) (fun _ t => t.heap = Hh) (fun _ => False)) 0 0 (fun _ => False) := by
  refine Met.ofW (cc := cX1_longest) (maxL := 3) (ret := (some .int)) (by decide) rfl ?_
  intro p e s m args below meth c s₁ B hml hv
  obtain ⟨rfl, hHh, hK⟩ := hv
  subst hHh
  have hx := B.exec
  have hb := B.bytes
  have hr := B.returns
  have hts := atoms_spec (ws := ww yX1_longest cX1_longest 3 (some .int)) B.pre
  have htl : ∀ w ∈ ltg, w.before [.ref x].toArray s = true := fun w h => hts w (List.mem_cons_of_mem _ h)
  have hown : s.vm.findClass RX1 = some m.cls := findClass_of_methodNamed B.named
  have hlocks := B.notSynchronized
  have hl := lv_entry ([.ref x]) (n := 3) (Nat.le_of_ble_eq_true rfl)
  rw [lg_entry_eq]
  generalize (lg_sl ([.ref x]) ++ List.replicate (3 - (lg_sl ([.ref x])).length) Slot.unset).toArray = ls at hl ⊢
  have hl : lv_has ls 3 [(0, .ref x)] := hl
  have loop : ∀  (d i : Nat) (y : Int32), i ≤ k → k + 1 ≤ i + d → y = kb_lg (md_cov f u w g mf mu ml) g i → ∀ (ls : Array Slot), lv_has ls 3 [(0, .ref x), (1, .int y), (2, .int (nI i))] → W p l e ({ frames := 2, cells := 0, slots := 0, locals := 48 } : Room) s m ([.ref x] : List Value).toArray below meth c s.heap [] 0 0 (MQ below (va_Qi (fun r (_ : Unit) => r = (kb_lg (md_cov f u w g mf mu ml) g k)) (fun _ t => t.heap = s.heap) (fun _ => False)) [.ref x].toArray s 0 0 (fun _ => False)) (F0 m 4 ls []) := by
    intro d
    induction d with
    | zero => intro i y hi hd; exact absurd hd (by omega)
    | succ d ih =>
      intro i y hi hd hinv ls hl
      refine lv_iload_n hx hb dX1_longest_4 rfl (lv_at hl 2 rfl) ?_
      refine lv_aload_n hx hb dX1_longest_5 rfl (lv_at hl 0 rfl) ?_
      refine va_get (D := (dC, dI)) (ci := 1) (v := .int (nI k)) (C := RX1) (T := TX1) (N := 9) hx hb htl inX1 hown hK hP 0 rfl rfl 5 (by decide) (htl _ flX1_47) (fun _ h9 => h9) rfl dX1_longest_6 ?_
      refine lv_icmp_ge (tgt := 47) hx hb dX1_longest_9 (by decide) (fun c_1 => ?_) (fun c_1 => ?_)
      · rw [nI_leI (by omega) (by omega)] at c_1
        refine lv_iload_n hx hb dX1_longest_47 rfl (lv_at hl 1 rfl) ?_
        exact ru_iret hx hb hr hlocks (by rw [hinv, Nat.le_antisymm hi c_1]) dX1_longest_48
      · rw [nI_leI (by omega) (by omega), Nat.not_le] at c_1
        refine lv_aload_n hx hb dX1_longest_12 rfl (lv_at hl 0 rfl) ?_
        refine lv_iload_n hx hb dX1_longest_13 rfl (lv_at hl 2 rfl) ?_
        refine ru_calli (va_runV (As := [.int (nI i)]) (rest := []) ⟨hx, hb, hml, hown, htl⟩ (c_X1_covers l dC dI i _ (by omega) (hg _ (by omega)) hP) (cwV 1 htl gX1_58 rfl rfl rfl hd_X1_covers ⟨Nat.le_of_ble_eq_true rfl, Nat.le_of_ble_eq_true rfl⟩) ⟨fb_ro, va_recv hK hP (ci := 1) (q0 := 0) rfl rfl, fun U hU hW => ⟨rfl, hU, va_K.moved hW.alike hK⟩⟩ rfl rfl hl.1 rfl (lv_room (Nat.le_of_ble_eq_true rfl)) dX1_longest_14 ⟨Nat.le_of_ble_eq_true rfl, Nat.le_of_ble_eq_true rfl⟩) ?_
        refine lv_if_eq (tgt := 39) hx hb dX1_longest_17 (by decide) (fun c_2 => ?_) (fun c_2 => ?_)
        · rw [b2i_0] at c_2
          refine lv_iload_n hx hb dX1_longest_39 rfl (lv_at hl 1 rfl) ?_
          refine lv_istore_n (lv' := [(1, .int y), (0, .ref x), (2, .int (nI i))]) hx hb dX1_longest_40 rfl hl (by decide) rfl (fun ls hl => ?_)
          refine lv_iinc (v := nI (i + 1)) (lv' := [(2, .int (nI (i + 1))), (1, .int y), (0, .ref x)]) hx hb dX1_longest_41 hl (k := 2) rfl (by first | rfl | exact nI_1 _) (by decide) rfl (fun ls hl => ?_)
          refine lv_goto (tgt := 4) hx hb dX1_longest_44 (by decide) ?_
          exact ih (i + 1) y c_1 (by omega) (by subst hinv; simp [kb_lg, c_2]) ls (lv_sub hl [2, 1, 0] rfl)
        · rw [b2i_0, Bool.not_eq_false] at c_2
          refine lv_aload_n hx hb dX1_longest_20 rfl (lv_at hl 0 rfl) ?_
          refine va_get (D := (dC, dI)) (ci := 1) (v := .ref a2) (C := RX1) (T := TX1) (N := 9) hx hb htl inX1 hown hK hP 0 rfl rfl 1 (by decide) (htl _ flX1_13) (fun _ h9 => h9) rfl dX1_longest_21 ?_
          refine lv_iload_n hx hb dX1_longest_24 rfl (lv_at hl 2 rfl) ?_
          refine ld_i hx hb hK hP 2 1 rfl rfl (j := i) (by omega) (Nat.le_of_ble_eq_true rfl) dX1_longest_25 ?_
          refine lv_iload_n hx hb dX1_longest_26 rfl (lv_at hl 1 rfl) ?_
          refine lv_icmp_le (tgt := 39) hx hb dX1_longest_27 (by decide) (fun c_3 => ?_) (fun c_3 => ?_)
          · refine lv_iload_n hx hb dX1_longest_39 rfl (lv_at hl 1 rfl) ?_
            refine lv_istore_n (lv' := [(1, .int y), (0, .ref x), (2, .int (nI i))]) hx hb dX1_longest_40 rfl hl (by decide) rfl (fun ls hl => ?_)
            refine lv_iinc (v := nI (i + 1)) (lv' := [(2, .int (nI (i + 1))), (1, .int y), (0, .ref x)]) hx hb dX1_longest_41 hl (k := 2) rfl (by first | rfl | exact nI_1 _) (by decide) rfl (fun ls hl => ?_)
            refine lv_goto (tgt := 4) hx hb dX1_longest_44 (by decide) ?_
            exact ih (i + 1) y c_1 (by omega) (by subst hinv; simp [kb_lg, c_2, c_3]) ls (lv_sub hl [2, 1, 0] rfl)
          · refine lv_aload_n hx hb dX1_longest_30 rfl (lv_at hl 0 rfl) ?_
            refine va_get (D := (dC, dI)) (ci := 1) (v := .ref a2) (C := RX1) (T := TX1) (N := 9) hx hb htl inX1 hown hK hP 0 rfl rfl 1 (by decide) (htl _ flX1_13) (fun _ h9 => h9) rfl dX1_longest_31 ?_
            refine lv_iload_n hx hb dX1_longest_34 rfl (lv_at hl 2 rfl) ?_
            refine ld_i hx hb hK hP 2 1 rfl rfl (j := i) (by omega) (Nat.le_of_ble_eq_true rfl) dX1_longest_35 ?_
            refine lv_goto (tgt := 40) hx hb dX1_longest_36 (by decide) ?_
            refine lv_istore_n (lv' := [(1, .int (g i)), (0, .ref x), (2, .int (nI i))]) hx hb dX1_longest_40 rfl hl (by decide) rfl (fun ls hl => ?_)
            refine lv_iinc (v := nI (i + 1)) (lv' := [(2, .int (nI (i + 1))), (1, .int (g i)), (0, .ref x)]) hx hb dX1_longest_41 hl (k := 2) rfl (by first | rfl | exact nI_1 _) (by decide) rfl (fun ls hl => ?_)
            refine lv_goto (tgt := 4) hx hb dX1_longest_44 (by decide) ?_
            exact ih (i + 1) (g i) c_1 (by omega) (by subst hinv; simp [kb_lg, c_2, c_3]) ls (lv_sub hl [2, 1, 0] rfl)
  refine lv_iconst (v := (-1)) hx hb dX1_longest_0 (by decide) ?_
  refine lv_istore_n (lv' := [(1, .int (-1)), (0, .ref x)]) hx hb dX1_longest_1 rfl hl (by decide) rfl (fun ls hl => ?_)
  refine lv_iconst (v := nI 0) hx hb dX1_longest_2 (by decide) ?_
  refine lv_istore_n (lv' := [(2, .int (nI 0)), (1, .int (-1)), (0, .ref x)]) hx hb dX1_longest_3 rfl hl (by decide) rfl (fun ls hl => ?_)
  exact loop (k + 1) 0 (-1) (Nat.zero_le k) (by omega) rfl ls (lv_sub hl [2, 1, 0] rfl)
set_option maxHeartbeats 4000000 in
set_option maxRecDepth 100000 in
theorem c_X1_covering (l : Launch) (dC : Nat → ClassId) (dI : Nat → Nat → Nat) {x a1 a2 a3 a4 a5 : Nat} {k1 k2 k3 k4 k5 : ClassId} {f : Nat → Int32} {u w : Nat → Int64} {g n : Nat → Int32} {k : Nat} {mf : Int32} {mu ml : Int64}  (Hh : Heap) (hk : k ≤ 1000) (hg : ∀ j, j < k → g j = nI (g j).toNatClampNeg ∧ (g j).toNatClampNeg ≤ 128) (hP : va_P (dC, dI) classes (mdw x a1 a2 a3 a4 a5 k1 k2 k3 k4 k5 f u w g n k mf mu ml) Hh) : Met l yX1_covering (ww yX1_covering cX1_covering 3 (some .int)) ({ frames := 2, cells := 0, slots := 0, locals := 48 } : Room) (va_Pc [.ref x] (fun U => U.heap = Hh ∧ va_K (dC, dI) classes (mdt k1 k2 k3 k4 k5) U)) (va_Qi (fun r (_ : Unit) => r = (nI (kb_cv (md_cov f u w g mf mu ml) k))) (fun _ t => t.heap = Hh) (fun _ => False)) 0 0 (fun _ => False) := by
  refine Met.ofW (cc := cX1_covering) (maxL := 3) (ret := (some .int)) (by decide) rfl ?_
  intro p e s m args below meth c s₁ B hml hv
  obtain ⟨rfl, hHh, hK⟩ := hv
  subst hHh
  have hx := B.exec
  have hb := B.bytes
  have hr := B.returns
  have hts := atoms_spec (ws := ww yX1_covering cX1_covering 3 (some .int)) B.pre
  have htl : ∀ w ∈ ltg, w.before [.ref x].toArray s = true := fun w h => hts w (List.mem_cons_of_mem _ h)
  have hown : s.vm.findClass RX1 = some m.cls := findClass_of_methodNamed B.named
  have hlocks := B.notSynchronized
  have hl := lv_entry ([.ref x]) (n := 3) (Nat.le_of_ble_eq_true rfl)
  rw [lg_entry_eq]
  generalize (lg_sl ([.ref x]) ++ List.replicate (3 - (lg_sl ([.ref x])).length) Slot.unset).toArray = ls at hl ⊢
  have hl : lv_has ls 3 [(0, .ref x)] := hl
  have loop : ∀  (d i : Nat) (z : Nat), i ≤ k → k + 1 ≤ i + d → z = kb_cv (md_cov f u w g mf mu ml) i → ∀ (ls : Array Slot), lv_has ls 3 [(0, .ref x), (1, .int (nI z)), (2, .int (nI i))] → W p l e ({ frames := 2, cells := 0, slots := 0, locals := 48 } : Room) s m ([.ref x] : List Value).toArray below meth c s.heap [] 0 0 (MQ below (va_Qi (fun r (_ : Unit) => r = (nI (kb_cv (md_cov f u w g mf mu ml) k))) (fun _ t => t.heap = s.heap) (fun _ => False)) [.ref x].toArray s 0 0 (fun _ => False)) (F0 m 4 ls []) := by
    intro d
    induction d with
    | zero => intro i z hi hd; exact absurd hd (by omega)
    | succ d ih =>
      intro i z hi hd hinv ls hl
      refine lv_iload_n hx hb dX1_covering_4 rfl (lv_at hl 2 rfl) ?_
      refine lv_aload_n hx hb dX1_covering_5 rfl (lv_at hl 0 rfl) ?_
      refine va_get (D := (dC, dI)) (ci := 1) (v := .int (nI k)) (C := RX1) (T := TX1) (N := 9) hx hb htl inX1 hown hK hP 0 rfl rfl 5 (by decide) (htl _ flX1_47) (fun _ h9 => h9) rfl dX1_covering_6 ?_
      refine lv_icmp_ge (tgt := 34) hx hb dX1_covering_9 (by decide) (fun c_1 => ?_) (fun c_1 => ?_)
      · rw [nI_leI (by omega) (by omega)] at c_1
        refine lv_iload_n hx hb dX1_covering_34 rfl (lv_at hl 1 rfl) ?_
        exact ru_iret hx hb hr hlocks (by rw [hinv, Nat.le_antisymm hi c_1]) dX1_covering_35
      · rw [nI_leI (by omega) (by omega), Nat.not_le] at c_1
        refine lv_iload_n hx hb dX1_covering_12 rfl (lv_at hl 1 rfl) ?_
        refine lv_aload_n hx hb dX1_covering_13 rfl (lv_at hl 0 rfl) ?_
        refine lv_iload_n hx hb dX1_covering_14 rfl (lv_at hl 2 rfl) ?_
        refine ru_calli (va_runV (As := [.int (nI i)]) (rest := [.int (nI z)]) ⟨hx, hb, hml, hown, htl⟩ (c_X1_covers l dC dI i _ (by omega) (hg _ (by omega)) hP) (cwV 1 htl gX1_58 rfl rfl rfl hd_X1_covers ⟨Nat.le_of_ble_eq_true rfl, Nat.le_of_ble_eq_true rfl⟩) ⟨fb_ro, va_recv hK hP (ci := 1) (q0 := 0) rfl rfl, fun U hU hW => ⟨rfl, hU, va_K.moved hW.alike hK⟩⟩ rfl rfl hl.1 rfl (lv_room (Nat.le_of_ble_eq_true rfl)) dX1_covering_15 ⟨Nat.le_of_ble_eq_true rfl, Nat.le_of_ble_eq_true rfl⟩) ?_
        refine lv_if_eq (tgt := 25) hx hb dX1_covering_18 (by decide) (fun c_2 => ?_) (fun c_2 => ?_)
        · rw [b2i_0] at c_2
          refine lv_iconst (v := 0) hx hb dX1_covering_25 (by decide) ?_
          refine lv_iadd hx hb dX1_covering_26 ?_
          refine tp_i (Int32.add_zero _) ?_
          refine lv_istore_n (lv' := [(1, .int (nI z)), (0, .ref x), (2, .int (nI i))]) hx hb dX1_covering_27 rfl hl (by decide) rfl (fun ls hl => ?_)
          refine lv_iinc (v := nI (i + 1)) (lv' := [(2, .int (nI (i + 1))), (1, .int (nI z)), (0, .ref x)]) hx hb dX1_covering_28 hl (k := 2) rfl (by first | rfl | exact nI_1 _) (by decide) rfl (fun ls hl => ?_)
          refine lv_goto (tgt := 4) hx hb dX1_covering_31 (by decide) ?_
          exact ih (i + 1) z c_1 (by omega) (by subst hinv; simp [kb_cv, c_2]) ls (lv_sub hl [2, 1, 0] rfl)
        · rw [b2i_0, Bool.not_eq_false] at c_2
          refine lv_iconst (v := 1) hx hb dX1_covering_21 (by decide) ?_
          refine lv_goto (tgt := 26) hx hb dX1_covering_22 (by decide) ?_
          refine lv_iadd hx hb dX1_covering_26 ?_
          refine tp_i (nI_1 z) ?_
          refine lv_istore_n (lv' := [(1, .int (nI (z + 1))), (0, .ref x), (2, .int (nI i))]) hx hb dX1_covering_27 rfl hl (by decide) rfl (fun ls hl => ?_)
          refine lv_iinc (v := nI (i + 1)) (lv' := [(2, .int (nI (i + 1))), (1, .int (nI (z + 1))), (0, .ref x)]) hx hb dX1_covering_28 hl (k := 2) rfl (by first | rfl | exact nI_1 _) (by decide) rfl (fun ls hl => ?_)
          refine lv_goto (tgt := 4) hx hb dX1_covering_31 (by decide) ?_
          exact ih (i + 1) (z + 1) c_1 (by omega) (by subst hinv; simp [kb_cv, c_2]) ls (lv_sub hl [2, 1, 0] rfl)
  refine lv_iconst (v := nI 0) hx hb dX1_covering_0 (by decide) ?_
  refine lv_istore_n (lv' := [(1, .int (nI 0)), (0, .ref x)]) hx hb dX1_covering_1 rfl hl (by decide) rfl (fun ls hl => ?_)
  refine lv_iconst (v := nI 0) hx hb dX1_covering_2 (by decide) ?_
  refine lv_istore_n (lv' := [(2, .int (nI 0)), (1, .int (nI 0)), (0, .ref x)]) hx hb dX1_covering_3 rfl hl (by decide) rfl (fun ls hl => ?_)
  exact loop (k + 1) 0 0 (Nat.zero_le k) (by omega) rfl ls (lv_sub hl [2, 1, 0] rfl)
set_option maxHeartbeats 4000000 in
set_option maxRecDepth 100000 in
theorem c_X1_isAhead (l : Launch) (dC : Nat → ClassId) (dI : Nat → Nat → Nat) {x a1 a2 a3 a4 a5 : Nat} {k1 k2 k3 k4 k5 : ClassId} {f : Nat → Int32} {u w : Nat → Int64} {g n : Nat → Int32} {k : Nat} {mf : Int32} {mu ml : Int64} (j : Nat) (fa : Int32) (up lo : Int64) (le : Int32) (Hh : Heap) (hj : j < 1000) (hP : va_P (dC, dI) classes (mdw x a1 a2 a3 a4 a5 k1 k2 k3 k4 k5 f u w g n k mf mu ml) Hh) : Met l yX1_isAhead (ww yX1_isAhead cX1_isAhead 10 (some .boolean)) ({ frames := 1, cells := 0, slots := 0, locals := 27 } : Room) (va_Pc [.ref x, .int (nI j), .int fa, .long up, .long lo, .int le] (fun U => U.heap = Hh ∧ va_K (dC, dI) classes (mdt k1 k2 k3 k4 k5) U)) (va_Qi (fun r (_ : Unit) => r = (b2i (md_ah f u w g fa up lo le j))) (fun _ t => t.heap = Hh) (fun _ => False)) 0 0 (fun _ => False) := by
  refine Met.ofW (cc := cX1_isAhead) (maxL := 10) (ret := (some .boolean)) (by decide) rfl ?_
  intro p e s m args below meth c s₁ B hml hv
  obtain ⟨rfl, hHh, hK⟩ := hv
  subst hHh
  have hx := B.exec
  have hb := B.bytes
  have hr := B.returns
  have hts := atoms_spec (ws := ww yX1_isAhead cX1_isAhead 10 (some .boolean)) B.pre
  have htl : ∀ w ∈ ltg, w.before [.ref x, .int (nI j), .int fa, .long up, .long lo, .int le].toArray s = true := fun w h => hts w (List.mem_cons_of_mem _ h)
  have hown : s.vm.findClass RX1 = some m.cls := findClass_of_methodNamed B.named
  have hlocks := B.notSynchronized
  have hl := lv_entry ([.ref x, .int (nI j), .int fa, .long up, .long lo, .int le]) (n := 10) (Nat.le_of_ble_eq_true rfl)
  rw [lg_entry_eq]
  generalize (lg_sl ([.ref x, .int (nI j), .int fa, .long up, .long lo, .int le]) ++ List.replicate (10 - (lg_sl ([.ref x, .int (nI j), .int fa, .long up, .long lo, .int le])).length) Slot.unset).toArray = ls at hl ⊢
  have hl : lv_has ls 10 [(0, .ref x), (1, .int (nI j)), (2, .int fa), (3, .long up), (5, .long lo), (7, .int le)] := hl
  refine lv_aload_n hx hb dX1_isAhead_0 rfl (lv_at hl 0 rfl) ?_
  refine va_get (D := (dC, dI)) (ci := 1) (v := .ref a1) (C := RX1) (T := TX1) (N := 9) hx hb htl inX1 hown hK hP 0 rfl rfl 0 (by decide) (htl _ flX1_7) (fun _ h9 => h9) rfl dX1_isAhead_1 ?_
  refine lv_iload_n hx hb dX1_isAhead_4 rfl (lv_at hl 1 rfl) ?_
  refine ld_i hx hb hK hP 1 0 rfl rfl (j := j) (by omega) (Nat.le_of_ble_eq_true rfl) dX1_isAhead_5 ?_
  refine lv_iload_n hx hb dX1_isAhead_6 rfl (lv_at hl 2 rfl) ?_
  refine lv_icmp_eq (tgt := 26) hx hb dX1_isAhead_7 (by decide) (fun c_1 => ?_) (fun c_1 => ?_)
  · refine lv_aload_n hx hb dX1_isAhead_26 rfl (lv_at hl 0 rfl) ?_
    refine va_get (D := (dC, dI)) (ci := 1) (v := .ref a4) (C := RX1) (T := TX1) (N := 9) hx hb htl inX1 hown hK hP 0 rfl rfl 3 (by decide) (htl _ flX1_19) (fun _ h9 => h9) rfl dX1_isAhead_27 ?_
    refine lv_iload_n hx hb dX1_isAhead_30 rfl (lv_at hl 1 rfl) ?_
    refine ld_l hx hb hK hP 4 3 rfl rfl (j := j) (by omega) (Nat.le_of_ble_eq_true rfl) dX1_isAhead_31 ?_
    refine lv_lload_n hx hb dX1_isAhead_32 rfl (lv_at hl 3 rfl) ?_
    refine ru_calli (va_runS (As := [.long (u j), .long up]) (rest := []) ⟨hx, hb, hml, hown, htl⟩ (c_X1_compare l dC dI (u j) up _) (cwS 2 htl gX1_63 rfl rfl rfl hd_X1_compare ⟨Nat.le_of_ble_eq_true rfl, Nat.le_of_ble_eq_true rfl⟩) ⟨fb_ro, fun U hU hW => ⟨rfl, hU, va_K.moved hW.alike hK⟩⟩ rfl rfl hl.1 rfl (lv_room (Nat.le_of_ble_eq_true rfl)) dX1_isAhead_33 ⟨Nat.le_of_ble_eq_true rfl, Nat.le_of_ble_eq_true rfl⟩) ?_
    refine lv_istore (lv' := [(8, .int (md_cmp (u j) up)), (0, .ref x), (1, .int (nI j)), (2, .int fa), (3, .long up), (5, .long lo), (7, .int le)]) hx hb dX1_isAhead_36 hl (by decide) rfl (fun ls hl => ?_)
    refine lv_iload hx hb dX1_isAhead_38 (lv_at hl 0 rfl) ?_
    refine lv_if_ne (tgt := 57) hx hb dX1_isAhead_40 (by decide) (fun c_2 => ?_) (fun c_2 => ?_)
    · refine lv_iload hx hb dX1_isAhead_57 (lv_at hl 0 rfl) ?_
      refine lv_istore (lv' := [(9, .int (md_cmp (u j) up)), (8, .int (md_cmp (u j) up)), (0, .ref x), (1, .int (nI j)), (2, .int fa), (3, .long up), (5, .long lo), (7, .int le)]) hx hb dX1_isAhead_59 hl (by decide) rfl (fun ls hl => ?_)
      refine lv_iload hx hb dX1_isAhead_61 (lv_at hl 0 rfl) ?_
      refine lv_if_lt (tgt := 82) hx hb dX1_isAhead_63 (by decide) (fun c_3 => ?_) (fun c_3 => ?_)
      · refine lv_iconst (v := 1) hx hb dX1_isAhead_82 (by decide) ?_
        refine lv_goto (tgt := 87) hx hb dX1_isAhead_83 (by decide) ?_
        exact ru_zret hx hb hr hlocks (by first | exact absurd c_4 c_2 | simp [md_ah, md_low, b2i, c_1, c_2, c_3]) rfl dX1_isAhead_87
      · refine lv_iload hx hb dX1_isAhead_66 (lv_at hl 0 rfl) ?_
        refine lv_if_ne (tgt := 86) hx hb dX1_isAhead_68 (by decide) (fun c_4 => ?_) (fun c_4 => ?_)
        · refine lv_iconst (v := 0) hx hb dX1_isAhead_86 (by decide) ?_
          exact ru_zret hx hb hr hlocks (by first | exact absurd c_4 c_2 | simp [md_ah, md_low, b2i, c_1, c_2, c_3, c_4]) rfl dX1_isAhead_87
        · refine lv_aload_n hx hb dX1_isAhead_71 rfl (lv_at hl 2 rfl) ?_
          refine va_get (D := (dC, dI)) (ci := 1) (v := .ref a2) (C := RX1) (T := TX1) (N := 9) hx hb htl inX1 hown hK hP 0 rfl rfl 1 (by decide) (htl _ flX1_13) (fun _ h9 => h9) rfl dX1_isAhead_72 ?_
          refine lv_iload_n hx hb dX1_isAhead_75 rfl (lv_at hl 3 rfl) ?_
          refine ld_i hx hb hK hP 2 1 rfl rfl (j := j) (by omega) (Nat.le_of_ble_eq_true rfl) dX1_isAhead_76 ?_
          refine lv_iload hx hb dX1_isAhead_77 (lv_at hl 7 rfl) ?_
          refine lv_icmp_ge (tgt := 86) hx hb dX1_isAhead_79 (by decide) (fun c_5 => ?_) (fun c_5 => ?_)
          · refine lv_iconst (v := 0) hx hb dX1_isAhead_86 (by decide) ?_
            exact ru_zret hx hb hr hlocks (by first | exact absurd c_4 c_2 | simp [md_ah, md_low, b2i, c_1, c_2, c_3, c_4, c_5]) rfl dX1_isAhead_87
          · refine lv_iconst (v := 1) hx hb dX1_isAhead_82 (by decide) ?_
            refine lv_goto (tgt := 87) hx hb dX1_isAhead_83 (by decide) ?_
            exact ru_zret hx hb hr hlocks (by first | exact absurd c_4 c_2 | simp [md_ah, md_low, b2i, c_1, c_2, c_3, c_4, c_5]) rfl dX1_isAhead_87
    · refine lv_aload_n hx hb dX1_isAhead_43 rfl (lv_at hl 1 rfl) ?_
      refine va_get (D := (dC, dI)) (ci := 1) (v := .ref a5) (C := RX1) (T := TX1) (N := 9) hx hb htl inX1 hown hK hP 0 rfl rfl 4 (by decide) (htl _ flX1_23) (fun _ h9 => h9) rfl dX1_isAhead_44 ?_
      refine lv_iload_n hx hb dX1_isAhead_47 rfl (lv_at hl 2 rfl) ?_
      refine ld_l hx hb hK hP 5 4 rfl rfl (j := j) (by omega) (Nat.le_of_ble_eq_true rfl) dX1_isAhead_48 ?_
      refine lv_lload hx hb dX1_isAhead_49 (lv_at hl 5 rfl) ?_
      refine ru_calli (va_runS (As := [.long (w j), .long lo]) (rest := []) ⟨hx, hb, hml, hown, htl⟩ (c_X1_compare l dC dI (w j) lo _) (cwS 2 htl gX1_63 rfl rfl rfl hd_X1_compare ⟨Nat.le_of_ble_eq_true rfl, Nat.le_of_ble_eq_true rfl⟩) ⟨fb_ro, fun U hU hW => ⟨rfl, hU, va_K.moved hW.alike hK⟩⟩ rfl rfl hl.1 rfl (lv_room (Nat.le_of_ble_eq_true rfl)) dX1_isAhead_51 ⟨Nat.le_of_ble_eq_true rfl, Nat.le_of_ble_eq_true rfl⟩) ?_
      refine lv_goto (tgt := 59) hx hb dX1_isAhead_54 (by decide) ?_
      refine lv_istore (lv' := [(9, .int (md_cmp (w j) lo)), (8, .int (md_cmp (u j) up)), (0, .ref x), (1, .int (nI j)), (2, .int fa), (3, .long up), (5, .long lo), (7, .int le)]) hx hb dX1_isAhead_59 hl (by decide) rfl (fun ls hl => ?_)
      refine lv_iload hx hb dX1_isAhead_61 (lv_at hl 0 rfl) ?_
      refine lv_if_lt (tgt := 82) hx hb dX1_isAhead_63 (by decide) (fun c_6 => ?_) (fun c_6 => ?_)
      · refine lv_iconst (v := 1) hx hb dX1_isAhead_82 (by decide) ?_
        refine lv_goto (tgt := 87) hx hb dX1_isAhead_83 (by decide) ?_
        exact ru_zret hx hb hr hlocks (by first | exact absurd c_4 c_2 | simp [md_ah, md_low, b2i, c_1, c_2, c_6]) rfl dX1_isAhead_87
      · refine lv_iload hx hb dX1_isAhead_66 (lv_at hl 0 rfl) ?_
        refine lv_if_ne (tgt := 86) hx hb dX1_isAhead_68 (by decide) (fun c_7 => ?_) (fun c_7 => ?_)
        · refine lv_iconst (v := 0) hx hb dX1_isAhead_86 (by decide) ?_
          exact ru_zret hx hb hr hlocks (by first | exact absurd c_4 c_2 | simp [md_ah, md_low, b2i, c_1, c_2, c_6, c_7]) rfl dX1_isAhead_87
        · refine lv_aload_n hx hb dX1_isAhead_71 rfl (lv_at hl 2 rfl) ?_
          refine va_get (D := (dC, dI)) (ci := 1) (v := .ref a2) (C := RX1) (T := TX1) (N := 9) hx hb htl inX1 hown hK hP 0 rfl rfl 1 (by decide) (htl _ flX1_13) (fun _ h9 => h9) rfl dX1_isAhead_72 ?_
          refine lv_iload_n hx hb dX1_isAhead_75 rfl (lv_at hl 3 rfl) ?_
          refine ld_i hx hb hK hP 2 1 rfl rfl (j := j) (by omega) (Nat.le_of_ble_eq_true rfl) dX1_isAhead_76 ?_
          refine lv_iload hx hb dX1_isAhead_77 (lv_at hl 7 rfl) ?_
          refine lv_icmp_ge (tgt := 86) hx hb dX1_isAhead_79 (by decide) (fun c_8 => ?_) (fun c_8 => ?_)
          · refine lv_iconst (v := 0) hx hb dX1_isAhead_86 (by decide) ?_
            exact ru_zret hx hb hr hlocks (by first | exact absurd c_4 c_2 | simp [md_ah, md_low, b2i, c_1, c_2, c_6, c_7, c_8]) rfl dX1_isAhead_87
          · refine lv_iconst (v := 1) hx hb dX1_isAhead_82 (by decide) ?_
            refine lv_goto (tgt := 87) hx hb dX1_isAhead_83 (by decide) ?_
            exact ru_zret hx hb hr hlocks (by first | exact absurd c_4 c_2 | simp [md_ah, md_low, b2i, c_1, c_2, c_6, c_7, c_8]) rfl dX1_isAhead_87
  · refine lv_aload_n hx hb dX1_isAhead_10 rfl (lv_at hl 0 rfl) ?_
    refine va_get (D := (dC, dI)) (ci := 1) (v := .ref a1) (C := RX1) (T := TX1) (N := 9) hx hb htl inX1 hown hK hP 0 rfl rfl 0 (by decide) (htl _ flX1_7) (fun _ h9 => h9) rfl dX1_isAhead_11 ?_
    refine lv_iload_n hx hb dX1_isAhead_14 rfl (lv_at hl 1 rfl) ?_
    refine ld_i hx hb hK hP 1 0 rfl rfl (j := j) (by omega) (Nat.le_of_ble_eq_true rfl) dX1_isAhead_15 ?_
    refine lv_iload_n hx hb dX1_isAhead_16 rfl (lv_at hl 2 rfl) ?_
    refine lv_icmp_ge (tgt := 24) hx hb dX1_isAhead_17 (by decide) (fun c_9 => ?_) (fun c_9 => ?_)
    · refine lv_iconst (v := 0) hx hb dX1_isAhead_24 (by decide) ?_
      exact ru_zret hx hb hr hlocks (by first | exact absurd c_4 c_2 | simp [md_ah, md_low, b2i, c_1, c_9]) rfl dX1_isAhead_25
    · refine lv_iconst (v := 1) hx hb dX1_isAhead_20 (by decide) ?_
      refine lv_goto (tgt := 25) hx hb dX1_isAhead_21 (by decide) ?_
      exact ru_zret hx hb hr hlocks (by first | exact absurd c_4 c_2 | simp [md_ah, md_low, b2i, c_1, c_9]) rfl dX1_isAhead_25
set_option maxHeartbeats 4000000 in
set_option maxRecDepth 100000 in
theorem c_X1_countAhead (l : Launch) (dC : Nat → ClassId) (dI : Nat → Nat → Nat) {x a1 a2 a3 a4 a5 : Nat} {k1 k2 k3 k4 k5 : ClassId} {f : Nat → Int32} {u w : Nat → Int64} {g n : Nat → Int32} {k : Nat} {mf : Int32} {mu ml : Int64} (fa : Int32) (up lo : Int64) (le : Int32) (Hh : Heap) (hk : k ≤ 1000) (hP : va_P (dC, dI) classes (mdw x a1 a2 a3 a4 a5 k1 k2 k3 k4 k5 f u w g n k mf mu ml) Hh) : Met l yX1_countAhead (ww yX1_countAhead cX1_countAhead 9 (some .int)) ({ frames := 2, cells := 0, slots := 0, locals := 56 } : Room) (va_Pc [.ref x, .int fa, .long up, .long lo, .int le] (fun U => U.heap = Hh ∧ va_K (dC, dI) classes (mdt k1 k2 k3 k4 k5) U)) (va_Qi (fun r (_ : Unit) => r = (nI (kb_cv (md_ah f u w g fa up lo le) k))) (fun _ t => t.heap = Hh) (fun _ => False)) 0 0 (fun _ => False) := by
  refine Met.ofW (cc := cX1_countAhead) (maxL := 9) (ret := (some .int)) (by decide) rfl ?_
  intro p e s m args below meth c s₁ B hml hv
  obtain ⟨rfl, hHh, hK⟩ := hv
  subst hHh
  have hx := B.exec
  have hb := B.bytes
  have hr := B.returns
  have hts := atoms_spec (ws := ww yX1_countAhead cX1_countAhead 9 (some .int)) B.pre
  have htl : ∀ w ∈ ltg, w.before [.ref x, .int fa, .long up, .long lo, .int le].toArray s = true := fun w h => hts w (List.mem_cons_of_mem _ h)
  have hown : s.vm.findClass RX1 = some m.cls := findClass_of_methodNamed B.named
  have hlocks := B.notSynchronized
  have hl := lv_entry ([.ref x, .int fa, .long up, .long lo, .int le]) (n := 9) (Nat.le_of_ble_eq_true rfl)
  rw [lg_entry_eq]
  generalize (lg_sl ([.ref x, .int fa, .long up, .long lo, .int le]) ++ List.replicate (9 - (lg_sl ([.ref x, .int fa, .long up, .long lo, .int le])).length) Slot.unset).toArray = ls at hl ⊢
  have hl : lv_has ls 9 [(0, .ref x), (1, .int fa), (2, .long up), (4, .long lo), (6, .int le)] := hl
  have loop : ∀  (d i : Nat) (z : Nat), i ≤ k → k + 1 ≤ i + d → z = kb_cv (md_ah f u w g fa up lo le) i → ∀ (ls : Array Slot), lv_has ls 9 [(0, .ref x), (1, .int fa), (2, .long up), (4, .long lo), (6, .int le), (7, .int (nI z)), (8, .int (nI i))] → W p l e ({ frames := 2, cells := 0, slots := 0, locals := 56 } : Room) s m ([.ref x, .int fa, .long up, .long lo, .int le] : List Value).toArray below meth c s.heap [] 0 0 (MQ below (va_Qi (fun r (_ : Unit) => r = (nI (kb_cv (md_ah f u w g fa up lo le) k))) (fun _ t => t.heap = s.heap) (fun _ => False)) [.ref x, .int fa, .long up, .long lo, .int le].toArray s 0 0 (fun _ => False)) (F0 m 6 ls []) := by
    intro d
    induction d with
    | zero => intro i z hi hd; exact absurd hd (by omega)
    | succ d ih =>
      intro i z hi hd hinv ls hl
      refine lv_iload hx hb dX1_countAhead_6 (lv_at hl 6 rfl) ?_
      refine lv_aload_n hx hb dX1_countAhead_8 rfl (lv_at hl 0 rfl) ?_
      refine va_get (D := (dC, dI)) (ci := 1) (v := .int (nI k)) (C := RX1) (T := TX1) (N := 9) hx hb htl inX1 hown hK hP 0 rfl rfl 5 (by decide) (htl _ flX1_47) (fun _ h9 => h9) rfl dX1_countAhead_9 ?_
      refine lv_icmp_ge (tgt := 46) hx hb dX1_countAhead_12 (by decide) (fun c_1 => ?_) (fun c_1 => ?_)
      · rw [nI_leI (by omega) (by omega)] at c_1
        refine lv_iload hx hb dX1_countAhead_46 (lv_at hl 5 rfl) ?_
        exact ru_iret hx hb hr hlocks (by rw [hinv, Nat.le_antisymm hi c_1]) dX1_countAhead_48
      · rw [nI_leI (by omega) (by omega), Nat.not_le] at c_1
        refine lv_iload hx hb dX1_countAhead_15 (lv_at hl 5 rfl) ?_
        refine lv_aload_n hx hb dX1_countAhead_17 rfl (lv_at hl 0 rfl) ?_
        refine lv_iload hx hb dX1_countAhead_18 (lv_at hl 6 rfl) ?_
        refine lv_iload_n hx hb dX1_countAhead_20 rfl (lv_at hl 1 rfl) ?_
        refine lv_lload_n hx hb dX1_countAhead_21 rfl (lv_at hl 2 rfl) ?_
        refine lv_lload hx hb dX1_countAhead_22 (lv_at hl 3 rfl) ?_
        refine lv_iload hx hb dX1_countAhead_24 (lv_at hl 4 rfl) ?_
        refine ru_calli (va_runV (As := [.int (nI i), .int fa, .long up, .long lo, .int le]) (rest := [.int (nI z)]) ⟨hx, hb, hml, hown, htl⟩ (c_X1_isAhead l dC dI i fa up lo le _ (by omega) hP) (cwV 5 htl gX1_67 rfl rfl rfl hd_X1_isAhead ⟨Nat.le_of_ble_eq_true rfl, Nat.le_of_ble_eq_true rfl⟩) ⟨fb_ro, va_recv hK hP (ci := 1) (q0 := 0) rfl rfl, fun U hU hW => ⟨rfl, hU, va_K.moved hW.alike hK⟩⟩ rfl rfl hl.1 rfl (lv_room (Nat.le_of_ble_eq_true rfl)) dX1_countAhead_26 ⟨Nat.le_of_ble_eq_true rfl, Nat.le_of_ble_eq_true rfl⟩) ?_
        refine lv_if_eq (tgt := 36) hx hb dX1_countAhead_29 (by decide) (fun c_2 => ?_) (fun c_2 => ?_)
        · rw [b2i_0] at c_2
          refine lv_iconst (v := 0) hx hb dX1_countAhead_36 (by decide) ?_
          refine lv_iadd hx hb dX1_countAhead_37 ?_
          refine tp_i (Int32.add_zero _) ?_
          refine lv_istore (lv' := [(7, .int (nI z)), (0, .ref x), (1, .int fa), (2, .long up), (4, .long lo), (6, .int le), (8, .int (nI i))]) hx hb dX1_countAhead_38 hl (by decide) rfl (fun ls hl => ?_)
          refine lv_iinc (v := nI (i + 1)) (lv' := [(8, .int (nI (i + 1))), (7, .int (nI z)), (0, .ref x), (1, .int fa), (2, .long up), (4, .long lo), (6, .int le)]) hx hb dX1_countAhead_40 hl (k := 6) rfl (by first | rfl | exact nI_1 _) (by decide) rfl (fun ls hl => ?_)
          refine lv_goto (tgt := 6) hx hb dX1_countAhead_43 (by decide) ?_
          exact ih (i + 1) z c_1 (by omega) (by subst hinv; simp [kb_cv, c_2]) ls (lv_sub hl [2, 3, 4, 5, 6, 1, 0] rfl)
        · rw [b2i_0, Bool.not_eq_false] at c_2
          refine lv_iconst (v := 1) hx hb dX1_countAhead_32 (by decide) ?_
          refine lv_goto (tgt := 37) hx hb dX1_countAhead_33 (by decide) ?_
          refine lv_iadd hx hb dX1_countAhead_37 ?_
          refine tp_i (nI_1 z) ?_
          refine lv_istore (lv' := [(7, .int (nI (z + 1))), (0, .ref x), (1, .int fa), (2, .long up), (4, .long lo), (6, .int le), (8, .int (nI i))]) hx hb dX1_countAhead_38 hl (by decide) rfl (fun ls hl => ?_)
          refine lv_iinc (v := nI (i + 1)) (lv' := [(8, .int (nI (i + 1))), (7, .int (nI (z + 1))), (0, .ref x), (1, .int fa), (2, .long up), (4, .long lo), (6, .int le)]) hx hb dX1_countAhead_40 hl (k := 6) rfl (by first | rfl | exact nI_1 _) (by decide) rfl (fun ls hl => ?_)
          refine lv_goto (tgt := 6) hx hb dX1_countAhead_43 (by decide) ?_
          exact ih (i + 1) (z + 1) c_1 (by omega) (by subst hinv; simp [kb_cv, c_2]) ls (lv_sub hl [2, 3, 4, 5, 6, 1, 0] rfl)
  refine lv_iconst (v := nI 0) hx hb dX1_countAhead_0 (by decide) ?_
  refine lv_istore (lv' := [(7, .int (nI 0)), (0, .ref x), (1, .int fa), (2, .long up), (4, .long lo), (6, .int le)]) hx hb dX1_countAhead_1 hl (by decide) rfl (fun ls hl => ?_)
  refine lv_iconst (v := nI 0) hx hb dX1_countAhead_3 (by decide) ?_
  refine lv_istore (lv' := [(8, .int (nI 0)), (7, .int (nI 0)), (0, .ref x), (1, .int fa), (2, .long up), (4, .long lo), (6, .int le)]) hx hb dX1_countAhead_4 hl (by decide) rfl (fun ls hl => ?_)
  exact loop (k + 1) 0 0 (Nat.zero_le k) (by omega) rfl ls (lv_sub hl [2, 3, 4, 5, 6, 1, 0] rfl)
