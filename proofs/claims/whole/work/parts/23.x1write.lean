set_option maxHeartbeats 4000000 in
set_option maxRecDepth 100000 in
theorem c_X1_put (l : Launch) (dC : Nat → ClassId) (dI : Nat → Nat → Nat) {x a1 a2 a3 a4 a5 : Nat} {k1 k2 k3 k4 k5 : ClassId} {f : Nat → Int32} {u w : Nat → Int64} {g n : Nat → Int32} {k : Nat} {mf : Int32} {mu ml : Int64} (le nu : Int32) (A : Nat → Prop) (hk : k ≤ 1000) (hD : va_D A (mdw x a1 a2 a3 a4 a5 k1 k2 k3 k4 k5 f u w g n k mf mu ml)) : Met l yX1_put (ww yX1_put cX1_put 4 (some .int)) ({ frames := 2, cells := 0, slots := 0, locals := 49 } : Room) (va_Pc [.ref x, .int le, .int nu] (fun U => va_P (dC, dI) classes (mdw x a1 a2 a3 a4 a5 k1 k2 k3 k4 k5 f u w g n k mf mu ml) U.heap ∧ va_K (dC, dI) classes (mdt k1 k2 k3 k4 k5) U)) (va_Qi (fun r (_ : Unit) => r = (if md_pre mf mu ml le = true then (if kb_fst (md_ne f u w g mf mu ml le) k 0 < k then (0 : Int32) else if k = 1000 then (-1) else 1) else (-1))) (fun _ t => va_P (dC, dI) classes (if md_pre mf mu ml le = true then (if kb_fst (md_ne f u w g mf mu ml le) k 0 < k then (mdw x a1 a2 a3 a4 a5 k1 k2 k3 k4 k5 f u w g (upd n (kb_fst (md_ne f u w g mf mu ml le) k 0) nu) k mf mu ml) else if k = 1000 then (mdw x a1 a2 a3 a4 a5 k1 k2 k3 k4 k5 f u w g n k mf mu ml) else (mdw x a1 a2 a3 a4 a5 k1 k2 k3 k4 k5 (upd f k mf) (vp_updL u k mu) (vp_updL w k ml) (upd g k le) (upd n k nu) (k + 1) mf mu ml)) else (mdw x a1 a2 a3 a4 a5 k1 k2 k3 k4 k5 f u w g n k mf mu ml)) t.heap) A) 0 0 A := by
  refine Met.ofW (cc := cX1_put) (maxL := 4) (ret := (some .int)) (by decide) rfl ?_
  intro p e s m args below meth c s₁ B hml hv
  obtain ⟨rfl, hP, hK⟩ := hv
  have hS : va_S A s.heap s.heap [] := va_S.rf
  have hx := B.exec
  have hb := B.bytes
  have hr := B.returns
  have hts := atoms_spec (ws := ww yX1_put cX1_put 4 (some .int)) B.pre
  have htl : ∀ w ∈ ltg, w.before [.ref x, .int le, .int nu].toArray s = true := fun w h => hts w (List.mem_cons_of_mem _ h)
  have hown : s.vm.findClass RX1 = some m.cls := findClass_of_methodNamed B.named
  have hlocks := B.notSynchronized
  have hl := lv_entry ([.ref x, .int le, .int nu]) (n := 4) (Nat.le_of_ble_eq_true rfl)
  rw [lg_entry_eq]
  generalize (lg_sl ([.ref x, .int le, .int nu]) ++ List.replicate (4 - (lg_sl ([.ref x, .int le, .int nu])).length) Slot.unset).toArray = ls at hl ⊢
  have hl : lv_has ls 4 [(0, .ref x), (1, .int le), (2, .int nu)] := hl
  refine lv_aload_n hx hb dX1_put_0 rfl (lv_at hl 0 rfl) ?_
  refine lv_iload_n hx hb dX1_put_1 rfl (lv_at hl 1 rfl) ?_
  refine ru_calli (va_runV (As := [.int le]) (rest := []) ⟨hx, hb, hml, hown, htl⟩ (c_X1_isPrefix l dC dI le _ hP) (cwV 1 htl gX1_50 rfl rfl rfl hd_X1_isPrefix ⟨Nat.le_of_ble_eq_true rfl, Nat.le_of_ble_eq_true rfl⟩) ⟨fb_ro, va_recv hK hP (ci := 1) (q0 := 0) rfl rfl, fun U hU hW => ⟨rfl, hU, va_K.moved hW.alike hK⟩⟩ rfl rfl hl.1 rfl (lv_room (Nat.le_of_ble_eq_true rfl)) dX1_put_2 ⟨Nat.le_of_ble_eq_true rfl, Nat.le_of_ble_eq_true rfl⟩) ?_
  refine lv_if_ne (tgt := 10) hx hb dX1_put_5 (by decide) (fun c_1 => ?_) (fun c_1 => ?_)
  · rw [b2i_0, Bool.not_eq_false] at c_1
    refine lv_aload_n hx hb dX1_put_10 rfl (lv_at hl 0 rfl) ?_
    refine lv_iload_n hx hb dX1_put_11 rfl (lv_at hl 1 rfl) ?_
    refine ru_calli (va_runV (As := [.int le]) (rest := []) ⟨hx, hb, hml, hown, htl⟩ (c_X1_find l dC dI le _ hk hP) (cwV 1 htl gX1_53 rfl rfl rfl hd_X1_find ⟨Nat.le_of_ble_eq_true rfl, Nat.le_of_ble_eq_true rfl⟩) ⟨fb_ro, va_recv hK hP (ci := 1) (q0 := 0) rfl rfl, fun U hU hW => ⟨rfl, hU, va_K.moved hW.alike hK⟩⟩ rfl rfl hl.1 rfl (lv_room (Nat.le_of_ble_eq_true rfl)) dX1_put_12 ⟨Nat.le_of_ble_eq_true rfl, Nat.le_of_ble_eq_true rfl⟩) ?_
    by_cases hfk : kb_fst (md_ne f u w g mf mu ml le) k 0 < k
    · refine tp_i (if_pos hfk) ?_
      refine lv_istore_n (lv' := [(3, .int (nI (kb_fst (md_ne f u w g mf mu ml le) k 0))), (0, .ref x), (1, .int le), (2, .int nu)]) hx hb dX1_put_15 rfl hl (by decide) rfl (fun ls hl => ?_)
      refine lv_iload_n hx hb dX1_put_16 rfl (lv_at hl 0 rfl) ?_
      refine lv_iconst (v := (-1)) hx hb dX1_put_17 (by decide) ?_
      refine lv_icmp_eq (tgt := 30) hx hb dX1_put_18 (by decide) (fun c_2 => ?_) (fun c_2 => ?_)
      · exact absurd c_2 (nI_nm1 (by omega))
      · refine lv_aload_n hx hb dX1_put_21 rfl (lv_at hl 1 rfl) ?_
        refine va_get (D := (dC, dI)) (ci := 1) (v := .ref a3) (C := RX1) (T := TX1) (N := 9) hx hb htl inX1 hown hK hP 0 rfl rfl 2 (by decide) (htl _ flX1_16) (fun _ h9 => h9) rfl dX1_put_22 ?_
        refine lv_iload_n hx hb dX1_put_25 rfl (lv_at hl 0 rfl) ?_
        refine lv_iload_n hx hb dX1_put_26 rfl (lv_at hl 3 rfl) ?_
        refine st_i hx hb hK hP hD hS 3 2 rfl rfl (j := (kb_fst (md_ne f u w g mf mu ml le) k 0)) (by omega) (Nat.le_of_ble_eq_true rfl) dX1_put_27 (fun H_3 locs hP hD hS => ?_)
        have hP : va_P (dC, dI) classes [(x, .inr (1, [.ref a1, .ref a2, .ref a3, .ref a4, .ref a5, .int (nI k), .int mf, .long mu, .long ml])), (a1, .inl (k1, 1000, .inl f)), (a2, .inl (k2, 1000, .inl g)), (a3, .inl (k3, 1000, .inl (upd n (kb_fst (md_ne f u w g mf mu ml le) k 0) nu))), (a4, .inl (k4, 1000, .inr (.inl u))), (a5, .inl (k5, 1000, .inr (.inl w)))] H_3 := hP
        have hD : va_D A [(x, .inr (1, [.ref a1, .ref a2, .ref a3, .ref a4, .ref a5, .int (nI k), .int mf, .long mu, .long ml])), (a1, .inl (k1, 1000, .inl f)), (a2, .inl (k2, 1000, .inl g)), (a3, .inl (k3, 1000, .inl (upd n (kb_fst (md_ne f u w g mf mu ml le) k 0) nu))), (a4, .inl (k4, 1000, .inr (.inl u))), (a5, .inl (k5, 1000, .inr (.inl w)))] := hD
        refine lv_iconst (v := 0) hx hb dX1_put_28 (by decide) ?_
        exact mu_iret hx hb hr hlocks hS hP (by simp only [c_1, hfk, if_true, if_false, Bool.false_eq_true, reduceIte]) (by simp only [c_1, hfk, if_true, if_false, Bool.false_eq_true, reduceIte]) dX1_put_29
    · refine tp_i (if_neg hfk) ?_
      refine lv_istore_n (lv' := [(3, .int (-1)), (0, .ref x), (1, .int le), (2, .int nu)]) hx hb dX1_put_15 rfl hl (by decide) rfl (fun ls hl => ?_)
      refine lv_iload_n hx hb dX1_put_16 rfl (lv_at hl 0 rfl) ?_
      refine lv_iconst (v := (-1)) hx hb dX1_put_17 (by decide) ?_
      refine lv_icmp_eq (tgt := 30) hx hb dX1_put_18 (by decide) (fun c_4 => ?_) (fun c_4 => ?_)
      · refine lv_aload_n hx hb dX1_put_30 rfl (lv_at hl 1 rfl) ?_
        refine va_get (D := (dC, dI)) (ci := 1) (v := .int (nI k)) (C := RX1) (T := TX1) (N := 9) hx hb htl inX1 hown hK hP 0 rfl rfl 5 (by decide) (htl _ flX1_47) (fun _ h9 => h9) rfl dX1_put_31 ?_
        refine lv_sipush (v := nI 1000) hx hb dX1_put_34 (by decide) ?_
        refine lv_icmp_ne (tgt := 42) hx hb dX1_put_37 (by decide) (fun c_5 => ?_) (fun c_5 => ?_)
        · rw [nI_eq (by omega) (by omega)] at c_5
          refine lv_aload_n hx hb dX1_put_42 rfl (lv_at hl 1 rfl) ?_
          refine va_get (D := (dC, dI)) (ci := 1) (v := .ref a1) (C := RX1) (T := TX1) (N := 9) hx hb htl inX1 hown hK hP 0 rfl rfl 0 (by decide) (htl _ flX1_7) (fun _ h9 => h9) rfl dX1_put_43 ?_
          refine lv_aload_n hx hb dX1_put_46 rfl (lv_at hl 1 rfl) ?_
          refine va_get (D := (dC, dI)) (ci := 1) (v := .int (nI k)) (C := RX1) (T := TX1) (N := 9) hx hb htl inX1 hown hK hP 0 rfl rfl 5 (by decide) (htl _ flX1_47) (fun _ h9 => h9) rfl dX1_put_47 ?_
          refine lv_aload_n hx hb dX1_put_50 rfl (lv_at hl 1 rfl) ?_
          refine va_get (D := (dC, dI)) (ci := 1) (v := .int mf) (C := RX1) (T := TX1) (N := 9) hx hb htl inX1 hown hK hP 0 rfl rfl 6 (by decide) (htl _ flX1_26) (fun _ h9 => h9) rfl dX1_put_51 ?_
          refine st_i hx hb hK hP hD hS 1 0 rfl rfl (j := k) (by omega) (Nat.le_of_ble_eq_true rfl) dX1_put_54 (fun H_6 locs hP hD hS => ?_)
          have hP : va_P (dC, dI) classes [(x, .inr (1, [.ref a1, .ref a2, .ref a3, .ref a4, .ref a5, .int (nI k), .int mf, .long mu, .long ml])), (a1, .inl (k1, 1000, .inl (upd f k mf))), (a2, .inl (k2, 1000, .inl g)), (a3, .inl (k3, 1000, .inl n)), (a4, .inl (k4, 1000, .inr (.inl u))), (a5, .inl (k5, 1000, .inr (.inl w)))] H_6 := hP
          have hD : va_D A [(x, .inr (1, [.ref a1, .ref a2, .ref a3, .ref a4, .ref a5, .int (nI k), .int mf, .long mu, .long ml])), (a1, .inl (k1, 1000, .inl (upd f k mf))), (a2, .inl (k2, 1000, .inl g)), (a3, .inl (k3, 1000, .inl n)), (a4, .inl (k4, 1000, .inr (.inl u))), (a5, .inl (k5, 1000, .inr (.inl w)))] := hD
          refine lv_aload_n hx hb dX1_put_55 rfl (lv_at hl 1 rfl) ?_
          refine va_get (D := (dC, dI)) (ci := 1) (v := .ref a4) (C := RX1) (T := TX1) (N := 9) hx hb htl inX1 hown hK hP 0 rfl rfl 3 (by decide) (htl _ flX1_19) (fun _ h9 => h9) rfl dX1_put_56 ?_
          refine lv_aload_n hx hb dX1_put_59 rfl (lv_at hl 1 rfl) ?_
          refine va_get (D := (dC, dI)) (ci := 1) (v := .int (nI k)) (C := RX1) (T := TX1) (N := 9) hx hb htl inX1 hown hK hP 0 rfl rfl 5 (by decide) (htl _ flX1_47) (fun _ h9 => h9) rfl dX1_put_60 ?_
          refine lv_aload_n hx hb dX1_put_63 rfl (lv_at hl 1 rfl) ?_
          refine va_get (D := (dC, dI)) (ci := 1) (v := .long mu) (C := RX1) (T := TX1) (N := 9) hx hb htl inX1 hown hK hP 0 rfl rfl 7 (by decide) (htl _ flX1_32) (fun _ h9 => h9) rfl dX1_put_64 ?_
          refine st_l hx hb hK hP hD hS 4 3 rfl rfl (j := k) (by omega) (Nat.le_of_ble_eq_true rfl) dX1_put_67 (fun H_7 locs hP hD hS => ?_)
          have hP : va_P (dC, dI) classes [(x, .inr (1, [.ref a1, .ref a2, .ref a3, .ref a4, .ref a5, .int (nI k), .int mf, .long mu, .long ml])), (a1, .inl (k1, 1000, .inl (upd f k mf))), (a2, .inl (k2, 1000, .inl g)), (a3, .inl (k3, 1000, .inl n)), (a4, .inl (k4, 1000, .inr (.inl (vp_updL u k mu)))), (a5, .inl (k5, 1000, .inr (.inl w)))] H_7 := hP
          have hD : va_D A [(x, .inr (1, [.ref a1, .ref a2, .ref a3, .ref a4, .ref a5, .int (nI k), .int mf, .long mu, .long ml])), (a1, .inl (k1, 1000, .inl (upd f k mf))), (a2, .inl (k2, 1000, .inl g)), (a3, .inl (k3, 1000, .inl n)), (a4, .inl (k4, 1000, .inr (.inl (vp_updL u k mu)))), (a5, .inl (k5, 1000, .inr (.inl w)))] := hD
          refine lv_aload_n hx hb dX1_put_68 rfl (lv_at hl 1 rfl) ?_
          refine va_get (D := (dC, dI)) (ci := 1) (v := .ref a5) (C := RX1) (T := TX1) (N := 9) hx hb htl inX1 hown hK hP 0 rfl rfl 4 (by decide) (htl _ flX1_23) (fun _ h9 => h9) rfl dX1_put_69 ?_
          refine lv_aload_n hx hb dX1_put_72 rfl (lv_at hl 1 rfl) ?_
          refine va_get (D := (dC, dI)) (ci := 1) (v := .int (nI k)) (C := RX1) (T := TX1) (N := 9) hx hb htl inX1 hown hK hP 0 rfl rfl 5 (by decide) (htl _ flX1_47) (fun _ h9 => h9) rfl dX1_put_73 ?_
          refine lv_aload_n hx hb dX1_put_76 rfl (lv_at hl 1 rfl) ?_
          refine va_get (D := (dC, dI)) (ci := 1) (v := .long ml) (C := RX1) (T := TX1) (N := 9) hx hb htl inX1 hown hK hP 0 rfl rfl 8 (by decide) (htl _ flX1_36) (fun _ h9 => h9) rfl dX1_put_77 ?_
          refine st_l hx hb hK hP hD hS 5 4 rfl rfl (j := k) (by omega) (Nat.le_of_ble_eq_true rfl) dX1_put_80 (fun H_8 locs hP hD hS => ?_)
          have hP : va_P (dC, dI) classes [(x, .inr (1, [.ref a1, .ref a2, .ref a3, .ref a4, .ref a5, .int (nI k), .int mf, .long mu, .long ml])), (a1, .inl (k1, 1000, .inl (upd f k mf))), (a2, .inl (k2, 1000, .inl g)), (a3, .inl (k3, 1000, .inl n)), (a4, .inl (k4, 1000, .inr (.inl (vp_updL u k mu)))), (a5, .inl (k5, 1000, .inr (.inl (vp_updL w k ml))))] H_8 := hP
          have hD : va_D A [(x, .inr (1, [.ref a1, .ref a2, .ref a3, .ref a4, .ref a5, .int (nI k), .int mf, .long mu, .long ml])), (a1, .inl (k1, 1000, .inl (upd f k mf))), (a2, .inl (k2, 1000, .inl g)), (a3, .inl (k3, 1000, .inl n)), (a4, .inl (k4, 1000, .inr (.inl (vp_updL u k mu)))), (a5, .inl (k5, 1000, .inr (.inl (vp_updL w k ml))))] := hD
          refine lv_aload_n hx hb dX1_put_81 rfl (lv_at hl 1 rfl) ?_
          refine va_get (D := (dC, dI)) (ci := 1) (v := .ref a2) (C := RX1) (T := TX1) (N := 9) hx hb htl inX1 hown hK hP 0 rfl rfl 1 (by decide) (htl _ flX1_13) (fun _ h9 => h9) rfl dX1_put_82 ?_
          refine lv_aload_n hx hb dX1_put_85 rfl (lv_at hl 1 rfl) ?_
          refine va_get (D := (dC, dI)) (ci := 1) (v := .int (nI k)) (C := RX1) (T := TX1) (N := 9) hx hb htl inX1 hown hK hP 0 rfl rfl 5 (by decide) (htl _ flX1_47) (fun _ h9 => h9) rfl dX1_put_86 ?_
          refine lv_iload_n hx hb dX1_put_89 rfl (lv_at hl 2 rfl) ?_
          refine st_i hx hb hK hP hD hS 2 1 rfl rfl (j := k) (by omega) (Nat.le_of_ble_eq_true rfl) dX1_put_90 (fun H_9 locs hP hD hS => ?_)
          have hP : va_P (dC, dI) classes [(x, .inr (1, [.ref a1, .ref a2, .ref a3, .ref a4, .ref a5, .int (nI k), .int mf, .long mu, .long ml])), (a1, .inl (k1, 1000, .inl (upd f k mf))), (a2, .inl (k2, 1000, .inl (upd g k le))), (a3, .inl (k3, 1000, .inl n)), (a4, .inl (k4, 1000, .inr (.inl (vp_updL u k mu)))), (a5, .inl (k5, 1000, .inr (.inl (vp_updL w k ml))))] H_9 := hP
          have hD : va_D A [(x, .inr (1, [.ref a1, .ref a2, .ref a3, .ref a4, .ref a5, .int (nI k), .int mf, .long mu, .long ml])), (a1, .inl (k1, 1000, .inl (upd f k mf))), (a2, .inl (k2, 1000, .inl (upd g k le))), (a3, .inl (k3, 1000, .inl n)), (a4, .inl (k4, 1000, .inr (.inl (vp_updL u k mu)))), (a5, .inl (k5, 1000, .inr (.inl (vp_updL w k ml))))] := hD
          refine lv_aload_n hx hb dX1_put_91 rfl (lv_at hl 1 rfl) ?_
          refine va_get (D := (dC, dI)) (ci := 1) (v := .ref a3) (C := RX1) (T := TX1) (N := 9) hx hb htl inX1 hown hK hP 0 rfl rfl 2 (by decide) (htl _ flX1_16) (fun _ h9 => h9) rfl dX1_put_92 ?_
          refine lv_aload_n hx hb dX1_put_95 rfl (lv_at hl 1 rfl) ?_
          refine va_get (D := (dC, dI)) (ci := 1) (v := .int (nI k)) (C := RX1) (T := TX1) (N := 9) hx hb htl inX1 hown hK hP 0 rfl rfl 5 (by decide) (htl _ flX1_47) (fun _ h9 => h9) rfl dX1_put_96 ?_
          refine lv_iload_n hx hb dX1_put_99 rfl (lv_at hl 3 rfl) ?_
          refine st_i hx hb hK hP hD hS 3 2 rfl rfl (j := k) (by omega) (Nat.le_of_ble_eq_true rfl) dX1_put_100 (fun H_10 locs hP hD hS => ?_)
          have hP : va_P (dC, dI) classes [(x, .inr (1, [.ref a1, .ref a2, .ref a3, .ref a4, .ref a5, .int (nI k), .int mf, .long mu, .long ml])), (a1, .inl (k1, 1000, .inl (upd f k mf))), (a2, .inl (k2, 1000, .inl (upd g k le))), (a3, .inl (k3, 1000, .inl (upd n k nu))), (a4, .inl (k4, 1000, .inr (.inl (vp_updL u k mu)))), (a5, .inl (k5, 1000, .inr (.inl (vp_updL w k ml))))] H_10 := hP
          have hD : va_D A [(x, .inr (1, [.ref a1, .ref a2, .ref a3, .ref a4, .ref a5, .int (nI k), .int mf, .long mu, .long ml])), (a1, .inl (k1, 1000, .inl (upd f k mf))), (a2, .inl (k2, 1000, .inl (upd g k le))), (a3, .inl (k3, 1000, .inl (upd n k nu))), (a4, .inl (k4, 1000, .inr (.inl (vp_updL u k mu)))), (a5, .inl (k5, 1000, .inr (.inl (vp_updL w k ml))))] := hD
          refine lv_aload_n hx hb dX1_put_101 rfl (lv_at hl 1 rfl) ?_
          refine lv_dup hx hb dX1_put_102 rfl ?_
          refine va_get (D := (dC, dI)) (ci := 1) (v := .int (nI k)) (C := RX1) (T := TX1) (N := 9) hx hb htl inX1 hown hK hP 0 rfl rfl 5 (by decide) (htl _ flX1_47) (fun _ h9 => h9) rfl dX1_put_103 ?_
          refine lv_iconst (v := 1) hx hb dX1_put_106 (by decide) ?_
          refine lv_iadd hx hb dX1_put_107 ?_
          refine tp_i (nI_1 k) ?_
          refine va_put (D := (dC, dI)) (ci := 1) (v := .int (nI (k + 1))) (ty := .int) (C := RX1) (T := TX1) (N := 9) hx hb htl inX1 tyX1 tyX1_ok nmX1 hown hK hP hD hS 0 rfl rfl 5 (by decide) (htl _ flX1_47) (fun _ h9 => h9) rfl (by decide +kernel) rfl rfl (Nat.le_of_ble_eq_true rfl) dX1_put_108 (fun H_11 locs hP hD hS => ?_)
          have hP : va_P (dC, dI) classes [(x, .inr (1, [.ref a1, .ref a2, .ref a3, .ref a4, .ref a5, .int (nI (k + 1)), .int mf, .long mu, .long ml])), (a1, .inl (k1, 1000, .inl (upd f k mf))), (a2, .inl (k2, 1000, .inl (upd g k le))), (a3, .inl (k3, 1000, .inl (upd n k nu))), (a4, .inl (k4, 1000, .inr (.inl (vp_updL u k mu)))), (a5, .inl (k5, 1000, .inr (.inl (vp_updL w k ml))))] H_11 := hP
          have hD : va_D A [(x, .inr (1, [.ref a1, .ref a2, .ref a3, .ref a4, .ref a5, .int (nI (k + 1)), .int mf, .long mu, .long ml])), (a1, .inl (k1, 1000, .inl (upd f k mf))), (a2, .inl (k2, 1000, .inl (upd g k le))), (a3, .inl (k3, 1000, .inl (upd n k nu))), (a4, .inl (k4, 1000, .inr (.inl (vp_updL u k mu)))), (a5, .inl (k5, 1000, .inr (.inl (vp_updL w k ml))))] := hD
          refine lv_iconst (v := 1) hx hb dX1_put_111 (by decide) ?_
          exact mu_iret hx hb hr hlocks hS hP (by simp only [c_1, hfk, c_5, if_true, if_false, Bool.false_eq_true, reduceIte]) (by simp only [c_1, hfk, c_5, if_true, if_false, Bool.false_eq_true, reduceIte]) dX1_put_112
        · rw [nI_eq (by omega) (by omega)] at c_5
          refine lv_iconst (v := (-1)) hx hb dX1_put_40 (by decide) ?_
          exact mu_iret hx hb hr hlocks hS hP (by rw [if_pos c_1, if_neg hfk, if_pos c_5]) (by rw [if_pos c_1, if_neg hfk, if_pos c_5]) dX1_put_41
      · exact absurd c_4 (by decide)
  · rw [b2i_0] at c_1
    refine lv_iconst (v := (-1)) hx hb dX1_put_8 (by decide) ?_
    exact mu_iret hx hb hr hlocks hS hP (by simp only [c_1, if_true, if_false, Bool.false_eq_true, reduceIte]) (by simp only [c_1, if_true, if_false, Bool.false_eq_true, reduceIte]) dX1_put_9
set_option maxHeartbeats 4000000 in
set_option maxRecDepth 100000 in
theorem c_X1_remove (l : Launch) (dC : Nat → ClassId) (dI : Nat → Nat → Nat) {x a1 a2 a3 a4 a5 : Nat} {k1 k2 k3 k4 k5 : ClassId} {f : Nat → Int32} {u w : Nat → Int64} {g n : Nat → Int32} {k : Nat} {mf : Int32} {mu ml : Int64} (le : Int32) (A : Nat → Prop) (hk : k ≤ 1000) (hD : va_D A (mdw x a1 a2 a3 a4 a5 k1 k2 k3 k4 k5 f u w g n k mf mu ml)) : Met l yX1_remove (ww yX1_remove cX1_remove 4 (some .int)) ({ frames := 2, cells := 0, slots := 0, locals := 49 } : Room) (va_Pc [.ref x, .int le] (fun U => va_P (dC, dI) classes (mdw x a1 a2 a3 a4 a5 k1 k2 k3 k4 k5 f u w g n k mf mu ml) U.heap ∧ va_K (dC, dI) classes (mdt k1 k2 k3 k4 k5) U)) (va_Qi (fun r (_ : Unit) => r = (if md_pre mf mu ml le = true then (if kb_fst (md_ne f u w g mf mu ml le) k 0 < k then (1 : Int32) else 0) else (-1))) (fun _ t => va_P (dC, dI) classes (if md_pre mf mu ml le = true then (if kb_fst (md_ne f u w g mf mu ml le) k 0 < k then (mdw x a1 a2 a3 a4 a5 k1 k2 k3 k4 k5 (kb_dn f (kb_fst (md_ne f u w g mf mu ml le) k 0) (k - 1)) (kb_dn u (kb_fst (md_ne f u w g mf mu ml le) k 0) (k - 1)) (kb_dn w (kb_fst (md_ne f u w g mf mu ml le) k 0) (k - 1)) (kb_dn g (kb_fst (md_ne f u w g mf mu ml le) k 0) (k - 1)) (kb_dn n (kb_fst (md_ne f u w g mf mu ml le) k 0) (k - 1)) (k - 1) mf mu ml) else (mdw x a1 a2 a3 a4 a5 k1 k2 k3 k4 k5 f u w g n k mf mu ml)) else (mdw x a1 a2 a3 a4 a5 k1 k2 k3 k4 k5 f u w g n k mf mu ml)) t.heap) A) 0 0 A := by
  refine Met.ofW (cc := cX1_remove) (maxL := 4) (ret := (some .int)) (by decide) rfl ?_
  intro p e s m args below meth c s₁ B hml hv
  obtain ⟨rfl, hP, hK⟩ := hv
  have hS : va_S A s.heap s.heap [] := va_S.rf
  have hx := B.exec
  have hb := B.bytes
  have hr := B.returns
  have hts := atoms_spec (ws := ww yX1_remove cX1_remove 4 (some .int)) B.pre
  have htl : ∀ w ∈ ltg, w.before [.ref x, .int le].toArray s = true := fun w h => hts w (List.mem_cons_of_mem _ h)
  have hown : s.vm.findClass RX1 = some m.cls := findClass_of_methodNamed B.named
  have hlocks := B.notSynchronized
  have hl := lv_entry ([.ref x, .int le]) (n := 4) (Nat.le_of_ble_eq_true rfl)
  rw [lg_entry_eq]
  generalize (lg_sl ([.ref x, .int le]) ++ List.replicate (4 - (lg_sl ([.ref x, .int le])).length) Slot.unset).toArray = ls at hl ⊢
  have hl : lv_has ls 4 [(0, .ref x), (1, .int le)] := hl
  have loop : ∀ (pl : Nat) (hpl : pl < k) (hplR : pl = kb_fst (md_ne f u w g mf mu ml le) k 0) (hmp : md_pre mf mu ml le = true) (d t : Nat), pl ≤ t → t ≤ k - 1 → k ≤ t + d → ∀ (H : Heap) (locs : List Loc), va_P (dC, dI) classes (mdw x a1 a2 a3 a4 a5 k1 k2 k3 k4 k5 (kb_dn f pl t) (kb_dn u pl t) (kb_dn w pl t) (kb_dn g pl t) (kb_dn n pl t) (k - 1) mf mu ml) H → va_S A s.heap H locs → ∀ (ls : Array Slot), lv_has ls 4 [(0, .ref x), (1, .int le), (2, .int (nI pl)), (3, .int (nI t))] → W p l e ({ frames := 2, cells := 0, slots := 0, locals := 49 } : Room) s m ([.ref x, .int le] : List Value).toArray below meth c H locs 0 0 (MQ below (va_Qi (fun r (_ : Unit) => r = (if md_pre mf mu ml le = true then (if kb_fst (md_ne f u w g mf mu ml le) k 0 < k then (1 : Int32) else 0) else (-1))) (fun _ t => va_P (dC, dI) classes (if md_pre mf mu ml le = true then (if kb_fst (md_ne f u w g mf mu ml le) k 0 < k then (mdw x a1 a2 a3 a4 a5 k1 k2 k3 k4 k5 (kb_dn f (kb_fst (md_ne f u w g mf mu ml le) k 0) (k - 1)) (kb_dn u (kb_fst (md_ne f u w g mf mu ml le) k 0) (k - 1)) (kb_dn w (kb_fst (md_ne f u w g mf mu ml le) k 0) (k - 1)) (kb_dn g (kb_fst (md_ne f u w g mf mu ml le) k 0) (k - 1)) (kb_dn n (kb_fst (md_ne f u w g mf mu ml le) k 0) (k - 1)) (k - 1) mf mu ml) else (mdw x a1 a2 a3 a4 a5 k1 k2 k3 k4 k5 f u w g n k mf mu ml)) else (mdw x a1 a2 a3 a4 a5 k1 k2 k3 k4 k5 f u w g n k mf mu ml)) t.heap) A) [.ref x, .int le].toArray s 0 0 A) (F0 m 35 ls []) := by
    intro pl hpl hplR hmp d
    induction d with
    | zero => intro t h1 h2 h3; exact absurd h3 (by omega)
    | succ d ih =>
      intro t h1 h2 h3 H locs hP hS ls hl
      have hP : va_P (dC, dI) classes [(x, .inr (1, [.ref a1, .ref a2, .ref a3, .ref a4, .ref a5, .int (nI (k - 1)), .int mf, .long mu, .long ml])), (a1, .inl (k1, 1000, .inl (kb_dn f pl t))), (a2, .inl (k2, 1000, .inl (kb_dn g pl t))), (a3, .inl (k3, 1000, .inl (kb_dn n pl t))), (a4, .inl (k4, 1000, .inr (.inl (kb_dn u pl t)))), (a5, .inl (k5, 1000, .inr (.inl (kb_dn w pl t))))] H := hP
      have hD : va_D A [(x, .inr (1, [.ref a1, .ref a2, .ref a3, .ref a4, .ref a5, .int (nI (k - 1)), .int mf, .long mu, .long ml])), (a1, .inl (k1, 1000, .inl (kb_dn f pl t))), (a2, .inl (k2, 1000, .inl (kb_dn g pl t))), (a3, .inl (k3, 1000, .inl (kb_dn n pl t))), (a4, .inl (k4, 1000, .inr (.inl (kb_dn u pl t)))), (a5, .inl (k5, 1000, .inr (.inl (kb_dn w pl t))))] := vd_same hD rfl
      refine lv_iload_n hx hb dX1_remove_35 rfl (lv_at hl 3 rfl) ?_
      refine lv_aload_n hx hb dX1_remove_36 rfl (lv_at hl 0 rfl) ?_
      refine va_get (D := (dC, dI)) (ci := 1) (v := .int (nI (k - 1))) (C := RX1) (T := TX1) (N := 9) hx hb htl inX1 hown hK hP 0 rfl rfl 5 (by decide) (htl _ flX1_47) (fun _ h9 => h9) rfl dX1_remove_37 ?_
      refine lv_icmp_ge (tgt := 119) hx hb dX1_remove_40 (by decide) (fun c_1 => ?_) (fun c_1 => ?_)
      · rw [nI_leI (by omega) (by omega)] at c_1
        obtain rfl : t = k - 1 := by omega
        refine lv_iconst (v := 1) hx hb dX1_remove_119 (by decide) ?_
        exact mu_iret hx hb hr hlocks hS hP (by rw [if_pos hmp, ← hplR, if_pos hpl]) (by rw [if_pos hmp, ← hplR, if_pos hpl]) dX1_remove_120
      · rw [nI_leI (by omega) (by omega), Nat.not_le] at c_1
        refine lv_aload_n hx hb dX1_remove_43 rfl (lv_at hl 0 rfl) ?_
        refine va_get (D := (dC, dI)) (ci := 1) (v := .ref a1) (C := RX1) (T := TX1) (N := 9) hx hb htl inX1 hown hK hP 0 rfl rfl 0 (by decide) (htl _ flX1_7) (fun _ h9 => h9) rfl dX1_remove_44 ?_
        refine lv_iload_n hx hb dX1_remove_47 rfl (lv_at hl 3 rfl) ?_
        refine lv_aload_n hx hb dX1_remove_48 rfl (lv_at hl 0 rfl) ?_
        refine va_get (D := (dC, dI)) (ci := 1) (v := .ref a1) (C := RX1) (T := TX1) (N := 9) hx hb htl inX1 hown hK hP 0 rfl rfl 0 (by decide) (htl _ flX1_7) (fun _ h9 => h9) rfl dX1_remove_49 ?_
        refine lv_iload_n hx hb dX1_remove_52 rfl (lv_at hl 3 rfl) ?_
        refine lv_iconst (v := 1) hx hb dX1_remove_53 (by decide) ?_
        refine lv_iadd hx hb dX1_remove_54 ?_
        refine tp_i (nI_1 t) ?_
        refine ld_i hx hb hK hP 1 0 rfl rfl (j := (t + 1)) (by omega) (Nat.le_of_ble_eq_true rfl) dX1_remove_55 ?_
        refine st_i hx hb hK hP hD hS 1 0 rfl rfl (j := t) (by omega) (Nat.le_of_ble_eq_true rfl) dX1_remove_56 (fun H_2 locs hP hD hS => ?_)
        have hP : va_P (dC, dI) classes [(x, .inr (1, [.ref a1, .ref a2, .ref a3, .ref a4, .ref a5, .int (nI (k - 1)), .int mf, .long mu, .long ml])), (a1, .inl (k1, 1000, .inl (upd (kb_dn f pl t) t ((kb_dn f pl t) (t + 1))))), (a2, .inl (k2, 1000, .inl (kb_dn g pl t))), (a3, .inl (k3, 1000, .inl (kb_dn n pl t))), (a4, .inl (k4, 1000, .inr (.inl (kb_dn u pl t)))), (a5, .inl (k5, 1000, .inr (.inl (kb_dn w pl t))))] H_2 := hP
        have hD : va_D A [(x, .inr (1, [.ref a1, .ref a2, .ref a3, .ref a4, .ref a5, .int (nI (k - 1)), .int mf, .long mu, .long ml])), (a1, .inl (k1, 1000, .inl (upd (kb_dn f pl t) t ((kb_dn f pl t) (t + 1))))), (a2, .inl (k2, 1000, .inl (kb_dn g pl t))), (a3, .inl (k3, 1000, .inl (kb_dn n pl t))), (a4, .inl (k4, 1000, .inr (.inl (kb_dn u pl t)))), (a5, .inl (k5, 1000, .inr (.inl (kb_dn w pl t))))] := hD
        refine lv_aload_n hx hb dX1_remove_57 rfl (lv_at hl 0 rfl) ?_
        refine va_get (D := (dC, dI)) (ci := 1) (v := .ref a4) (C := RX1) (T := TX1) (N := 9) hx hb htl inX1 hown hK hP 0 rfl rfl 3 (by decide) (htl _ flX1_19) (fun _ h9 => h9) rfl dX1_remove_58 ?_
        refine lv_iload_n hx hb dX1_remove_61 rfl (lv_at hl 3 rfl) ?_
        refine lv_aload_n hx hb dX1_remove_62 rfl (lv_at hl 0 rfl) ?_
        refine va_get (D := (dC, dI)) (ci := 1) (v := .ref a4) (C := RX1) (T := TX1) (N := 9) hx hb htl inX1 hown hK hP 0 rfl rfl 3 (by decide) (htl _ flX1_19) (fun _ h9 => h9) rfl dX1_remove_63 ?_
        refine lv_iload_n hx hb dX1_remove_66 rfl (lv_at hl 3 rfl) ?_
        refine lv_iconst (v := 1) hx hb dX1_remove_67 (by decide) ?_
        refine lv_iadd hx hb dX1_remove_68 ?_
        refine tp_i (nI_1 t) ?_
        refine ld_l hx hb hK hP 4 3 rfl rfl (j := (t + 1)) (by omega) (Nat.le_of_ble_eq_true rfl) dX1_remove_69 ?_
        refine st_l hx hb hK hP hD hS 4 3 rfl rfl (j := t) (by omega) (Nat.le_of_ble_eq_true rfl) dX1_remove_70 (fun H_3 locs hP hD hS => ?_)
        have hP : va_P (dC, dI) classes [(x, .inr (1, [.ref a1, .ref a2, .ref a3, .ref a4, .ref a5, .int (nI (k - 1)), .int mf, .long mu, .long ml])), (a1, .inl (k1, 1000, .inl (upd (kb_dn f pl t) t ((kb_dn f pl t) (t + 1))))), (a2, .inl (k2, 1000, .inl (kb_dn g pl t))), (a3, .inl (k3, 1000, .inl (kb_dn n pl t))), (a4, .inl (k4, 1000, .inr (.inl (vp_updL (kb_dn u pl t) t ((kb_dn u pl t) (t + 1)))))), (a5, .inl (k5, 1000, .inr (.inl (kb_dn w pl t))))] H_3 := hP
        have hD : va_D A [(x, .inr (1, [.ref a1, .ref a2, .ref a3, .ref a4, .ref a5, .int (nI (k - 1)), .int mf, .long mu, .long ml])), (a1, .inl (k1, 1000, .inl (upd (kb_dn f pl t) t ((kb_dn f pl t) (t + 1))))), (a2, .inl (k2, 1000, .inl (kb_dn g pl t))), (a3, .inl (k3, 1000, .inl (kb_dn n pl t))), (a4, .inl (k4, 1000, .inr (.inl (vp_updL (kb_dn u pl t) t ((kb_dn u pl t) (t + 1)))))), (a5, .inl (k5, 1000, .inr (.inl (kb_dn w pl t))))] := hD
        refine lv_aload_n hx hb dX1_remove_71 rfl (lv_at hl 0 rfl) ?_
        refine va_get (D := (dC, dI)) (ci := 1) (v := .ref a5) (C := RX1) (T := TX1) (N := 9) hx hb htl inX1 hown hK hP 0 rfl rfl 4 (by decide) (htl _ flX1_23) (fun _ h9 => h9) rfl dX1_remove_72 ?_
        refine lv_iload_n hx hb dX1_remove_75 rfl (lv_at hl 3 rfl) ?_
        refine lv_aload_n hx hb dX1_remove_76 rfl (lv_at hl 0 rfl) ?_
        refine va_get (D := (dC, dI)) (ci := 1) (v := .ref a5) (C := RX1) (T := TX1) (N := 9) hx hb htl inX1 hown hK hP 0 rfl rfl 4 (by decide) (htl _ flX1_23) (fun _ h9 => h9) rfl dX1_remove_77 ?_
        refine lv_iload_n hx hb dX1_remove_80 rfl (lv_at hl 3 rfl) ?_
        refine lv_iconst (v := 1) hx hb dX1_remove_81 (by decide) ?_
        refine lv_iadd hx hb dX1_remove_82 ?_
        refine tp_i (nI_1 t) ?_
        refine ld_l hx hb hK hP 5 4 rfl rfl (j := (t + 1)) (by omega) (Nat.le_of_ble_eq_true rfl) dX1_remove_83 ?_
        refine st_l hx hb hK hP hD hS 5 4 rfl rfl (j := t) (by omega) (Nat.le_of_ble_eq_true rfl) dX1_remove_84 (fun H_4 locs hP hD hS => ?_)
        have hP : va_P (dC, dI) classes [(x, .inr (1, [.ref a1, .ref a2, .ref a3, .ref a4, .ref a5, .int (nI (k - 1)), .int mf, .long mu, .long ml])), (a1, .inl (k1, 1000, .inl (upd (kb_dn f pl t) t ((kb_dn f pl t) (t + 1))))), (a2, .inl (k2, 1000, .inl (kb_dn g pl t))), (a3, .inl (k3, 1000, .inl (kb_dn n pl t))), (a4, .inl (k4, 1000, .inr (.inl (vp_updL (kb_dn u pl t) t ((kb_dn u pl t) (t + 1)))))), (a5, .inl (k5, 1000, .inr (.inl (vp_updL (kb_dn w pl t) t ((kb_dn w pl t) (t + 1))))))] H_4 := hP
        have hD : va_D A [(x, .inr (1, [.ref a1, .ref a2, .ref a3, .ref a4, .ref a5, .int (nI (k - 1)), .int mf, .long mu, .long ml])), (a1, .inl (k1, 1000, .inl (upd (kb_dn f pl t) t ((kb_dn f pl t) (t + 1))))), (a2, .inl (k2, 1000, .inl (kb_dn g pl t))), (a3, .inl (k3, 1000, .inl (kb_dn n pl t))), (a4, .inl (k4, 1000, .inr (.inl (vp_updL (kb_dn u pl t) t ((kb_dn u pl t) (t + 1)))))), (a5, .inl (k5, 1000, .inr (.inl (vp_updL (kb_dn w pl t) t ((kb_dn w pl t) (t + 1))))))] := hD
        refine lv_aload_n hx hb dX1_remove_85 rfl (lv_at hl 0 rfl) ?_
        refine va_get (D := (dC, dI)) (ci := 1) (v := .ref a2) (C := RX1) (T := TX1) (N := 9) hx hb htl inX1 hown hK hP 0 rfl rfl 1 (by decide) (htl _ flX1_13) (fun _ h9 => h9) rfl dX1_remove_86 ?_
        refine lv_iload_n hx hb dX1_remove_89 rfl (lv_at hl 3 rfl) ?_
        refine lv_aload_n hx hb dX1_remove_90 rfl (lv_at hl 0 rfl) ?_
        refine va_get (D := (dC, dI)) (ci := 1) (v := .ref a2) (C := RX1) (T := TX1) (N := 9) hx hb htl inX1 hown hK hP 0 rfl rfl 1 (by decide) (htl _ flX1_13) (fun _ h9 => h9) rfl dX1_remove_91 ?_
        refine lv_iload_n hx hb dX1_remove_94 rfl (lv_at hl 3 rfl) ?_
        refine lv_iconst (v := 1) hx hb dX1_remove_95 (by decide) ?_
        refine lv_iadd hx hb dX1_remove_96 ?_
        refine tp_i (nI_1 t) ?_
        refine ld_i hx hb hK hP 2 1 rfl rfl (j := (t + 1)) (by omega) (Nat.le_of_ble_eq_true rfl) dX1_remove_97 ?_
        refine st_i hx hb hK hP hD hS 2 1 rfl rfl (j := t) (by omega) (Nat.le_of_ble_eq_true rfl) dX1_remove_98 (fun H_5 locs hP hD hS => ?_)
        have hP : va_P (dC, dI) classes [(x, .inr (1, [.ref a1, .ref a2, .ref a3, .ref a4, .ref a5, .int (nI (k - 1)), .int mf, .long mu, .long ml])), (a1, .inl (k1, 1000, .inl (upd (kb_dn f pl t) t ((kb_dn f pl t) (t + 1))))), (a2, .inl (k2, 1000, .inl (upd (kb_dn g pl t) t ((kb_dn g pl t) (t + 1))))), (a3, .inl (k3, 1000, .inl (kb_dn n pl t))), (a4, .inl (k4, 1000, .inr (.inl (vp_updL (kb_dn u pl t) t ((kb_dn u pl t) (t + 1)))))), (a5, .inl (k5, 1000, .inr (.inl (vp_updL (kb_dn w pl t) t ((kb_dn w pl t) (t + 1))))))] H_5 := hP
        have hD : va_D A [(x, .inr (1, [.ref a1, .ref a2, .ref a3, .ref a4, .ref a5, .int (nI (k - 1)), .int mf, .long mu, .long ml])), (a1, .inl (k1, 1000, .inl (upd (kb_dn f pl t) t ((kb_dn f pl t) (t + 1))))), (a2, .inl (k2, 1000, .inl (upd (kb_dn g pl t) t ((kb_dn g pl t) (t + 1))))), (a3, .inl (k3, 1000, .inl (kb_dn n pl t))), (a4, .inl (k4, 1000, .inr (.inl (vp_updL (kb_dn u pl t) t ((kb_dn u pl t) (t + 1)))))), (a5, .inl (k5, 1000, .inr (.inl (vp_updL (kb_dn w pl t) t ((kb_dn w pl t) (t + 1))))))] := hD
        refine lv_aload_n hx hb dX1_remove_99 rfl (lv_at hl 0 rfl) ?_
        refine va_get (D := (dC, dI)) (ci := 1) (v := .ref a3) (C := RX1) (T := TX1) (N := 9) hx hb htl inX1 hown hK hP 0 rfl rfl 2 (by decide) (htl _ flX1_16) (fun _ h9 => h9) rfl dX1_remove_100 ?_
        refine lv_iload_n hx hb dX1_remove_103 rfl (lv_at hl 3 rfl) ?_
        refine lv_aload_n hx hb dX1_remove_104 rfl (lv_at hl 0 rfl) ?_
        refine va_get (D := (dC, dI)) (ci := 1) (v := .ref a3) (C := RX1) (T := TX1) (N := 9) hx hb htl inX1 hown hK hP 0 rfl rfl 2 (by decide) (htl _ flX1_16) (fun _ h9 => h9) rfl dX1_remove_105 ?_
        refine lv_iload_n hx hb dX1_remove_108 rfl (lv_at hl 3 rfl) ?_
        refine lv_iconst (v := 1) hx hb dX1_remove_109 (by decide) ?_
        refine lv_iadd hx hb dX1_remove_110 ?_
        refine tp_i (nI_1 t) ?_
        refine ld_i hx hb hK hP 3 2 rfl rfl (j := (t + 1)) (by omega) (Nat.le_of_ble_eq_true rfl) dX1_remove_111 ?_
        refine st_i hx hb hK hP hD hS 3 2 rfl rfl (j := t) (by omega) (Nat.le_of_ble_eq_true rfl) dX1_remove_112 (fun H_6 locs hP hD hS => ?_)
        have hP : va_P (dC, dI) classes [(x, .inr (1, [.ref a1, .ref a2, .ref a3, .ref a4, .ref a5, .int (nI (k - 1)), .int mf, .long mu, .long ml])), (a1, .inl (k1, 1000, .inl (upd (kb_dn f pl t) t ((kb_dn f pl t) (t + 1))))), (a2, .inl (k2, 1000, .inl (upd (kb_dn g pl t) t ((kb_dn g pl t) (t + 1))))), (a3, .inl (k3, 1000, .inl (upd (kb_dn n pl t) t ((kb_dn n pl t) (t + 1))))), (a4, .inl (k4, 1000, .inr (.inl (vp_updL (kb_dn u pl t) t ((kb_dn u pl t) (t + 1)))))), (a5, .inl (k5, 1000, .inr (.inl (vp_updL (kb_dn w pl t) t ((kb_dn w pl t) (t + 1))))))] H_6 := hP
        have hD : va_D A [(x, .inr (1, [.ref a1, .ref a2, .ref a3, .ref a4, .ref a5, .int (nI (k - 1)), .int mf, .long mu, .long ml])), (a1, .inl (k1, 1000, .inl (upd (kb_dn f pl t) t ((kb_dn f pl t) (t + 1))))), (a2, .inl (k2, 1000, .inl (upd (kb_dn g pl t) t ((kb_dn g pl t) (t + 1))))), (a3, .inl (k3, 1000, .inl (upd (kb_dn n pl t) t ((kb_dn n pl t) (t + 1))))), (a4, .inl (k4, 1000, .inr (.inl (vp_updL (kb_dn u pl t) t ((kb_dn u pl t) (t + 1)))))), (a5, .inl (k5, 1000, .inr (.inl (vp_updL (kb_dn w pl t) t ((kb_dn w pl t) (t + 1))))))] := hD
        refine lv_iinc (v := nI (t + 1)) (lv' := [(3, .int (nI (t + 1))), (0, .ref x), (1, .int le), (2, .int (nI pl))]) hx hb dX1_remove_113 hl (k := 3) rfl (by first | rfl | exact nI_1 _) (by decide) rfl (fun ls hl => ?_)
        refine lv_goto (tgt := 35) hx hb dX1_remove_116 (by decide) ?_
        exact ih (t + 1) (by omega) (by omega) (by omega) _ _ (by rw [kb_dn_i f pl t h1, kb_dn_l u pl t h1, kb_dn_l w pl t h1, kb_dn_i g pl t h1, kb_dn_i n pl t h1] at hP; exact hP) hS ls (lv_sub hl [1, 2, 3, 0] rfl)
  refine lv_aload_n hx hb dX1_remove_0 rfl (lv_at hl 0 rfl) ?_
  refine lv_iload_n hx hb dX1_remove_1 rfl (lv_at hl 1 rfl) ?_
  refine ru_calli (va_runV (As := [.int le]) (rest := []) ⟨hx, hb, hml, hown, htl⟩ (c_X1_isPrefix l dC dI le _ hP) (cwV 1 htl gX1_50 rfl rfl rfl hd_X1_isPrefix ⟨Nat.le_of_ble_eq_true rfl, Nat.le_of_ble_eq_true rfl⟩) ⟨fb_ro, va_recv hK hP (ci := 1) (q0 := 0) rfl rfl, fun U hU hW => ⟨rfl, hU, va_K.moved hW.alike hK⟩⟩ rfl rfl hl.1 rfl (lv_room (Nat.le_of_ble_eq_true rfl)) dX1_remove_2 ⟨Nat.le_of_ble_eq_true rfl, Nat.le_of_ble_eq_true rfl⟩) ?_
  refine lv_if_ne (tgt := 10) hx hb dX1_remove_5 (by decide) (fun c_7 => ?_) (fun c_7 => ?_)
  · rw [b2i_0, Bool.not_eq_false] at c_7
    refine lv_aload_n hx hb dX1_remove_10 rfl (lv_at hl 0 rfl) ?_
    refine lv_iload_n hx hb dX1_remove_11 rfl (lv_at hl 1 rfl) ?_
    refine ru_calli (va_runV (As := [.int le]) (rest := []) ⟨hx, hb, hml, hown, htl⟩ (c_X1_find l dC dI le _ hk hP) (cwV 1 htl gX1_53 rfl rfl rfl hd_X1_find ⟨Nat.le_of_ble_eq_true rfl, Nat.le_of_ble_eq_true rfl⟩) ⟨fb_ro, va_recv hK hP (ci := 1) (q0 := 0) rfl rfl, fun U hU hW => ⟨rfl, hU, va_K.moved hW.alike hK⟩⟩ rfl rfl hl.1 rfl (lv_room (Nat.le_of_ble_eq_true rfl)) dX1_remove_12 ⟨Nat.le_of_ble_eq_true rfl, Nat.le_of_ble_eq_true rfl⟩) ?_
    by_cases hfk : kb_fst (md_ne f u w g mf mu ml le) k 0 < k
    · refine tp_i (if_pos hfk) ?_
      refine lv_istore_n (lv' := [(2, .int (nI (kb_fst (md_ne f u w g mf mu ml le) k 0))), (0, .ref x), (1, .int le)]) hx hb dX1_remove_15 rfl hl (by decide) rfl (fun ls hl => ?_)
      refine lv_iload_n hx hb dX1_remove_16 rfl (lv_at hl 0 rfl) ?_
      refine lv_iconst (v := (-1)) hx hb dX1_remove_17 (by decide) ?_
      refine lv_icmp_ne (tgt := 23) hx hb dX1_remove_18 (by decide) (fun c_8 => ?_) (fun c_8 => ?_)
      · refine lv_aload_n hx hb dX1_remove_23 rfl (lv_at hl 1 rfl) ?_
        refine lv_dup hx hb dX1_remove_24 rfl ?_
        refine va_get (D := (dC, dI)) (ci := 1) (v := .int (nI k)) (C := RX1) (T := TX1) (N := 9) hx hb htl inX1 hown hK hP 0 rfl rfl 5 (by decide) (htl _ flX1_47) (fun _ h9 => h9) rfl dX1_remove_25 ?_
        refine lv_iconst (v := 1) hx hb dX1_remove_28 (by decide) ?_
        refine lv_isub hx hb dX1_remove_29 ?_
        refine tp_i (nI_sub1 (by omega)) ?_
        refine va_put (D := (dC, dI)) (ci := 1) (v := .int (nI (k - 1))) (ty := .int) (C := RX1) (T := TX1) (N := 9) hx hb htl inX1 tyX1 tyX1_ok nmX1 hown hK hP hD hS 0 rfl rfl 5 (by decide) (htl _ flX1_47) (fun _ h9 => h9) rfl (by decide +kernel) rfl rfl (Nat.le_of_ble_eq_true rfl) dX1_remove_30 (fun H_9 locs hP hD hS => ?_)
        have hP : va_P (dC, dI) classes [(x, .inr (1, [.ref a1, .ref a2, .ref a3, .ref a4, .ref a5, .int (nI (k - 1)), .int mf, .long mu, .long ml])), (a1, .inl (k1, 1000, .inl f)), (a2, .inl (k2, 1000, .inl g)), (a3, .inl (k3, 1000, .inl n)), (a4, .inl (k4, 1000, .inr (.inl u))), (a5, .inl (k5, 1000, .inr (.inl w)))] H_9 := hP
        have hD : va_D A [(x, .inr (1, [.ref a1, .ref a2, .ref a3, .ref a4, .ref a5, .int (nI (k - 1)), .int mf, .long mu, .long ml])), (a1, .inl (k1, 1000, .inl f)), (a2, .inl (k2, 1000, .inl g)), (a3, .inl (k3, 1000, .inl n)), (a4, .inl (k4, 1000, .inr (.inl u))), (a5, .inl (k5, 1000, .inr (.inl w)))] := hD
        refine lv_iload_n hx hb dX1_remove_33 rfl (lv_at hl 0 rfl) ?_
        refine lv_istore_n (lv' := [(3, .int (nI (kb_fst (md_ne f u w g mf mu ml le) k 0))), (2, .int (nI (kb_fst (md_ne f u w g mf mu ml le) k 0))), (0, .ref x), (1, .int le)]) hx hb dX1_remove_34 rfl hl (by decide) rfl (fun ls hl => ?_)
        exact loop (kb_fst (md_ne f u w g mf mu ml le) k 0) hfk rfl c_7 (k + 1) (kb_fst (md_ne f u w g mf mu ml le) k 0) (Nat.le_refl _) (by omega) (by omega) _ _ (by rw [kb_dn_0, kb_dn_0, kb_dn_0, kb_dn_0, kb_dn_0]; exact hP) hS ls (lv_sub hl [2, 3, 1, 0] rfl)
      · exact absurd c_8 (nI_nm1 (by omega))
    · refine tp_i (if_neg hfk) ?_
      refine lv_istore_n (lv' := [(2, .int (-1)), (0, .ref x), (1, .int le)]) hx hb dX1_remove_15 rfl hl (by decide) rfl (fun ls hl => ?_)
      refine lv_iload_n hx hb dX1_remove_16 rfl (lv_at hl 0 rfl) ?_
      refine lv_iconst (v := (-1)) hx hb dX1_remove_17 (by decide) ?_
      refine lv_icmp_ne (tgt := 23) hx hb dX1_remove_18 (by decide) (fun c_10 => ?_) (fun c_10 => ?_)
      · exact absurd c_10 (by decide)
      · refine lv_iconst (v := 0) hx hb dX1_remove_21 (by decide) ?_
        exact mu_iret hx hb hr hlocks hS hP (by simp only [c_7, hfk, if_true, if_false, Bool.false_eq_true, reduceIte]) (by simp only [c_7, hfk, if_true, if_false, Bool.false_eq_true, reduceIte]) dX1_remove_22
  · rw [b2i_0] at c_7
    refine lv_iconst (v := (-1)) hx hb dX1_remove_8 (by decide) ?_
    exact mu_iret hx hb hr hlocks hS hP (by simp only [c_7, if_true, if_false, Bool.false_eq_true, reduceIte]) (by simp only [c_7, if_true, if_false, Bool.false_eq_true, reduceIte]) dX1_remove_9
