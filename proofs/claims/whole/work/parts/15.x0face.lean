/-- closePlace with the count as it stands -/
theorem c_X0_closeP (l : Launch) (dC : Nat → ClassId) (dI : Nat → Nat → Nat) {x a1 a2 a3 a4 a5 : Nat} {k1 k2 k3 k4 k5 : ClassId} {f : Nat → Int32} {u w : Nat → Int64} {g n : Nat → Int32} {k : Nat} {mf : Int32} {mu ml : Int64} (pl : Nat) (A : Nat → Prop) (hp : pl < k) (hk : k ≤ 1000) (hD : va_D A (pbw x a1 a2 a3 a4 a5 k1 k2 k3 k4 k5 f u w g n k mf mu ml)) : Met l yX0_closePlace (ww yX0_closePlace cX0_closePlace 3 none) ({ frames := 1, cells := 0, slots := 0, locals := 22 } : Room) (va_Pc [.ref x, .int (nI pl)] (fun U => va_P (dC, dI) classes (pbw x a1 a2 a3 a4 a5 k1 k2 k3 k4 k5 f u w g n k mf mu ml) U.heap ∧ va_K (dC, dI) classes (pbt k1 k2 k3 k4 k5) U)) (va_Qv (fun (_ : Unit) => True) (fun _ t => va_P (dC, dI) classes (pbw x a1 a2 a3 a4 a5 k1 k2 k3 k4 k5 (kb_dn f pl (k - 1)) (kb_dn u pl (k - 1)) (kb_dn w pl (k - 1)) (kb_dn g pl (k - 1)) (kb_dn n pl (k - 1)) (k - 1) mf mu ml) t.heap) A) 0 0 A := by
  obtain ⟨k', rfl⟩ : ∃ k', k = k' + 1 := ⟨k - 1, by omega⟩
  exact c_X0_closePlace l dC dI pl A (by omega) (by omega) hD
theorem kb_st_lt {f : Nat → Int32} {u w : Nat → Int64} {g : Nat → Int32} {mf : Int32} {mu ml : Int64} {len : Int32} {k j : Nat} (h : kb_st f u w g mf mu ml len k j = true) : j < k := by
  unfold kb_st at h
  by_cases q : k ≤ j
  · rw [decide_eq_true q] at h
    cases h
  · omega
set_option maxHeartbeats 4000000 in
set_option maxRecDepth 100000 in
theorem c_X0_put (l : Launch) (dC : Nat → ClassId) (dI : Nat → Nat → Nat) {x a1 a2 a3 a4 a5 : Nat} {k1 k2 k3 k4 k5 : ClassId} {f : Nat → Int32} {u w : Nat → Int64} {g n : Nat → Int32} {k : Nat} {mf : Int32} {mu ml : Int64} (le nu : Int32) (A : Nat → Prop) (hk : k ≤ 1000) (hD : va_D A (pbw x a1 a2 a3 a4 a5 k1 k2 k3 k4 k5 f u w g n k mf mu ml)) : Met l yX0_put (ww yX0_put cX0_put 4 (some .int)) ({ frames := 3, cells := 0, slots := 0, locals := 67 } : Room) (va_Pc [.ref x, .int le, .int nu] (fun U => va_P (dC, dI) classes (pbw x a1 a2 a3 a4 a5 k1 k2 k3 k4 k5 f u w g n k mf mu ml) U.heap ∧ va_K (dC, dI) classes (pbt k1 k2 k3 k4 k5) U)) (va_Qi (fun r (_ : Unit) => r = (if kb_pre mf mu ml le = true then (if kb_st f u w g mf mu ml le k (kb_fst (kb_ah f u w g mf mu ml le) k 0) = true then (0 : Int32) else if k < 1000 then 1 else (-1)) else (-1))) (fun _ t => va_P (dC, dI) classes (if kb_pre mf mu ml le = true then (if kb_st f u w g mf mu ml le k (kb_fst (kb_ah f u w g mf mu ml le) k 0) = true then (pbw x a1 a2 a3 a4 a5 k1 k2 k3 k4 k5 f u w g (upd n (kb_fst (kb_ah f u w g mf mu ml le) k 0) nu) k mf mu ml) else if k < 1000 then (pbw x a1 a2 a3 a4 a5 k1 k2 k3 k4 k5 (upd (kb_up f (kb_fst (kb_ah f u w g mf mu ml le) k 0) k) (kb_fst (kb_ah f u w g mf mu ml le) k 0) mf) (vp_updL (kb_up u (kb_fst (kb_ah f u w g mf mu ml le) k 0) k) (kb_fst (kb_ah f u w g mf mu ml le) k 0) mu) (vp_updL (kb_up w (kb_fst (kb_ah f u w g mf mu ml le) k 0) k) (kb_fst (kb_ah f u w g mf mu ml le) k 0) ml) (upd (kb_up g (kb_fst (kb_ah f u w g mf mu ml le) k 0) k) (kb_fst (kb_ah f u w g mf mu ml le) k 0) le) (upd (kb_up n (kb_fst (kb_ah f u w g mf mu ml le) k 0) k) (kb_fst (kb_ah f u w g mf mu ml le) k 0) nu) (k + 1) mf mu ml) else (pbw x a1 a2 a3 a4 a5 k1 k2 k3 k4 k5 f u w g n k mf mu ml)) else (pbw x a1 a2 a3 a4 a5 k1 k2 k3 k4 k5 f u w g n k mf mu ml)) t.heap) A) 0 0 A := by
  refine Met.ofW (cc := cX0_put) (maxL := 4) (ret := (some .int)) (by decide) rfl ?_
  intro p e s m args below meth c s₁ B hml hv
  obtain ⟨rfl, hP, hK⟩ := hv
  have hS : va_S A s.heap s.heap [] := va_S.rf
  have hx := B.exec
  have hb := B.bytes
  have hr := B.returns
  have hts := atoms_spec (ws := ww yX0_put cX0_put 4 (some .int)) B.pre
  have htl : ∀ w ∈ ltg, w.before [.ref x, .int le, .int nu].toArray s = true := fun w h => hts w (List.mem_cons_of_mem _ h)
  have hown : s.vm.findClass RX0 = some m.cls := findClass_of_methodNamed B.named
  have hlocks := B.notSynchronized
  have hl := lv_entry ([.ref x, .int le, .int nu]) (n := 4) (Nat.le_of_ble_eq_true rfl)
  rw [lg_entry_eq]
  generalize (lg_sl ([.ref x, .int le, .int nu]) ++ List.replicate (4 - (lg_sl ([.ref x, .int le, .int nu])).length) Slot.unset).toArray = ls at hl ⊢
  have hl : lv_has ls 4 [(0, .ref x), (1, .int le), (2, .int nu)] := hl
  refine lv_aload_n hx hb dX0_put_0 rfl (lv_at hl 0 rfl) ?_
  refine lv_iload_n hx hb dX0_put_1 rfl (lv_at hl 1 rfl) ?_
  refine ru_calli (va_runV (As := [.int le]) (rest := []) ⟨hx, hb, hml, hown, htl⟩ (c_X0_isPrefix l dC dI le _ hP) (cwV 1 htl gX0_48 rfl rfl rfl hd_X0_isPrefix ⟨Nat.le_of_ble_eq_true rfl, Nat.le_of_ble_eq_true rfl⟩) ⟨fb_ro, va_recv hK hP (ci := 0) (q0 := 0) rfl rfl, fun U hU hW => ⟨rfl, hU, va_K.moved hW.alike hK⟩⟩ rfl rfl hl.1 rfl (lv_room (Nat.le_of_ble_eq_true rfl)) dX0_put_2 ⟨Nat.le_of_ble_eq_true rfl, Nat.le_of_ble_eq_true rfl⟩) ?_
  refine lv_if_ne (tgt := 10) hx hb dX0_put_5 (by decide) (fun c_1 => ?_) (fun c_1 => ?_)
  · rw [b2i_0, Bool.not_eq_false] at c_1
    refine lv_aload_n hx hb dX0_put_10 rfl (lv_at hl 0 rfl) ?_
    refine lv_iload_n hx hb dX0_put_11 rfl (lv_at hl 1 rfl) ?_
    refine ru_calli (va_runV (As := [.int le]) (rest := []) ⟨hx, hb, hml, hown, htl⟩ (c_X0_countAhead l dC dI le _ hk hP) (cwV 1 htl gX0_52 rfl rfl rfl hd_X0_countAhead ⟨Nat.le_of_ble_eq_true rfl, Nat.le_of_ble_eq_true rfl⟩) ⟨fb_ro, va_recv hK hP (ci := 0) (q0 := 0) rfl rfl, fun U hU hW => ⟨rfl, hU, va_K.moved hW.alike hK⟩⟩ rfl rfl hl.1 rfl (lv_room (Nat.le_of_ble_eq_true rfl)) dX0_put_12 ⟨Nat.le_of_ble_eq_true rfl, Nat.le_of_ble_eq_true rfl⟩) ?_
    refine lv_istore_n (lv' := [(3, .int (nI (kb_fst (kb_ah f u w g mf mu ml le) k 0))), (0, .ref x), (1, .int le), (2, .int nu)]) hx hb dX0_put_15 rfl hl (by decide) rfl (fun ls hl => ?_)
    have hr0 := kb_fst_le (kb_ah f u w g mf mu ml le) k 0
    refine lv_aload_n hx hb dX0_put_16 rfl (lv_at hl 1 rfl) ?_
    refine lv_iload_n hx hb dX0_put_17 rfl (lv_at hl 0 rfl) ?_
    refine lv_iload_n hx hb dX0_put_18 rfl (lv_at hl 2 rfl) ?_
    refine ru_calli (va_runV (As := [.int (nI (kb_fst (kb_ah f u w g mf mu ml le) k 0)), .int le]) (rest := []) ⟨hx, hb, hml, hown, htl⟩ (c_X0_standsAt l dC dI (kb_fst (kb_ah f u w g mf mu ml le) k 0) le _ hk (by omega) hP) (cwV 2 htl gX0_56 rfl rfl rfl hd_X0_standsAt ⟨Nat.le_of_ble_eq_true rfl, Nat.le_of_ble_eq_true rfl⟩) ⟨fb_ro, va_recv hK hP (ci := 0) (q0 := 0) rfl rfl, fun U hU hW => ⟨rfl, hU, va_K.moved hW.alike hK⟩⟩ rfl rfl hl.1 rfl (lv_room (Nat.le_of_ble_eq_true rfl)) dX0_put_19 ⟨Nat.le_of_ble_eq_true rfl, Nat.le_of_ble_eq_true rfl⟩) ?_
    refine lv_if_eq (tgt := 34) hx hb dX0_put_22 (by decide) (fun c_2 => ?_) (fun c_2 => ?_)
    · rw [b2i_0] at c_2
      refine lv_aload_n hx hb dX0_put_34 rfl (lv_at hl 1 rfl) ?_
      refine va_get (D := (dC, dI)) (ci := 0) (v := .int (nI k)) (C := RX0) (T := TX0) (N := 9) hx hb htl inX0 hown hK hP 0 rfl rfl 5 (by decide) (htl _ flX0_26) (fun _ h9 => h9) rfl dX0_put_35 ?_
      refine lv_sipush (v := nI 1000) hx hb dX0_put_38 (by decide) ?_
      refine lv_icmp_lt (tgt := 46) hx hb dX0_put_41 (by decide) (fun c_3 => ?_) (fun c_3 => ?_)
      · rw [nI_ltI (by omega) (by omega)] at c_3
        refine lv_aload_n hx hb dX0_put_46 rfl (lv_at hl 1 rfl) ?_
        refine lv_iload_n hx hb dX0_put_47 rfl (lv_at hl 0 rfl) ?_
        refine mu_callv (va_runV (As := [.int (nI (kb_fst (kb_ah f u w g mf mu ml le) k 0))]) (rest := []) ⟨hx, hb, hml, hown, htl⟩ (c_X0_openPlace l dC dI (kb_fst (kb_ah f u w g mf mu ml le) k 0) A (by omega) (by omega) hD) (cwV 1 htl gX0_60 rfl rfl rfl hd_X0_openPlace ⟨Nat.le_of_ble_eq_true rfl, Nat.le_of_ble_eq_true rfl⟩) ⟨fb_mu, va_recv hK hP (ci := 0) (q0 := 0) rfl rfl, fun U hU hW => ⟨rfl, by rw [hU]; exact hP, va_K.moved hW.alike hK⟩⟩ rfl rfl hl.1 rfl (lv_room (Nat.le_of_ble_eq_true rfl)) dX0_put_48 ⟨Nat.le_of_ble_eq_true rfl, Nat.le_of_ble_eq_true rfl⟩) hS (fun _ h => h) (fun H_4 locs hP hS _ => ?_)
        have hP : va_P (dC, dI) classes [(x, .inr (0, [.ref a1, .ref a2, .ref a3, .ref a4, .ref a5, .int (nI (k + 1)), .int mf, .long mu, .long ml])), (a1, .inl (k1, 1000, .inl (kb_up f (kb_fst (kb_ah f u w g mf mu ml le) k 0) k))), (a2, .inl (k2, 1000, .inr (.inl (kb_up u (kb_fst (kb_ah f u w g mf mu ml le) k 0) k)))), (a3, .inl (k3, 1000, .inr (.inl (kb_up w (kb_fst (kb_ah f u w g mf mu ml le) k 0) k)))), (a4, .inl (k4, 1000, .inl (kb_up g (kb_fst (kb_ah f u w g mf mu ml le) k 0) k))), (a5, .inl (k5, 1000, .inl (kb_up n (kb_fst (kb_ah f u w g mf mu ml le) k 0) k)))] H_4 := hP
        have hD : va_D A [(x, .inr (0, [.ref a1, .ref a2, .ref a3, .ref a4, .ref a5, .int (nI (k + 1)), .int mf, .long mu, .long ml])), (a1, .inl (k1, 1000, .inl (kb_up f (kb_fst (kb_ah f u w g mf mu ml le) k 0) k))), (a2, .inl (k2, 1000, .inr (.inl (kb_up u (kb_fst (kb_ah f u w g mf mu ml le) k 0) k)))), (a3, .inl (k3, 1000, .inr (.inl (kb_up w (kb_fst (kb_ah f u w g mf mu ml le) k 0) k)))), (a4, .inl (k4, 1000, .inl (kb_up g (kb_fst (kb_ah f u w g mf mu ml le) k 0) k))), (a5, .inl (k5, 1000, .inl (kb_up n (kb_fst (kb_ah f u w g mf mu ml le) k 0) k)))] := vd_same hD rfl
        refine lv_aload_n hx hb dX0_put_51 rfl (lv_at hl 1 rfl) ?_
        refine lv_iload_n hx hb dX0_put_52 rfl (lv_at hl 0 rfl) ?_
        refine lv_iload_n hx hb dX0_put_53 rfl (lv_at hl 2 rfl) ?_
        refine lv_iload_n hx hb dX0_put_54 rfl (lv_at hl 3 rfl) ?_
        refine mu_callv (va_runV (As := [.int (nI (kb_fst (kb_ah f u w g mf mu ml le) k 0)), .int le, .int nu]) (rest := []) ⟨hx, hb, hml, hown, htl⟩ (c_X0_write l dC dI (kb_fst (kb_ah f u w g mf mu ml le) k 0) le nu A (by omega) hD) (cwV 3 htl gX0_64 rfl rfl rfl hd_X0_write ⟨Nat.le_of_ble_eq_true rfl, Nat.le_of_ble_eq_true rfl⟩) ⟨fb_mu, va_recv hK hP (ci := 0) (q0 := 0) rfl rfl, fun U hU hW => ⟨rfl, by rw [hU]; exact hP, va_K.moved hW.alike hK⟩⟩ rfl rfl hl.1 rfl (lv_room (Nat.le_of_ble_eq_true rfl)) dX0_put_55 ⟨Nat.le_of_ble_eq_true rfl, Nat.le_of_ble_eq_true rfl⟩) hS (fun _ h => h) (fun H_5 locs hP hS _ => ?_)
        have hP : va_P (dC, dI) classes [(x, .inr (0, [.ref a1, .ref a2, .ref a3, .ref a4, .ref a5, .int (nI (k + 1)), .int mf, .long mu, .long ml])), (a1, .inl (k1, 1000, .inl (upd (kb_up f (kb_fst (kb_ah f u w g mf mu ml le) k 0) k) (kb_fst (kb_ah f u w g mf mu ml le) k 0) mf))), (a2, .inl (k2, 1000, .inr (.inl (vp_updL (kb_up u (kb_fst (kb_ah f u w g mf mu ml le) k 0) k) (kb_fst (kb_ah f u w g mf mu ml le) k 0) mu)))), (a3, .inl (k3, 1000, .inr (.inl (vp_updL (kb_up w (kb_fst (kb_ah f u w g mf mu ml le) k 0) k) (kb_fst (kb_ah f u w g mf mu ml le) k 0) ml)))), (a4, .inl (k4, 1000, .inl (upd (kb_up g (kb_fst (kb_ah f u w g mf mu ml le) k 0) k) (kb_fst (kb_ah f u w g mf mu ml le) k 0) le))), (a5, .inl (k5, 1000, .inl (upd (kb_up n (kb_fst (kb_ah f u w g mf mu ml le) k 0) k) (kb_fst (kb_ah f u w g mf mu ml le) k 0) nu)))] H_5 := hP
        have hD : va_D A [(x, .inr (0, [.ref a1, .ref a2, .ref a3, .ref a4, .ref a5, .int (nI (k + 1)), .int mf, .long mu, .long ml])), (a1, .inl (k1, 1000, .inl (upd (kb_up f (kb_fst (kb_ah f u w g mf mu ml le) k 0) k) (kb_fst (kb_ah f u w g mf mu ml le) k 0) mf))), (a2, .inl (k2, 1000, .inr (.inl (vp_updL (kb_up u (kb_fst (kb_ah f u w g mf mu ml le) k 0) k) (kb_fst (kb_ah f u w g mf mu ml le) k 0) mu)))), (a3, .inl (k3, 1000, .inr (.inl (vp_updL (kb_up w (kb_fst (kb_ah f u w g mf mu ml le) k 0) k) (kb_fst (kb_ah f u w g mf mu ml le) k 0) ml)))), (a4, .inl (k4, 1000, .inl (upd (kb_up g (kb_fst (kb_ah f u w g mf mu ml le) k 0) k) (kb_fst (kb_ah f u w g mf mu ml le) k 0) le))), (a5, .inl (k5, 1000, .inl (upd (kb_up n (kb_fst (kb_ah f u w g mf mu ml le) k 0) k) (kb_fst (kb_ah f u w g mf mu ml le) k 0) nu)))] := vd_same hD rfl
        refine lv_iconst (v := 1) hx hb dX0_put_58 (by decide) ?_
        exact mu_iret hx hb hr hlocks hS hP (by simp only [c_1, c_2, c_3, if_true, if_false, Bool.false_eq_true, reduceIte]) (by simp only [c_1, c_2, c_3, if_true, if_false, Bool.false_eq_true, reduceIte]) dX0_put_59
      · rw [nI_ltI (by omega) (by omega)] at c_3
        refine lv_iconst (v := (-1)) hx hb dX0_put_44 (by decide) ?_
        exact mu_iret hx hb hr hlocks hS hP (by simp only [c_1, c_2, c_3, if_true, if_false, Bool.false_eq_true, reduceIte]) (by simp only [c_1, c_2, c_3, if_true, if_false, Bool.false_eq_true, reduceIte]) dX0_put_45
    · rw [b2i_0, Bool.not_eq_false] at c_2
      have hlt := kb_st_lt c_2
      refine lv_aload_n hx hb dX0_put_25 rfl (lv_at hl 1 rfl) ?_
      refine va_get (D := (dC, dI)) (ci := 0) (v := .ref a5) (C := RX0) (T := TX0) (N := 9) hx hb htl inX0 hown hK hP 0 rfl rfl 4 (by decide) (htl _ flX0_23) (fun _ h9 => h9) rfl dX0_put_26 ?_
      refine lv_iload_n hx hb dX0_put_29 rfl (lv_at hl 0 rfl) ?_
      refine lv_iload_n hx hb dX0_put_30 rfl (lv_at hl 3 rfl) ?_
      refine st_i hx hb hK hP hD hS 5 4 rfl rfl (j := (kb_fst (kb_ah f u w g mf mu ml le) k 0)) (by omega) (Nat.le_of_ble_eq_true rfl) dX0_put_31 (fun H_6 locs hP hD hS => ?_)
      have hP : va_P (dC, dI) classes [(x, .inr (0, [.ref a1, .ref a2, .ref a3, .ref a4, .ref a5, .int (nI k), .int mf, .long mu, .long ml])), (a1, .inl (k1, 1000, .inl f)), (a2, .inl (k2, 1000, .inr (.inl u))), (a3, .inl (k3, 1000, .inr (.inl w))), (a4, .inl (k4, 1000, .inl g)), (a5, .inl (k5, 1000, .inl (upd n (kb_fst (kb_ah f u w g mf mu ml le) k 0) nu)))] H_6 := hP
      have hD : va_D A [(x, .inr (0, [.ref a1, .ref a2, .ref a3, .ref a4, .ref a5, .int (nI k), .int mf, .long mu, .long ml])), (a1, .inl (k1, 1000, .inl f)), (a2, .inl (k2, 1000, .inr (.inl u))), (a3, .inl (k3, 1000, .inr (.inl w))), (a4, .inl (k4, 1000, .inl g)), (a5, .inl (k5, 1000, .inl (upd n (kb_fst (kb_ah f u w g mf mu ml le) k 0) nu)))] := hD
      refine lv_iconst (v := 0) hx hb dX0_put_32 (by decide) ?_
      exact mu_iret hx hb hr hlocks hS hP (by simp only [c_1, c_2, if_true, if_false, Bool.false_eq_true, reduceIte]) (by simp only [c_1, c_2, if_true, if_false, Bool.false_eq_true, reduceIte]) dX0_put_33
  · rw [b2i_0] at c_1
    refine lv_iconst (v := (-1)) hx hb dX0_put_8 (by decide) ?_
    exact mu_iret hx hb hr hlocks hS hP (by simp only [c_1, if_true, if_false, Bool.false_eq_true, reduceIte]) (by simp only [c_1, if_true, if_false, Bool.false_eq_true, reduceIte]) dX0_put_9
set_option maxHeartbeats 4000000 in
set_option maxRecDepth 100000 in
theorem c_X0_remove (l : Launch) (dC : Nat → ClassId) (dI : Nat → Nat → Nat) {x a1 a2 a3 a4 a5 : Nat} {k1 k2 k3 k4 k5 : ClassId} {f : Nat → Int32} {u w : Nat → Int64} {g n : Nat → Int32} {k : Nat} {mf : Int32} {mu ml : Int64} (le : Int32) (A : Nat → Prop) (hk : k ≤ 1000) (hD : va_D A (pbw x a1 a2 a3 a4 a5 k1 k2 k3 k4 k5 f u w g n k mf mu ml)) : Met l yX0_remove (ww yX0_remove cX0_remove 3 (some .int)) ({ frames := 3, cells := 0, slots := 0, locals := 67 } : Room) (va_Pc [.ref x, .int le] (fun U => va_P (dC, dI) classes (pbw x a1 a2 a3 a4 a5 k1 k2 k3 k4 k5 f u w g n k mf mu ml) U.heap ∧ va_K (dC, dI) classes (pbt k1 k2 k3 k4 k5) U)) (va_Qi (fun r (_ : Unit) => r = (if kb_pre mf mu ml le = true then (if kb_st f u w g mf mu ml le k (kb_fst (kb_ah f u w g mf mu ml le) k 0) = true then (1 : Int32) else 0) else (-1))) (fun _ t => va_P (dC, dI) classes (if kb_pre mf mu ml le = true then (if kb_st f u w g mf mu ml le k (kb_fst (kb_ah f u w g mf mu ml le) k 0) = true then (pbw x a1 a2 a3 a4 a5 k1 k2 k3 k4 k5 (kb_dn f (kb_fst (kb_ah f u w g mf mu ml le) k 0) (k - 1)) (kb_dn u (kb_fst (kb_ah f u w g mf mu ml le) k 0) (k - 1)) (kb_dn w (kb_fst (kb_ah f u w g mf mu ml le) k 0) (k - 1)) (kb_dn g (kb_fst (kb_ah f u w g mf mu ml le) k 0) (k - 1)) (kb_dn n (kb_fst (kb_ah f u w g mf mu ml le) k 0) (k - 1)) (k - 1) mf mu ml) else (pbw x a1 a2 a3 a4 a5 k1 k2 k3 k4 k5 f u w g n k mf mu ml)) else (pbw x a1 a2 a3 a4 a5 k1 k2 k3 k4 k5 f u w g n k mf mu ml)) t.heap) A) 0 0 A := by
  refine Met.ofW (cc := cX0_remove) (maxL := 3) (ret := (some .int)) (by decide) rfl ?_
  intro p e s m args below meth c s₁ B hml hv
  obtain ⟨rfl, hP, hK⟩ := hv
  have hS : va_S A s.heap s.heap [] := va_S.rf
  have hx := B.exec
  have hb := B.bytes
  have hr := B.returns
  have hts := atoms_spec (ws := ww yX0_remove cX0_remove 3 (some .int)) B.pre
  have htl : ∀ w ∈ ltg, w.before [.ref x, .int le].toArray s = true := fun w h => hts w (List.mem_cons_of_mem _ h)
  have hown : s.vm.findClass RX0 = some m.cls := findClass_of_methodNamed B.named
  have hlocks := B.notSynchronized
  have hl := lv_entry ([.ref x, .int le]) (n := 3) (Nat.le_of_ble_eq_true rfl)
  rw [lg_entry_eq]
  generalize (lg_sl ([.ref x, .int le]) ++ List.replicate (3 - (lg_sl ([.ref x, .int le])).length) Slot.unset).toArray = ls at hl ⊢
  have hl : lv_has ls 3 [(0, .ref x), (1, .int le)] := hl
  refine lv_aload_n hx hb dX0_remove_0 rfl (lv_at hl 0 rfl) ?_
  refine lv_iload_n hx hb dX0_remove_1 rfl (lv_at hl 1 rfl) ?_
  refine ru_calli (va_runV (As := [.int le]) (rest := []) ⟨hx, hb, hml, hown, htl⟩ (c_X0_isPrefix l dC dI le _ hP) (cwV 1 htl gX0_48 rfl rfl rfl hd_X0_isPrefix ⟨Nat.le_of_ble_eq_true rfl, Nat.le_of_ble_eq_true rfl⟩) ⟨fb_ro, va_recv hK hP (ci := 0) (q0 := 0) rfl rfl, fun U hU hW => ⟨rfl, hU, va_K.moved hW.alike hK⟩⟩ rfl rfl hl.1 rfl (lv_room (Nat.le_of_ble_eq_true rfl)) dX0_remove_2 ⟨Nat.le_of_ble_eq_true rfl, Nat.le_of_ble_eq_true rfl⟩) ?_
  refine lv_if_ne (tgt := 10) hx hb dX0_remove_5 (by decide) (fun c_1 => ?_) (fun c_1 => ?_)
  · rw [b2i_0, Bool.not_eq_false] at c_1
    refine lv_aload_n hx hb dX0_remove_10 rfl (lv_at hl 0 rfl) ?_
    refine lv_iload_n hx hb dX0_remove_11 rfl (lv_at hl 1 rfl) ?_
    refine ru_calli (va_runV (As := [.int le]) (rest := []) ⟨hx, hb, hml, hown, htl⟩ (c_X0_countAhead l dC dI le _ hk hP) (cwV 1 htl gX0_52 rfl rfl rfl hd_X0_countAhead ⟨Nat.le_of_ble_eq_true rfl, Nat.le_of_ble_eq_true rfl⟩) ⟨fb_ro, va_recv hK hP (ci := 0) (q0 := 0) rfl rfl, fun U hU hW => ⟨rfl, hU, va_K.moved hW.alike hK⟩⟩ rfl rfl hl.1 rfl (lv_room (Nat.le_of_ble_eq_true rfl)) dX0_remove_12 ⟨Nat.le_of_ble_eq_true rfl, Nat.le_of_ble_eq_true rfl⟩) ?_
    refine lv_istore_n (lv' := [(2, .int (nI (kb_fst (kb_ah f u w g mf mu ml le) k 0))), (0, .ref x), (1, .int le)]) hx hb dX0_remove_15 rfl hl (by decide) rfl (fun ls hl => ?_)
    have hr0 := kb_fst_le (kb_ah f u w g mf mu ml le) k 0
    refine lv_aload_n hx hb dX0_remove_16 rfl (lv_at hl 1 rfl) ?_
    refine lv_iload_n hx hb dX0_remove_17 rfl (lv_at hl 0 rfl) ?_
    refine lv_iload_n hx hb dX0_remove_18 rfl (lv_at hl 2 rfl) ?_
    refine ru_calli (va_runV (As := [.int (nI (kb_fst (kb_ah f u w g mf mu ml le) k 0)), .int le]) (rest := []) ⟨hx, hb, hml, hown, htl⟩ (c_X0_standsAt l dC dI (kb_fst (kb_ah f u w g mf mu ml le) k 0) le _ hk (by omega) hP) (cwV 2 htl gX0_56 rfl rfl rfl hd_X0_standsAt ⟨Nat.le_of_ble_eq_true rfl, Nat.le_of_ble_eq_true rfl⟩) ⟨fb_ro, va_recv hK hP (ci := 0) (q0 := 0) rfl rfl, fun U hU hW => ⟨rfl, hU, va_K.moved hW.alike hK⟩⟩ rfl rfl hl.1 rfl (lv_room (Nat.le_of_ble_eq_true rfl)) dX0_remove_19 ⟨Nat.le_of_ble_eq_true rfl, Nat.le_of_ble_eq_true rfl⟩) ?_
    refine lv_if_ne (tgt := 27) hx hb dX0_remove_22 (by decide) (fun c_2 => ?_) (fun c_2 => ?_)
    · rw [b2i_0, Bool.not_eq_false] at c_2
      have hlt := kb_st_lt c_2
      refine lv_aload_n hx hb dX0_remove_27 rfl (lv_at hl 1 rfl) ?_
      refine lv_iload_n hx hb dX0_remove_28 rfl (lv_at hl 0 rfl) ?_
      refine mu_callv (va_runV (As := [.int (nI (kb_fst (kb_ah f u w g mf mu ml le) k 0))]) (rest := []) ⟨hx, hb, hml, hown, htl⟩ (c_X0_closeP l dC dI (kb_fst (kb_ah f u w g mf mu ml le) k 0) A (by omega) (by omega) hD) (cwV 1 htl gX0_68 rfl rfl rfl hd_X0_closePlace ⟨Nat.le_of_ble_eq_true rfl, Nat.le_of_ble_eq_true rfl⟩) ⟨fb_mu, va_recv hK hP (ci := 0) (q0 := 0) rfl rfl, fun U hU hW => ⟨rfl, by rw [hU]; exact hP, va_K.moved hW.alike hK⟩⟩ rfl rfl hl.1 rfl (lv_room (Nat.le_of_ble_eq_true rfl)) dX0_remove_29 ⟨Nat.le_of_ble_eq_true rfl, Nat.le_of_ble_eq_true rfl⟩) hS (fun _ h => h) (fun H_3 locs hP hS _ => ?_)
      have hP : va_P (dC, dI) classes [(x, .inr (0, [.ref a1, .ref a2, .ref a3, .ref a4, .ref a5, .int (nI (k - 1)), .int mf, .long mu, .long ml])), (a1, .inl (k1, 1000, .inl (kb_dn f (kb_fst (kb_ah f u w g mf mu ml le) k 0) (k - 1)))), (a2, .inl (k2, 1000, .inr (.inl (kb_dn u (kb_fst (kb_ah f u w g mf mu ml le) k 0) (k - 1))))), (a3, .inl (k3, 1000, .inr (.inl (kb_dn w (kb_fst (kb_ah f u w g mf mu ml le) k 0) (k - 1))))), (a4, .inl (k4, 1000, .inl (kb_dn g (kb_fst (kb_ah f u w g mf mu ml le) k 0) (k - 1)))), (a5, .inl (k5, 1000, .inl (kb_dn n (kb_fst (kb_ah f u w g mf mu ml le) k 0) (k - 1))))] H_3 := hP
      have hD : va_D A [(x, .inr (0, [.ref a1, .ref a2, .ref a3, .ref a4, .ref a5, .int (nI (k - 1)), .int mf, .long mu, .long ml])), (a1, .inl (k1, 1000, .inl (kb_dn f (kb_fst (kb_ah f u w g mf mu ml le) k 0) (k - 1)))), (a2, .inl (k2, 1000, .inr (.inl (kb_dn u (kb_fst (kb_ah f u w g mf mu ml le) k 0) (k - 1))))), (a3, .inl (k3, 1000, .inr (.inl (kb_dn w (kb_fst (kb_ah f u w g mf mu ml le) k 0) (k - 1))))), (a4, .inl (k4, 1000, .inl (kb_dn g (kb_fst (kb_ah f u w g mf mu ml le) k 0) (k - 1)))), (a5, .inl (k5, 1000, .inl (kb_dn n (kb_fst (kb_ah f u w g mf mu ml le) k 0) (k - 1))))] := vd_same hD rfl
      refine lv_iconst (v := 1) hx hb dX0_remove_32 (by decide) ?_
      exact mu_iret hx hb hr hlocks hS hP (by simp only [c_1, c_2, if_true, if_false, Bool.false_eq_true, reduceIte]) (by simp only [c_1, c_2, if_true, if_false, Bool.false_eq_true, reduceIte]) dX0_remove_33
    · rw [b2i_0] at c_2
      refine lv_iconst (v := 0) hx hb dX0_remove_25 (by decide) ?_
      exact mu_iret hx hb hr hlocks hS hP (by simp only [c_1, c_2, if_true, if_false, Bool.false_eq_true, reduceIte]) (by simp only [c_1, c_2, if_true, if_false, Bool.false_eq_true, reduceIte]) dX0_remove_26
  · rw [b2i_0] at c_1
    refine lv_iconst (v := (-1)) hx hb dX0_remove_8 (by decide) ?_
    exact mu_iret hx hb hr hlocks hS hP (by simp only [c_1, if_true, if_false, Bool.false_eq_true, reduceIte]) (by simp only [c_1, if_true, if_false, Bool.false_eq_true, reduceIte]) dX0_remove_9
set_option maxHeartbeats 4000000 in
set_option maxRecDepth 100000 in
theorem c_X0_number (l : Launch) (dC : Nat → ClassId) (dI : Nat → Nat → Nat) {x a1 a2 a3 a4 a5 : Nat} {k1 k2 k3 k4 k5 : ClassId} {f : Nat → Int32} {u w : Nat → Int64} {g n : Nat → Int32} {k : Nat} {mf : Int32} {mu ml : Int64} (le : Int32) (Hh : Heap) (hk : k ≤ 1000) (hP : va_P (dC, dI) classes (pbw x a1 a2 a3 a4 a5 k1 k2 k3 k4 k5 f u w g n k mf mu ml) Hh) : Met l yX0_number (ww yX0_number cX0_number 3 (some .int)) ({ frames := 3, cells := 0, slots := 0, locals := 67 } : Room) (va_Pc [.ref x, .int le] (fun U => U.heap = Hh ∧ va_K (dC, dI) classes (pbt k1 k2 k3 k4 k5) U)) (va_Qi (fun r (_ : Unit) => r = (if kb_st f u w g mf mu ml le k (kb_fst (kb_ah f u w g mf mu ml le) k 0) = true then n (kb_fst (kb_ah f u w g mf mu ml le) k 0) else (-2147483648))) (fun _ t => t.heap = Hh) (fun _ => False)) 0 0 (fun _ => False) := by
  refine Met.ofW (cc := cX0_number) (maxL := 3) (ret := (some .int)) (by decide) rfl ?_
  intro p e s m args below meth c s₁ B hml hv
  obtain ⟨rfl, hHh, hK⟩ := hv
  subst hHh
  have hx := B.exec
  have hb := B.bytes
  have hr := B.returns
  have hts := atoms_spec (ws := ww yX0_number cX0_number 3 (some .int)) B.pre
  have htl : ∀ w ∈ ltg, w.before [.ref x, .int le].toArray s = true := fun w h => hts w (List.mem_cons_of_mem _ h)
  have hown : s.vm.findClass RX0 = some m.cls := findClass_of_methodNamed B.named
  have hlocks := B.notSynchronized
  have hl := lv_entry ([.ref x, .int le]) (n := 3) (Nat.le_of_ble_eq_true rfl)
  rw [lg_entry_eq]
  generalize (lg_sl ([.ref x, .int le]) ++ List.replicate (3 - (lg_sl ([.ref x, .int le])).length) Slot.unset).toArray = ls at hl ⊢
  have hl : lv_has ls 3 [(0, .ref x), (1, .int le)] := hl
  refine lv_aload_n hx hb dX0_number_0 rfl (lv_at hl 0 rfl) ?_
  refine lv_iload_n hx hb dX0_number_1 rfl (lv_at hl 1 rfl) ?_
  refine ru_calli (va_runV (As := [.int le]) (rest := []) ⟨hx, hb, hml, hown, htl⟩ (c_X0_countAhead l dC dI le _ hk hP) (cwV 1 htl gX0_52 rfl rfl rfl hd_X0_countAhead ⟨Nat.le_of_ble_eq_true rfl, Nat.le_of_ble_eq_true rfl⟩) ⟨fb_ro, va_recv hK hP (ci := 0) (q0 := 0) rfl rfl, fun U hU hW => ⟨rfl, hU, va_K.moved hW.alike hK⟩⟩ rfl rfl hl.1 rfl (lv_room (Nat.le_of_ble_eq_true rfl)) dX0_number_2 ⟨Nat.le_of_ble_eq_true rfl, Nat.le_of_ble_eq_true rfl⟩) ?_
  refine lv_istore_n (lv' := [(2, .int (nI (kb_fst (kb_ah f u w g mf mu ml le) k 0))), (0, .ref x), (1, .int le)]) hx hb dX0_number_5 rfl hl (by decide) rfl (fun ls hl => ?_)
  have hr0 := kb_fst_le (kb_ah f u w g mf mu ml le) k 0
  refine lv_aload_n hx hb dX0_number_6 rfl (lv_at hl 1 rfl) ?_
  refine lv_iload_n hx hb dX0_number_7 rfl (lv_at hl 0 rfl) ?_
  refine lv_iload_n hx hb dX0_number_8 rfl (lv_at hl 2 rfl) ?_
  refine ru_calli (va_runV (As := [.int (nI (kb_fst (kb_ah f u w g mf mu ml le) k 0)), .int le]) (rest := []) ⟨hx, hb, hml, hown, htl⟩ (c_X0_standsAt l dC dI (kb_fst (kb_ah f u w g mf mu ml le) k 0) le _ hk (by omega) hP) (cwV 2 htl gX0_56 rfl rfl rfl hd_X0_standsAt ⟨Nat.le_of_ble_eq_true rfl, Nat.le_of_ble_eq_true rfl⟩) ⟨fb_ro, va_recv hK hP (ci := 0) (q0 := 0) rfl rfl, fun U hU hW => ⟨rfl, hU, va_K.moved hW.alike hK⟩⟩ rfl rfl hl.1 rfl (lv_room (Nat.le_of_ble_eq_true rfl)) dX0_number_9 ⟨Nat.le_of_ble_eq_true rfl, Nat.le_of_ble_eq_true rfl⟩) ?_
  refine lv_if_eq (tgt := 24) hx hb dX0_number_12 (by decide) (fun c_1 => ?_) (fun c_1 => ?_)
  · rw [b2i_0] at c_1
    refine lv_ldc (v := (-2147483648)) hx hb hown (htl _ kcX0_71) dX0_number_24 ?_
    exact ru_iret hx hb hr hlocks (by simp only [c_1, if_true, if_false, Bool.false_eq_true, reduceIte]) dX0_number_26
  · rw [b2i_0, Bool.not_eq_false] at c_1
    have hlt := kb_st_lt c_1
    refine lv_aload_n hx hb dX0_number_15 rfl (lv_at hl 1 rfl) ?_
    refine va_get (D := (dC, dI)) (ci := 0) (v := .ref a5) (C := RX0) (T := TX0) (N := 9) hx hb htl inX0 hown hK hP 0 rfl rfl 4 (by decide) (htl _ flX0_23) (fun _ h9 => h9) rfl dX0_number_16 ?_
    refine lv_iload_n hx hb dX0_number_19 rfl (lv_at hl 0 rfl) ?_
    refine ld_i hx hb hK hP 5 4 rfl rfl (j := (kb_fst (kb_ah f u w g mf mu ml le) k 0)) (by omega) (Nat.le_of_ble_eq_true rfl) dX0_number_20 ?_
    refine lv_goto (tgt := 26) hx hb dX0_number_21 (by decide) ?_
    exact ru_iret hx hb hr hlocks (by simp only [c_1, if_true, if_false, Bool.false_eq_true, reduceIte]) dX0_number_26
set_option maxHeartbeats 4000000 in
set_option maxRecDepth 100000 in
theorem c_X0_ahead (l : Launch) (dC : Nat → ClassId) (dI : Nat → Nat → Nat) {x a1 a2 a3 a4 a5 : Nat} {k1 k2 k3 k4 k5 : ClassId} {f : Nat → Int32} {u w : Nat → Int64} {g n : Nat → Int32} {k : Nat} {mf : Int32} {mu ml : Int64} (le : Int32) (Hh : Heap) (hk : k ≤ 1000) (hP : va_P (dC, dI) classes (pbw x a1 a2 a3 a4 a5 k1 k2 k3 k4 k5 f u w g n k mf mu ml) Hh) : Met l yX0_ahead (ww yX0_ahead cX0_ahead 2 (some .int)) ({ frames := 3, cells := 0, slots := 0, locals := 67 } : Room) (va_Pc [.ref x, .int le] (fun U => U.heap = Hh ∧ va_K (dC, dI) classes (pbt k1 k2 k3 k4 k5) U)) (va_Qi (fun r (_ : Unit) => r = (if kb_len mf le = true then nI (kb_fst (kb_ah f u w g mf mu ml le) k 0) else (-1))) (fun _ t => t.heap = Hh) (fun _ => False)) 0 0 (fun _ => False) := by
  refine Met.ofW (cc := cX0_ahead) (maxL := 2) (ret := (some .int)) (by decide) rfl ?_
  intro p e s m args below meth c s₁ B hml hv
  obtain ⟨rfl, hHh, hK⟩ := hv
  subst hHh
  have hx := B.exec
  have hb := B.bytes
  have hr := B.returns
  have hts := atoms_spec (ws := ww yX0_ahead cX0_ahead 2 (some .int)) B.pre
  have htl : ∀ w ∈ ltg, w.before [.ref x, .int le].toArray s = true := fun w h => hts w (List.mem_cons_of_mem _ h)
  have hown : s.vm.findClass RX0 = some m.cls := findClass_of_methodNamed B.named
  have hlocks := B.notSynchronized
  have hl := lv_entry ([.ref x, .int le]) (n := 2) (Nat.le_of_ble_eq_true rfl)
  rw [lg_entry_eq]
  generalize (lg_sl ([.ref x, .int le]) ++ List.replicate (2 - (lg_sl ([.ref x, .int le])).length) Slot.unset).toArray = ls at hl ⊢
  have hl : lv_has ls 2 [(0, .ref x), (1, .int le)] := hl
  refine lv_aload_n hx hb dX0_ahead_0 rfl (lv_at hl 0 rfl) ?_
  refine lv_iload_n hx hb dX0_ahead_1 rfl (lv_at hl 1 rfl) ?_
  refine ru_calli (va_runV (As := [.int le]) (rest := []) ⟨hx, hb, hml, hown, htl⟩ (c_X0_isLength l dC dI le _ hP) (cwV 1 htl gX0_75 rfl rfl rfl hd_X0_isLength ⟨Nat.le_of_ble_eq_true rfl, Nat.le_of_ble_eq_true rfl⟩) ⟨fb_ro, va_recv hK hP (ci := 0) (q0 := 0) rfl rfl, fun U hU hW => ⟨rfl, hU, va_K.moved hW.alike hK⟩⟩ rfl rfl hl.1 rfl (lv_room (Nat.le_of_ble_eq_true rfl)) dX0_ahead_2 ⟨Nat.le_of_ble_eq_true rfl, Nat.le_of_ble_eq_true rfl⟩) ?_
  refine lv_if_eq (tgt := 16) hx hb dX0_ahead_5 (by decide) (fun c_1 => ?_) (fun c_1 => ?_)
  · rw [b2i_0] at c_1
    refine lv_iconst (v := (-1)) hx hb dX0_ahead_16 (by decide) ?_
    exact ru_iret hx hb hr hlocks (by simp only [c_1, if_true, if_false, Bool.false_eq_true, reduceIte]) dX0_ahead_17
  · rw [b2i_0, Bool.not_eq_false] at c_1
    refine lv_aload_n hx hb dX0_ahead_8 rfl (lv_at hl 0 rfl) ?_
    refine lv_iload_n hx hb dX0_ahead_9 rfl (lv_at hl 1 rfl) ?_
    refine ru_calli (va_runV (As := [.int le]) (rest := []) ⟨hx, hb, hml, hown, htl⟩ (c_X0_countAhead l dC dI le _ hk hP) (cwV 1 htl gX0_52 rfl rfl rfl hd_X0_countAhead ⟨Nat.le_of_ble_eq_true rfl, Nat.le_of_ble_eq_true rfl⟩) ⟨fb_ro, va_recv hK hP (ci := 0) (q0 := 0) rfl rfl, fun U hU hW => ⟨rfl, hU, va_K.moved hW.alike hK⟩⟩ rfl rfl hl.1 rfl (lv_room (Nat.le_of_ble_eq_true rfl)) dX0_ahead_10 ⟨Nat.le_of_ble_eq_true rfl, Nat.le_of_ble_eq_true rfl⟩) ?_
    refine lv_goto (tgt := 17) hx hb dX0_ahead_13 (by decide) ?_
    exact ru_iret hx hb hr hlocks (by simp only [c_1, if_true, if_false, Bool.false_eq_true, reduceIte]) dX0_ahead_17
set_option maxHeartbeats 4000000 in
set_option maxRecDepth 100000 in
theorem c_X0_size (l : Launch) (dC : Nat → ClassId) (dI : Nat → Nat → Nat) {x a1 a2 a3 a4 a5 : Nat} {k1 k2 k3 k4 k5 : ClassId} {f : Nat → Int32} {u w : Nat → Int64} {g n : Nat → Int32} {k : Nat} {mf : Int32} {mu ml : Int64}  (Hh : Heap)  (hP : va_P (dC, dI) classes (pbw x a1 a2 a3 a4 a5 k1 k2 k3 k4 k5 f u w g n k mf mu ml) Hh) : Met l yX0_size (ww yX0_size cX0_size 1 (some .int)) ({ frames := 0, cells := 0, slots := 0, locals := 0 } : Room) (va_Pc [.ref x] (fun U => U.heap = Hh ∧ va_K (dC, dI) classes (pbt k1 k2 k3 k4 k5) U)) (va_Qi (fun r (_ : Unit) => r = (nI k)) (fun _ t => t.heap = Hh) (fun _ => False)) 0 0 (fun _ => False) := by
  refine Met.ofW (cc := cX0_size) (maxL := 1) (ret := (some .int)) (by decide) rfl ?_
  intro p e s m args below meth c s₁ B hml hv
  obtain ⟨rfl, hHh, hK⟩ := hv
  subst hHh
  have hx := B.exec
  have hb := B.bytes
  have hr := B.returns
  have hts := atoms_spec (ws := ww yX0_size cX0_size 1 (some .int)) B.pre
  have htl : ∀ w ∈ ltg, w.before [.ref x].toArray s = true := fun w h => hts w (List.mem_cons_of_mem _ h)
  have hown : s.vm.findClass RX0 = some m.cls := findClass_of_methodNamed B.named
  have hlocks := B.notSynchronized
  have hl := lv_entry ([.ref x]) (n := 1) (Nat.le_of_ble_eq_true rfl)
  rw [lg_entry_eq]
  generalize (lg_sl ([.ref x]) ++ List.replicate (1 - (lg_sl ([.ref x])).length) Slot.unset).toArray = ls at hl ⊢
  have hl : lv_has ls 1 [(0, .ref x)] := hl
  refine lv_aload_n hx hb dX0_size_0 rfl (lv_at hl 0 rfl) ?_
  refine va_get (D := (dC, dI)) (ci := 0) (v := .int (nI k)) (C := RX0) (T := TX0) (N := 9) hx hb htl inX0 hown hK hP 0 rfl rfl 5 (by decide) (htl _ flX0_26) (fun _ h9 => h9) rfl dX0_size_1 ?_
  exact ru_iret hx hb hr hlocks (rfl) dX0_size_4
set_option maxHeartbeats 4000000 in
set_option maxRecDepth 100000 in
theorem c_X0_told (l : Launch) (dC : Nat → ClassId) (dI : Nat → Nat → Nat) {x a1 a2 a3 a4 a5 : Nat} {k1 k2 k3 k4 k5 : ClassId} {f : Nat → Int32} {u w : Nat → Int64} {g n : Nat → Int32} {k : Nat} {mf : Int32} {mu ml : Int64} (wh : Int32) (Hh : Heap)  (hP : va_P (dC, dI) classes (pbw x a1 a2 a3 a4 a5 k1 k2 k3 k4 k5 f u w g n k mf mu ml) Hh) : Met l yX0_told (ww yX0_told cX0_told 2 (some .long)) ({ frames := 0, cells := 0, slots := 0, locals := 0 } : Room) (va_Pc [.ref x, .int wh] (fun U => U.heap = Hh ∧ va_K (dC, dI) classes (pbt k1 k2 k3 k4 k5) U)) (va_Ql (fun r (_ : Unit) => r = (if wh = 0 then mf.toInt64 else if wh = 1 then mu else if wh = 2 then ml else 0)) (fun _ t => t.heap = Hh) (fun _ => False)) 0 0 (fun _ => False) := by
  refine Met.ofW (cc := cX0_told) (maxL := 2) (ret := (some .long)) (by decide) rfl ?_
  intro p e s m args below meth c s₁ B hml hv
  obtain ⟨rfl, hHh, hK⟩ := hv
  subst hHh
  have hx := B.exec
  have hb := B.bytes
  have hr := B.returns
  have hts := atoms_spec (ws := ww yX0_told cX0_told 2 (some .long)) B.pre
  have htl : ∀ w ∈ ltg, w.before [.ref x, .int wh].toArray s = true := fun w h => hts w (List.mem_cons_of_mem _ h)
  have hown : s.vm.findClass RX0 = some m.cls := findClass_of_methodNamed B.named
  have hlocks := B.notSynchronized
  have hl := lv_entry ([.ref x, .int wh]) (n := 2) (Nat.le_of_ble_eq_true rfl)
  rw [lg_entry_eq]
  generalize (lg_sl ([.ref x, .int wh]) ++ List.replicate (2 - (lg_sl ([.ref x, .int wh])).length) Slot.unset).toArray = ls at hl ⊢
  have hl : lv_has ls 2 [(0, .ref x), (1, .int wh)] := hl
  refine lv_iload_n hx hb dX0_told_0 rfl (lv_at hl 1 rfl) ?_
  by_cases t_1 : wh = 0
  · refine lv_tableIn (off := 27) (tgt := 28) hx hb dX0_told_1 (by rw [t_1]; decide) (by rw [t_1]; decide) (by rw [t_1]; rfl) (by decide) ?_
    refine lv_aload_n hx hb dX0_told_28 rfl (lv_at hl 0 rfl) ?_
    refine va_get (D := (dC, dI)) (ci := 0) (v := .int mf) (C := RX0) (T := TX0) (N := 9) hx hb htl inX0 hown hK hP 0 rfl rfl 6 (by decide) (htl _ flX0_30) (fun _ h9 => h9) rfl dX0_told_29 ?_
    refine lv_i2l hx hb dX0_told_32 rfl ?_
    exact ru_lret hx hb hr hlocks (by simp [t_1]) dX0_told_33
  by_cases t_2 : wh = 1
  · refine lv_tableIn (off := 33) (tgt := 34) hx hb dX0_told_1 (by rw [t_2]; decide) (by rw [t_2]; decide) (by rw [t_2]; rfl) (by decide) ?_
    refine lv_aload_n hx hb dX0_told_34 rfl (lv_at hl 0 rfl) ?_
    refine va_get (D := (dC, dI)) (ci := 0) (v := .long mu) (C := RX0) (T := TX0) (N := 9) hx hb htl inX0 hown hK hP 0 rfl rfl 7 (by decide) (htl _ flX0_33) (fun _ h9 => h9) rfl dX0_told_35 ?_
    exact ru_lret hx hb hr hlocks (by simp [t_1, t_2]) dX0_told_38
  by_cases t_3 : wh = 2
  · refine lv_tableIn (off := 38) (tgt := 39) hx hb dX0_told_1 (by rw [t_3]; decide) (by rw [t_3]; decide) (by rw [t_3]; rfl) (by decide) ?_
    refine lv_aload_n hx hb dX0_told_39 rfl (lv_at hl 0 rfl) ?_
    refine va_get (D := (dC, dI)) (ci := 0) (v := .long ml) (C := RX0) (T := TX0) (N := 9) hx hb htl inX0 hown hK hP 0 rfl rfl 8 (by decide) (htl _ flX0_37) (fun _ h9 => h9) rfl dX0_told_40 ?_
    exact ru_lret hx hb hr hlocks (by simp [t_1, t_2, t_3]) dX0_told_43
  refine lv_tableOut (tgt := 44) hx hb dX0_told_1 (by have zt_1 := lv_neT t_1 (a := 0) rfl; have zt_2 := lv_neT t_2 (a := 1) rfl; have zt_3 := lv_neT t_3 (a := 2) rfl; omega) (by decide) ?_
  refine lv_lconst (v := 0) hx hb dX0_told_44 (by decide) ?_
  exact ru_lret hx hb hr hlocks (by simp [t_1, t_2, t_3]) dX0_told_45
set_option maxHeartbeats 4000000 in
set_option maxRecDepth 100000 in
theorem c_X0_address (l : Launch) (dC : Nat → ClassId) (dI : Nat → Nat → Nat) {x a1 a2 a3 a4 a5 : Nat} {k1 k2 k3 k4 k5 : ClassId} {f : Nat → Int32} {u w : Nat → Int64} {g n : Nat → Int32} {k : Nat} {mf : Int32} {mu ml : Int64} (fa : Int32) (up lo : Int64) (A : Nat → Prop)  (hD : va_D A (pbw x a1 a2 a3 a4 a5 k1 k2 k3 k4 k5 f u w g n k mf mu ml)) : Met l yX0_address (ww yX0_address cX0_address 6 (some .boolean)) ({ frames := 1, cells := 0, slots := 0, locals := 25 } : Room) (va_Pc [.ref x, .int fa, .long up, .long lo] (fun U => va_P (dC, dI) classes (pbw x a1 a2 a3 a4 a5 k1 k2 k3 k4 k5 f u w g n k mf mu ml) U.heap ∧ va_K (dC, dI) classes (pbt k1 k2 k3 k4 k5) U)) (va_Qi (fun r (_ : Unit) => r = (b2i (kb_addr fa up lo))) (fun _ t => va_P (dC, dI) classes (if kb_addr fa up lo = true then (pbw x a1 a2 a3 a4 a5 k1 k2 k3 k4 k5 f u w g n k fa up lo) else (pbw x a1 a2 a3 a4 a5 k1 k2 k3 k4 k5 f u w g n k mf mu ml)) t.heap) A) 0 0 A := by
  refine Met.ofW (cc := cX0_address) (maxL := 6) (ret := (some .boolean)) (by decide) rfl ?_
  intro p e s m args below meth c s₁ B hml hv
  obtain ⟨rfl, hP, hK⟩ := hv
  have hS : va_S A s.heap s.heap [] := va_S.rf
  have hx := B.exec
  have hb := B.bytes
  have hr := B.returns
  have hts := atoms_spec (ws := ww yX0_address cX0_address 6 (some .boolean)) B.pre
  have htl : ∀ w ∈ ltg, w.before [.ref x, .int fa, .long up, .long lo].toArray s = true := fun w h => hts w (List.mem_cons_of_mem _ h)
  have hown : s.vm.findClass RX0 = some m.cls := findClass_of_methodNamed B.named
  have hlocks := B.notSynchronized
  have hl := lv_entry ([.ref x, .int fa, .long up, .long lo]) (n := 6) (Nat.le_of_ble_eq_true rfl)
  rw [lg_entry_eq]
  generalize (lg_sl ([.ref x, .int fa, .long up, .long lo]) ++ List.replicate (6 - (lg_sl ([.ref x, .int fa, .long up, .long lo])).length) Slot.unset).toArray = ls at hl ⊢
  have hl : lv_has ls 6 [(0, .ref x), (1, .int fa), (2, .long up), (4, .long lo)] := hl
  refine lv_iload_n hx hb dX0_address_0 rfl (lv_at hl 1 rfl) ?_
  refine lv_lload_n hx hb dX0_address_1 rfl (lv_at hl 2 rfl) ?_
  refine lv_lload hx hb dX0_address_2 (lv_at hl 3 rfl) ?_
  refine ru_calli (va_runS (As := [.int fa, .long up, .long lo]) (rest := []) ⟨hx, hb, hml, hown, htl⟩ (c_X0_isAddress l dC dI fa up lo _) (cwS 3 htl gX0_40 rfl rfl rfl hd_X0_isAddress ⟨Nat.le_of_ble_eq_true rfl, Nat.le_of_ble_eq_true rfl⟩) ⟨fb_ro, fun U hU hW => ⟨rfl, hU, va_K.moved hW.alike hK⟩⟩ rfl rfl hl.1 rfl (lv_room (Nat.le_of_ble_eq_true rfl)) dX0_address_4 ⟨Nat.le_of_ble_eq_true rfl, Nat.le_of_ble_eq_true rfl⟩) ?_
  refine lv_if_ne (tgt := 12) hx hb dX0_address_7 (by decide) (fun c_1 => ?_) (fun c_1 => ?_)
  · rw [b2i_0, Bool.not_eq_false] at c_1
    refine lv_aload_n hx hb dX0_address_12 rfl (lv_at hl 0 rfl) ?_
    refine lv_iload_n hx hb dX0_address_13 rfl (lv_at hl 1 rfl) ?_
    refine lv_lload_n hx hb dX0_address_14 rfl (lv_at hl 2 rfl) ?_
    refine lv_lload hx hb dX0_address_15 (lv_at hl 3 rfl) ?_
    refine mu_callv (va_runV (As := [.int fa, .long up, .long lo]) (rest := []) ⟨hx, hb, hml, hown, htl⟩ (c_X0_mean l dC dI fa up lo A hD) (cwV 3 htl gX0_44 rfl rfl rfl hd_X0_mean ⟨Nat.le_of_ble_eq_true rfl, Nat.le_of_ble_eq_true rfl⟩) ⟨fb_mu, va_recv hK hP (ci := 0) (q0 := 0) rfl rfl, fun U hU hW => ⟨rfl, by rw [hU]; exact hP, va_K.moved hW.alike hK⟩⟩ rfl rfl hl.1 rfl (lv_room (Nat.le_of_ble_eq_true rfl)) dX0_address_17 ⟨Nat.le_of_ble_eq_true rfl, Nat.le_of_ble_eq_true rfl⟩) hS (fun _ h => h) (fun H_2 locs hP hS _ => ?_)
    have hP : va_P (dC, dI) classes [(x, .inr (0, [.ref a1, .ref a2, .ref a3, .ref a4, .ref a5, .int (nI k), .int fa, .long up, .long lo])), (a1, .inl (k1, 1000, .inl f)), (a2, .inl (k2, 1000, .inr (.inl u))), (a3, .inl (k3, 1000, .inr (.inl w))), (a4, .inl (k4, 1000, .inl g)), (a5, .inl (k5, 1000, .inl n))] H_2 := hP
    have hD : va_D A [(x, .inr (0, [.ref a1, .ref a2, .ref a3, .ref a4, .ref a5, .int (nI k), .int fa, .long up, .long lo])), (a1, .inl (k1, 1000, .inl f)), (a2, .inl (k2, 1000, .inr (.inl u))), (a3, .inl (k3, 1000, .inr (.inl w))), (a4, .inl (k4, 1000, .inl g)), (a5, .inl (k5, 1000, .inl n))] := vd_same hD rfl
    refine lv_iconst (v := 1) hx hb dX0_address_20 (by decide) ?_
    exact mu_zret hx hb hr hlocks hS hP (by simp only [c_1, if_true, if_false, Bool.false_eq_true, reduceIte]) (by rw [c_1]; rfl) rfl dX0_address_21
  · rw [b2i_0] at c_1
    refine lv_iconst (v := 0) hx hb dX0_address_10 (by decide) ?_
    exact mu_zret hx hb hr hlocks hS hP (by simp only [c_1, if_true, if_false, Bool.false_eq_true, reduceIte]) (by rw [c_1]; rfl) rfl dX0_address_11
set_option maxHeartbeats 4000000 in
set_option maxRecDepth 100000 in
theorem c_X0_atBad (l : Launch) (dC : Nat → ClassId) (dI : Nat → Nat → Nat) {x a1 a2 a3 a4 a5 : Nat} {k1 k2 k3 k4 k5 : ClassId} {f : Nat → Int32} {u w : Nat → Int64} {g n : Nat → Int32} {k : Nat} {mf : Int32} {mu ml : Int64} (ra : Int32) (A : Nat → Prop) (hra : ra < 0 ∨ nI k ≤ ra) (hD : va_D A (pbw x a1 a2 a3 a4 a5 k1 k2 k3 k4 k5 f u w g n k mf mu ml)) : Met l yX0_at (ww yX0_at cX0_at 2 (some .int)) ({ frames := 1, cells := 0, slots := 0, locals := 25 } : Room) (va_Pc [.ref x, .int ra] (fun U => va_P (dC, dI) classes (pbw x a1 a2 a3 a4 a5 k1 k2 k3 k4 k5 f u w g n k mf mu ml) U.heap ∧ va_K (dC, dI) classes (pbt k1 k2 k3 k4 k5) U)) (va_Qi (fun r (_ : Unit) => r = (-1)) (fun _ t => va_P (dC, dI) classes (pbw x a1 a2 a3 a4 a5 k1 k2 k3 k4 k5 f u w g n k mf mu ml) t.heap) A) 0 0 A := by
  refine Met.ofW (cc := cX0_at) (maxL := 2) (ret := (some .int)) (by decide) rfl ?_
  intro p e s m args below meth c s₁ B hml hv
  obtain ⟨rfl, hP, hK⟩ := hv
  have hS : va_S A s.heap s.heap [] := va_S.rf
  have hx := B.exec
  have hb := B.bytes
  have hr := B.returns
  have hts := atoms_spec (ws := ww yX0_at cX0_at 2 (some .int)) B.pre
  have htl : ∀ w ∈ ltg, w.before [.ref x, .int ra].toArray s = true := fun w h => hts w (List.mem_cons_of_mem _ h)
  have hown : s.vm.findClass RX0 = some m.cls := findClass_of_methodNamed B.named
  have hlocks := B.notSynchronized
  have hl := lv_entry ([.ref x, .int ra]) (n := 2) (Nat.le_of_ble_eq_true rfl)
  rw [lg_entry_eq]
  generalize (lg_sl ([.ref x, .int ra]) ++ List.replicate (2 - (lg_sl ([.ref x, .int ra])).length) Slot.unset).toArray = ls at hl ⊢
  have hl : lv_has ls 2 [(0, .ref x), (1, .int ra)] := hl
  refine lv_iload_n hx hb dX0_at_0 rfl (lv_at hl 1 rfl) ?_
  refine lv_if_lt (tgt := 12) hx hb dX0_at_1 (by decide) (fun c_1 => ?_) (fun c_1 => ?_)
  · refine lv_iconst (v := (-1)) hx hb dX0_at_12 (by decide) ?_
    exact mu_iret hx hb hr hlocks hS hP (rfl) (rfl) dX0_at_13
  · refine lv_iload_n hx hb dX0_at_4 rfl (lv_at hl 1 rfl) ?_
    refine lv_aload_n hx hb dX0_at_5 rfl (lv_at hl 0 rfl) ?_
    refine va_get (D := (dC, dI)) (ci := 0) (v := .int (nI k)) (C := RX0) (T := TX0) (N := 9) hx hb htl inX0 hown hK hP 0 rfl rfl 5 (by decide) (htl _ flX0_26) (fun _ h9 => h9) rfl dX0_at_6 ?_
    refine lv_icmp_lt (tgt := 14) hx hb dX0_at_9 (by decide) (fun c_2 => ?_) (fun c_2 => ?_)
    · exact absurd hra (fun q => q.elim c_1 (fun z => Int32.not_le.mpr c_2 z))
    · refine lv_iconst (v := (-1)) hx hb dX0_at_12 (by decide) ?_
      exact mu_iret hx hb hr hlocks hS hP (rfl) (rfl) dX0_at_13
set_option maxHeartbeats 4000000 in
set_option maxRecDepth 100000 in
theorem c_X0_atOk (l : Launch) (dC : Nat → ClassId) (dI : Nat → Nat → Nat) {x a1 a2 a3 a4 a5 : Nat} {k1 k2 k3 k4 k5 : ClassId} {f : Nat → Int32} {u w : Nat → Int64} {g n : Nat → Int32} {k : Nat} {mf : Int32} {mu ml : Int64} (j : Nat) (A : Nat → Prop) (hj : j < k) (hk : k ≤ 1000) (hD : va_D A (pbw x a1 a2 a3 a4 a5 k1 k2 k3 k4 k5 f u w g n k mf mu ml)) : Met l yX0_at (ww yX0_at cX0_at 2 (some .int)) ({ frames := 1, cells := 0, slots := 0, locals := 25 } : Room) (va_Pc [.ref x, .int (nI j)] (fun U => va_P (dC, dI) classes (pbw x a1 a2 a3 a4 a5 k1 k2 k3 k4 k5 f u w g n k mf mu ml) U.heap ∧ va_K (dC, dI) classes (pbt k1 k2 k3 k4 k5) U)) (va_Qi (fun r (_ : Unit) => r = (g j)) (fun _ t => va_P (dC, dI) classes (pbw x a1 a2 a3 a4 a5 k1 k2 k3 k4 k5 f u w g n k (f j) (u j) (w j)) t.heap) A) 0 0 A := by
  refine Met.ofW (cc := cX0_at) (maxL := 2) (ret := (some .int)) (by decide) rfl ?_
  intro p e s m args below meth c s₁ B hml hv
  obtain ⟨rfl, hP, hK⟩ := hv
  have hS : va_S A s.heap s.heap [] := va_S.rf
  have hx := B.exec
  have hb := B.bytes
  have hr := B.returns
  have hts := atoms_spec (ws := ww yX0_at cX0_at 2 (some .int)) B.pre
  have htl : ∀ w ∈ ltg, w.before [.ref x, .int (nI j)].toArray s = true := fun w h => hts w (List.mem_cons_of_mem _ h)
  have hown : s.vm.findClass RX0 = some m.cls := findClass_of_methodNamed B.named
  have hlocks := B.notSynchronized
  have hl := lv_entry ([.ref x, .int (nI j)]) (n := 2) (Nat.le_of_ble_eq_true rfl)
  rw [lg_entry_eq]
  generalize (lg_sl ([.ref x, .int (nI j)]) ++ List.replicate (2 - (lg_sl ([.ref x, .int (nI j)])).length) Slot.unset).toArray = ls at hl ⊢
  have hl : lv_has ls 2 [(0, .ref x), (1, .int (nI j))] := hl
  refine lv_iload_n hx hb dX0_at_0 rfl (lv_at hl 1 rfl) ?_
  refine lv_if_lt (tgt := 12) hx hb dX0_at_1 (by decide) (fun c_1 => ?_) (fun c_1 => ?_)
  · exact absurd c_1 (nI_pos (by omega))
  · refine lv_iload_n hx hb dX0_at_4 rfl (lv_at hl 1 rfl) ?_
    refine lv_aload_n hx hb dX0_at_5 rfl (lv_at hl 0 rfl) ?_
    refine va_get (D := (dC, dI)) (ci := 0) (v := .int (nI k)) (C := RX0) (T := TX0) (N := 9) hx hb htl inX0 hown hK hP 0 rfl rfl 5 (by decide) (htl _ flX0_26) (fun _ h9 => h9) rfl dX0_at_6 ?_
    refine lv_icmp_lt (tgt := 14) hx hb dX0_at_9 (by decide) (fun c_2 => ?_) (fun c_2 => ?_)
    · refine lv_aload_n hx hb dX0_at_14 rfl (lv_at hl 0 rfl) ?_
      refine lv_aload_n hx hb dX0_at_15 rfl (lv_at hl 0 rfl) ?_
      refine va_get (D := (dC, dI)) (ci := 0) (v := .ref a1) (C := RX0) (T := TX0) (N := 9) hx hb htl inX0 hown hK hP 0 rfl rfl 0 (by decide) (htl _ flX0_9) (fun _ h9 => h9) rfl dX0_at_16 ?_
      refine lv_iload_n hx hb dX0_at_19 rfl (lv_at hl 1 rfl) ?_
      refine ld_i hx hb hK hP 1 0 rfl rfl (j := j) (by omega) (Nat.le_of_ble_eq_true rfl) dX0_at_20 ?_
      refine lv_aload_n hx hb dX0_at_21 rfl (lv_at hl 0 rfl) ?_
      refine va_get (D := (dC, dI)) (ci := 0) (v := .ref a2) (C := RX0) (T := TX0) (N := 9) hx hb htl inX0 hown hK hP 0 rfl rfl 1 (by decide) (htl _ flX0_13) (fun _ h9 => h9) rfl dX0_at_22 ?_
      refine lv_iload_n hx hb dX0_at_25 rfl (lv_at hl 1 rfl) ?_
      refine ld_l hx hb hK hP 2 1 rfl rfl (j := j) (by omega) (Nat.le_of_ble_eq_true rfl) dX0_at_26 ?_
      refine lv_aload_n hx hb dX0_at_27 rfl (lv_at hl 0 rfl) ?_
      refine va_get (D := (dC, dI)) (ci := 0) (v := .ref a3) (C := RX0) (T := TX0) (N := 9) hx hb htl inX0 hown hK hP 0 rfl rfl 2 (by decide) (htl _ flX0_17) (fun _ h9 => h9) rfl dX0_at_28 ?_
      refine lv_iload_n hx hb dX0_at_31 rfl (lv_at hl 1 rfl) ?_
      refine ld_l hx hb hK hP 3 2 rfl rfl (j := j) (by omega) (Nat.le_of_ble_eq_true rfl) dX0_at_32 ?_
      refine mu_callv (va_runV (As := [.int (f j), .long (u j), .long (w j)]) (rest := []) ⟨hx, hb, hml, hown, htl⟩ (c_X0_mean l dC dI (f j) (u j) (w j) A hD) (cwV 3 htl gX0_44 rfl rfl rfl hd_X0_mean ⟨Nat.le_of_ble_eq_true rfl, Nat.le_of_ble_eq_true rfl⟩) ⟨fb_mu, va_recv hK hP (ci := 0) (q0 := 0) rfl rfl, fun U hU hW => ⟨rfl, by rw [hU]; exact hP, va_K.moved hW.alike hK⟩⟩ rfl rfl hl.1 rfl (lv_room (Nat.le_of_ble_eq_true rfl)) dX0_at_33 ⟨Nat.le_of_ble_eq_true rfl, Nat.le_of_ble_eq_true rfl⟩) hS (fun _ h => h) (fun H_3 locs hP hS _ => ?_)
      have hP : va_P (dC, dI) classes [(x, .inr (0, [.ref a1, .ref a2, .ref a3, .ref a4, .ref a5, .int (nI k), .int (f j), .long (u j), .long (w j)])), (a1, .inl (k1, 1000, .inl f)), (a2, .inl (k2, 1000, .inr (.inl u))), (a3, .inl (k3, 1000, .inr (.inl w))), (a4, .inl (k4, 1000, .inl g)), (a5, .inl (k5, 1000, .inl n))] H_3 := hP
      have hD : va_D A [(x, .inr (0, [.ref a1, .ref a2, .ref a3, .ref a4, .ref a5, .int (nI k), .int (f j), .long (u j), .long (w j)])), (a1, .inl (k1, 1000, .inl f)), (a2, .inl (k2, 1000, .inr (.inl u))), (a3, .inl (k3, 1000, .inr (.inl w))), (a4, .inl (k4, 1000, .inl g)), (a5, .inl (k5, 1000, .inl n))] := vd_same hD rfl
      refine lv_aload_n hx hb dX0_at_36 rfl (lv_at hl 0 rfl) ?_
      refine va_get (D := (dC, dI)) (ci := 0) (v := .ref a4) (C := RX0) (T := TX0) (N := 9) hx hb htl inX0 hown hK hP 0 rfl rfl 3 (by decide) (htl _ flX0_20) (fun _ h9 => h9) rfl dX0_at_37 ?_
      refine lv_iload_n hx hb dX0_at_40 rfl (lv_at hl 1 rfl) ?_
      refine ld_i hx hb hK hP 4 3 rfl rfl (j := j) (by omega) (Nat.le_of_ble_eq_true rfl) dX0_at_41 ?_
      exact mu_iret hx hb hr hlocks hS hP (rfl) (rfl) dX0_at_42
    · exact absurd (nI_lt hj (by omega)) c_2
