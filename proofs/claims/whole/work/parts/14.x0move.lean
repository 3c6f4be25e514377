set_option maxHeartbeats 4000000 in
set_option maxRecDepth 100000 in
theorem c_X0_openPlace (l : Launch) (dC : Nat → ClassId) (dI : Nat → Nat → Nat) {x a1 a2 a3 a4 a5 : Nat} {k1 k2 k3 k4 k5 : ClassId} {f : Nat → Int32} {u w : Nat → Int64} {g n : Nat → Int32} {k : Nat} {mf : Int32} {mu ml : Int64} (pl : Nat) (A : Nat → Prop) (hp : pl ≤ k) (hk : k < 1000) (hD : va_D A (pbw x a1 a2 a3 a4 a5 k1 k2 k3 k4 k5 f u w g n k mf mu ml)) : Met l yX0_openPlace (ww yX0_openPlace cX0_openPlace 3 none) ({ frames := 1, cells := 0, slots := 0, locals := 22 } : Room) (va_Pc [.ref x, .int (nI pl)] (fun U => va_P (dC, dI) classes (pbw x a1 a2 a3 a4 a5 k1 k2 k3 k4 k5 f u w g n k mf mu ml) U.heap ∧ va_K (dC, dI) classes (pbt k1 k2 k3 k4 k5) U)) (va_Qv (fun (_ : Unit) => True) (fun _ t => va_P (dC, dI) classes (pbw x a1 a2 a3 a4 a5 k1 k2 k3 k4 k5 (kb_up f pl k) (kb_up u pl k) (kb_up w pl k) (kb_up g pl k) (kb_up n pl k) (k + 1) mf mu ml) t.heap) A) 0 0 A := by
  refine Met.ofW (cc := cX0_openPlace) (maxL := 3) (ret := none) (by decide) rfl ?_
  intro p e s m args below meth c s₁ B hml hv
  obtain ⟨rfl, hP, hK⟩ := hv
  have hS : va_S A s.heap s.heap [] := va_S.rf
  have hx := B.exec
  have hb := B.bytes
  have hr := B.returns
  have hts := atoms_spec (ws := ww yX0_openPlace cX0_openPlace 3 none) B.pre
  have htl : ∀ w ∈ ltg, w.before [.ref x, .int (nI pl)].toArray s = true := fun w h => hts w (List.mem_cons_of_mem _ h)
  have hown : s.vm.findClass RX0 = some m.cls := findClass_of_methodNamed B.named
  have hlocks := B.notSynchronized
  have hl := lv_entry ([.ref x, .int (nI pl)]) (n := 3) (Nat.le_of_ble_eq_true rfl)
  rw [lg_entry_eq]
  generalize (lg_sl ([.ref x, .int (nI pl)]) ++ List.replicate (3 - (lg_sl ([.ref x, .int (nI pl)])).length) Slot.unset).toArray = ls at hl ⊢
  have hl : lv_has ls 3 [(0, .ref x), (1, .int (nI pl))] := hl
  refine lv_aload_n hx hb dX0_openPlace_0 rfl (lv_at hl 0 rfl) ?_
  refine va_get (D := (dC, dI)) (ci := 0) (v := .int (nI k)) (C := RX0) (T := TX0) (N := 9) hx hb htl inX0 hown hK hP 0 rfl rfl 5 (by decide) (htl _ flX0_26) (fun _ h9 => h9) rfl dX0_openPlace_1 ?_
  refine lv_istore_n (lv' := [(2, .int (nI k)), (0, .ref x), (1, .int (nI pl))]) hx hb dX0_openPlace_4 rfl hl (by decide) rfl (fun ls hl => ?_)
  have loop : ∀ (d t : Nat), pl ≤ t → t ≤ k → t + 1 ≤ pl + d → ∀ (H : Heap) (locs : List Loc), va_P (dC, dI) classes (pbw x a1 a2 a3 a4 a5 k1 k2 k3 k4 k5 (kb_up f t k) (kb_up u t k) (kb_up w t k) (kb_up g t k) (kb_up n t k) k mf mu ml) H → va_S A s.heap H locs → ∀ (ls : Array Slot), lv_has ls 3 [(0, .ref x), (1, .int (nI pl)), (2, .int (nI t))] → W p l e ({ frames := 1, cells := 0, slots := 0, locals := 22 } : Room) s m ([.ref x, .int (nI pl)] : List Value).toArray below meth c H locs 0 0 (MQ below (va_Qv (fun (_ : Unit) => True) (fun _ t => va_P (dC, dI) classes (pbw x a1 a2 a3 a4 a5 k1 k2 k3 k4 k5 (kb_up f pl k) (kb_up u pl k) (kb_up w pl k) (kb_up g pl k) (kb_up n pl k) (k + 1) mf mu ml) t.heap) A) [.ref x, .int (nI pl)].toArray s 0 0 A) (F0 m 5 ls []) := by
    intro d
    induction d with
    | zero => intro t h1 h2 h3; exact absurd h3 (by omega)
    | succ d ih =>
      intro t h1 h2 h3 H locs hP hS ls hl
      have hP : va_P (dC, dI) classes [(x, .inr (0, [.ref a1, .ref a2, .ref a3, .ref a4, .ref a5, .int (nI k), .int mf, .long mu, .long ml])), (a1, .inl (k1, 1000, .inl (kb_up f t k))), (a2, .inl (k2, 1000, .inr (.inl (kb_up u t k)))), (a3, .inl (k3, 1000, .inr (.inl (kb_up w t k)))), (a4, .inl (k4, 1000, .inl (kb_up g t k))), (a5, .inl (k5, 1000, .inl (kb_up n t k)))] H := hP
      have hD : va_D A [(x, .inr (0, [.ref a1, .ref a2, .ref a3, .ref a4, .ref a5, .int (nI k), .int mf, .long mu, .long ml])), (a1, .inl (k1, 1000, .inl (kb_up f t k))), (a2, .inl (k2, 1000, .inr (.inl (kb_up u t k)))), (a3, .inl (k3, 1000, .inr (.inl (kb_up w t k)))), (a4, .inl (k4, 1000, .inl (kb_up g t k))), (a5, .inl (k5, 1000, .inl (kb_up n t k)))] := vd_same hD rfl
      refine lv_iload_n hx hb dX0_openPlace_5 rfl (lv_at hl 2 rfl) ?_
      refine lv_iload_n hx hb dX0_openPlace_6 rfl (lv_at hl 1 rfl) ?_
      refine lv_icmp_le (tgt := 24) hx hb dX0_openPlace_7 (by decide) (fun c_1 => ?_) (fun c_1 => ?_)
      · rw [nI_leI (by omega) (by omega)] at c_1
        obtain rfl : t = pl := by omega
        refine lv_aload_n hx hb dX0_openPlace_24 rfl (lv_at hl 0 rfl) ?_
        refine lv_dup hx hb dX0_openPlace_25 rfl ?_
        refine va_get (D := (dC, dI)) (ci := 0) (v := .int (nI k)) (C := RX0) (T := TX0) (N := 9) hx hb htl inX0 hown hK hP 0 rfl rfl 5 (by decide) (htl _ flX0_26) (fun _ h9 => h9) rfl dX0_openPlace_26 ?_
        refine lv_iconst (v := 1) hx hb dX0_openPlace_29 (by decide) ?_
        refine lv_iadd hx hb dX0_openPlace_30 ?_
        refine tp_i (nI_1 k) ?_
        refine va_put (D := (dC, dI)) (ci := 0) (v := .int (nI (k + 1))) (ty := .int) (C := RX0) (T := TX0) (N := 9) hx hb htl inX0 tyX0 tyX0_ok nmX0 hown hK hP hD hS 0 rfl rfl 5 (by decide) (htl _ flX0_26) (fun _ h9 => h9) rfl (by decide +kernel) rfl rfl (Nat.le_of_ble_eq_true rfl) dX0_openPlace_31 (fun H_2 locs hP hD hS => ?_)
        have hP : va_P (dC, dI) classes [(x, .inr (0, [.ref a1, .ref a2, .ref a3, .ref a4, .ref a5, .int (nI (k + 1)), .int mf, .long mu, .long ml])), (a1, .inl (k1, 1000, .inl (kb_up f t k))), (a2, .inl (k2, 1000, .inr (.inl (kb_up u t k)))), (a3, .inl (k3, 1000, .inr (.inl (kb_up w t k)))), (a4, .inl (k4, 1000, .inl (kb_up g t k))), (a5, .inl (k5, 1000, .inl (kb_up n t k)))] H_2 := hP
        have hD : va_D A [(x, .inr (0, [.ref a1, .ref a2, .ref a3, .ref a4, .ref a5, .int (nI (k + 1)), .int mf, .long mu, .long ml])), (a1, .inl (k1, 1000, .inl (kb_up f t k))), (a2, .inl (k2, 1000, .inr (.inl (kb_up u t k)))), (a3, .inl (k3, 1000, .inr (.inl (kb_up w t k)))), (a4, .inl (k4, 1000, .inl (kb_up g t k))), (a5, .inl (k5, 1000, .inl (kb_up n t k)))] := hD
        exact mu_vret hx hb hr hlocks hS hP (rfl) dX0_openPlace_34
      · rw [nI_leI (by omega) (by omega)] at c_1
        obtain ⟨q, rfl⟩ : ∃ q, t = q + 1 := ⟨t - 1, by omega⟩
        refine lv_aload_n hx hb dX0_openPlace_10 rfl (lv_at hl 0 rfl) ?_
        refine lv_iload_n hx hb dX0_openPlace_11 rfl (lv_at hl 2 rfl) ?_
        refine lv_iconst (v := 1) hx hb dX0_openPlace_12 (by decide) ?_
        refine lv_isub hx hb dX0_openPlace_13 ?_
        refine tp_i (nI_pred q) ?_
        refine lv_iload_n hx hb dX0_openPlace_14 rfl (lv_at hl 2 rfl) ?_
        refine mu_callv (va_runV (As := [.int (nI q), .int (nI (q + 1))]) (rest := []) ⟨hx, hb, hml, hown, htl⟩ (c_X0_copyPlace l dC dI q (q + 1) A (by omega) (by omega) hD) (cwV 2 htl gX0_105 rfl rfl rfl hd_X0_copyPlace ⟨Nat.le_of_ble_eq_true rfl, Nat.le_of_ble_eq_true rfl⟩) ⟨fb_mu, va_recv hK hP (ci := 0) (q0 := 0) rfl rfl, fun U hU hW => ⟨rfl, by rw [hU]; exact hP, va_K.moved hW.alike hK⟩⟩ rfl rfl hl.1 rfl (lv_room (Nat.le_of_ble_eq_true rfl)) dX0_openPlace_15 ⟨Nat.le_of_ble_eq_true rfl, Nat.le_of_ble_eq_true rfl⟩) hS (fun _ h => h) (fun H_3 locs hP hS _ => ?_)
        have hP : va_P (dC, dI) classes [(x, .inr (0, [.ref a1, .ref a2, .ref a3, .ref a4, .ref a5, .int (nI k), .int mf, .long mu, .long ml])), (a1, .inl (k1, 1000, .inl (upd (kb_up f (q + 1) k) (q + 1) ((kb_up f (q + 1) k) q)))), (a2, .inl (k2, 1000, .inr (.inl (vp_updL (kb_up u (q + 1) k) (q + 1) ((kb_up u (q + 1) k) q))))), (a3, .inl (k3, 1000, .inr (.inl (vp_updL (kb_up w (q + 1) k) (q + 1) ((kb_up w (q + 1) k) q))))), (a4, .inl (k4, 1000, .inl (upd (kb_up g (q + 1) k) (q + 1) ((kb_up g (q + 1) k) q)))), (a5, .inl (k5, 1000, .inl (upd (kb_up n (q + 1) k) (q + 1) ((kb_up n (q + 1) k) q))))] H_3 := hP
        have hD : va_D A [(x, .inr (0, [.ref a1, .ref a2, .ref a3, .ref a4, .ref a5, .int (nI k), .int mf, .long mu, .long ml])), (a1, .inl (k1, 1000, .inl (upd (kb_up f (q + 1) k) (q + 1) ((kb_up f (q + 1) k) q)))), (a2, .inl (k2, 1000, .inr (.inl (vp_updL (kb_up u (q + 1) k) (q + 1) ((kb_up u (q + 1) k) q))))), (a3, .inl (k3, 1000, .inr (.inl (vp_updL (kb_up w (q + 1) k) (q + 1) ((kb_up w (q + 1) k) q))))), (a4, .inl (k4, 1000, .inl (upd (kb_up g (q + 1) k) (q + 1) ((kb_up g (q + 1) k) q)))), (a5, .inl (k5, 1000, .inl (upd (kb_up n (q + 1) k) (q + 1) ((kb_up n (q + 1) k) q))))] := vd_same hD rfl
        refine lv_iinc (v := nI q) (lv' := [(2, .int (nI q)), (0, .ref x), (1, .int (nI pl))]) hx hb dX0_openPlace_18 hl (k := 2) rfl (by rw [show Int32.ofInt (-1) = (-1 : Int32) by decide]; exact pk_m1 q) (by decide) rfl (fun ls hl => ?_)
        refine lv_goto (tgt := 5) hx hb dX0_openPlace_21 (by decide) ?_
        exact ih q (by omega) (by omega) (by omega) _ _ (by rw [kb_up_i f q k h2, kb_up_l u q k h2, kb_up_l w q k h2, kb_up_i g q k h2, kb_up_i n q k h2] at hP; exact hP) hS ls (lv_sub hl [1, 2, 0] rfl)
  exact loop (k + 1) k hp (Nat.le_refl k) (by omega) _ _ (by rw [kb_up_0, kb_up_0, kb_up_0, kb_up_0, kb_up_0]; exact hP) hS ls (lv_sub hl [1, 2, 0] rfl)
set_option maxHeartbeats 4000000 in
set_option maxRecDepth 100000 in
theorem c_X0_closePlace (l : Launch) (dC : Nat → ClassId) (dI : Nat → Nat → Nat) {x a1 a2 a3 a4 a5 : Nat} {k1 k2 k3 k4 k5 : ClassId} {f : Nat → Int32} {u w : Nat → Int64} {g n : Nat → Int32} {k : Nat} {mf : Int32} {mu ml : Int64} (pl : Nat) (A : Nat → Prop) (hp : pl ≤ k) (hk : k < 1000) (hD : va_D A (pbw x a1 a2 a3 a4 a5 k1 k2 k3 k4 k5 f u w g n (k + 1) mf mu ml)) : Met l yX0_closePlace (ww yX0_closePlace cX0_closePlace 3 none) ({ frames := 1, cells := 0, slots := 0, locals := 22 } : Room) (va_Pc [.ref x, .int (nI pl)] (fun U => va_P (dC, dI) classes (pbw x a1 a2 a3 a4 a5 k1 k2 k3 k4 k5 f u w g n (k + 1) mf mu ml) U.heap ∧ va_K (dC, dI) classes (pbt k1 k2 k3 k4 k5) U)) (va_Qv (fun (_ : Unit) => True) (fun _ t => va_P (dC, dI) classes (pbw x a1 a2 a3 a4 a5 k1 k2 k3 k4 k5 (kb_dn f pl k) (kb_dn u pl k) (kb_dn w pl k) (kb_dn g pl k) (kb_dn n pl k) k mf mu ml) t.heap) A) 0 0 A := by
  refine Met.ofW (cc := cX0_closePlace) (maxL := 3) (ret := none) (by decide) rfl ?_
  intro p e s m args below meth c s₁ B hml hv
  obtain ⟨rfl, hP, hK⟩ := hv
  have hS : va_S A s.heap s.heap [] := va_S.rf
  have hx := B.exec
  have hb := B.bytes
  have hr := B.returns
  have hts := atoms_spec (ws := ww yX0_closePlace cX0_closePlace 3 none) B.pre
  have htl : ∀ w ∈ ltg, w.before [.ref x, .int (nI pl)].toArray s = true := fun w h => hts w (List.mem_cons_of_mem _ h)
  have hown : s.vm.findClass RX0 = some m.cls := findClass_of_methodNamed B.named
  have hlocks := B.notSynchronized
  have hl := lv_entry ([.ref x, .int (nI pl)]) (n := 3) (Nat.le_of_ble_eq_true rfl)
  rw [lg_entry_eq]
  generalize (lg_sl ([.ref x, .int (nI pl)]) ++ List.replicate (3 - (lg_sl ([.ref x, .int (nI pl)])).length) Slot.unset).toArray = ls at hl ⊢
  have hl : lv_has ls 3 [(0, .ref x), (1, .int (nI pl))] := hl
  refine lv_aload_n hx hb dX0_closePlace_0 rfl (lv_at hl 0 rfl) ?_
  refine lv_dup hx hb dX0_closePlace_1 rfl ?_
  refine va_get (D := (dC, dI)) (ci := 0) (v := .int (nI (k + 1))) (C := RX0) (T := TX0) (N := 9) hx hb htl inX0 hown hK hP 0 rfl rfl 5 (by decide) (htl _ flX0_26) (fun _ h9 => h9) rfl dX0_closePlace_2 ?_
  refine lv_iconst (v := 1) hx hb dX0_closePlace_5 (by decide) ?_
  refine lv_isub hx hb dX0_closePlace_6 ?_
  refine tp_i (nI_pred k) ?_
  refine va_put (D := (dC, dI)) (ci := 0) (v := .int (nI k)) (ty := .int) (C := RX0) (T := TX0) (N := 9) hx hb htl inX0 tyX0 tyX0_ok nmX0 hown hK hP hD hS 0 rfl rfl 5 (by decide) (htl _ flX0_26) (fun _ h9 => h9) rfl (by decide +kernel) rfl rfl (Nat.le_of_ble_eq_true rfl) dX0_closePlace_7 (fun H_1 locs hP hD hS => ?_)
  have hP : va_P (dC, dI) classes [(x, .inr (0, [.ref a1, .ref a2, .ref a3, .ref a4, .ref a5, .int (nI k), .int mf, .long mu, .long ml])), (a1, .inl (k1, 1000, .inl f)), (a2, .inl (k2, 1000, .inr (.inl u))), (a3, .inl (k3, 1000, .inr (.inl w))), (a4, .inl (k4, 1000, .inl g)), (a5, .inl (k5, 1000, .inl n))] H_1 := hP
  have hD : va_D A [(x, .inr (0, [.ref a1, .ref a2, .ref a3, .ref a4, .ref a5, .int (nI k), .int mf, .long mu, .long ml])), (a1, .inl (k1, 1000, .inl f)), (a2, .inl (k2, 1000, .inr (.inl u))), (a3, .inl (k3, 1000, .inr (.inl w))), (a4, .inl (k4, 1000, .inl g)), (a5, .inl (k5, 1000, .inl n))] := hD
  refine lv_iload_n hx hb dX0_closePlace_10 rfl (lv_at hl 1 rfl) ?_
  refine lv_istore_n (lv' := [(2, .int (nI pl)), (0, .ref x), (1, .int (nI pl))]) hx hb dX0_closePlace_11 rfl hl (by decide) rfl (fun ls hl => ?_)
  have loop : ∀ (d t : Nat), pl ≤ t → t ≤ k → k + 1 ≤ t + d → ∀ (H : Heap) (locs : List Loc), va_P (dC, dI) classes (pbw x a1 a2 a3 a4 a5 k1 k2 k3 k4 k5 (kb_dn f pl t) (kb_dn u pl t) (kb_dn w pl t) (kb_dn g pl t) (kb_dn n pl t) k mf mu ml) H → va_S A s.heap H locs → ∀ (ls : Array Slot), lv_has ls 3 [(0, .ref x), (1, .int (nI pl)), (2, .int (nI t))] → W p l e ({ frames := 1, cells := 0, slots := 0, locals := 22 } : Room) s m ([.ref x, .int (nI pl)] : List Value).toArray below meth c H locs 0 0 (MQ below (va_Qv (fun (_ : Unit) => True) (fun _ t => va_P (dC, dI) classes (pbw x a1 a2 a3 a4 a5 k1 k2 k3 k4 k5 (kb_dn f pl k) (kb_dn u pl k) (kb_dn w pl k) (kb_dn g pl k) (kb_dn n pl k) k mf mu ml) t.heap) A) [.ref x, .int (nI pl)].toArray s 0 0 A) (F0 m 12 ls []) := by
    intro d
    induction d with
    | zero => intro t h1 h2 h3; exact absurd h3 (by omega)
    | succ d ih =>
      intro t h1 h2 h3 H locs hP hS ls hl
      have hP : va_P (dC, dI) classes [(x, .inr (0, [.ref a1, .ref a2, .ref a3, .ref a4, .ref a5, .int (nI k), .int mf, .long mu, .long ml])), (a1, .inl (k1, 1000, .inl (kb_dn f pl t))), (a2, .inl (k2, 1000, .inr (.inl (kb_dn u pl t)))), (a3, .inl (k3, 1000, .inr (.inl (kb_dn w pl t)))), (a4, .inl (k4, 1000, .inl (kb_dn g pl t))), (a5, .inl (k5, 1000, .inl (kb_dn n pl t)))] H := hP
      have hD : va_D A [(x, .inr (0, [.ref a1, .ref a2, .ref a3, .ref a4, .ref a5, .int (nI k), .int mf, .long mu, .long ml])), (a1, .inl (k1, 1000, .inl (kb_dn f pl t))), (a2, .inl (k2, 1000, .inr (.inl (kb_dn u pl t)))), (a3, .inl (k3, 1000, .inr (.inl (kb_dn w pl t)))), (a4, .inl (k4, 1000, .inl (kb_dn g pl t))), (a5, .inl (k5, 1000, .inl (kb_dn n pl t)))] := vd_same hD rfl
      refine lv_iload_n hx hb dX0_closePlace_12 rfl (lv_at hl 2 rfl) ?_
      refine lv_aload_n hx hb dX0_closePlace_13 rfl (lv_at hl 0 rfl) ?_
      refine va_get (D := (dC, dI)) (ci := 0) (v := .int (nI k)) (C := RX0) (T := TX0) (N := 9) hx hb htl inX0 hown hK hP 0 rfl rfl 5 (by decide) (htl _ flX0_26) (fun _ h9 => h9) rfl dX0_closePlace_14 ?_
      refine lv_icmp_ge (tgt := 34) hx hb dX0_closePlace_17 (by decide) (fun c_2 => ?_) (fun c_2 => ?_)
      · rw [nI_leI (by omega) (by omega)] at c_2
        obtain rfl : t = k := by omega
        exact mu_vret hx hb hr hlocks hS hP (rfl) dX0_closePlace_34
      · rw [nI_leI (by omega) (by omega)] at c_2
        refine lv_aload_n hx hb dX0_closePlace_20 rfl (lv_at hl 0 rfl) ?_
        refine lv_iload_n hx hb dX0_closePlace_21 rfl (lv_at hl 2 rfl) ?_
        refine lv_iconst (v := 1) hx hb dX0_closePlace_22 (by decide) ?_
        refine lv_iadd hx hb dX0_closePlace_23 ?_
        refine tp_i (nI_1 t) ?_
        refine lv_iload_n hx hb dX0_closePlace_24 rfl (lv_at hl 2 rfl) ?_
        refine mu_callv (va_runV (As := [.int (nI (t + 1)), .int (nI t)]) (rest := []) ⟨hx, hb, hml, hown, htl⟩ (c_X0_copyPlace l dC dI (t + 1) t A (by omega) (by omega) hD) (cwV 2 htl gX0_105 rfl rfl rfl hd_X0_copyPlace ⟨Nat.le_of_ble_eq_true rfl, Nat.le_of_ble_eq_true rfl⟩) ⟨fb_mu, va_recv hK hP (ci := 0) (q0 := 0) rfl rfl, fun U hU hW => ⟨rfl, by rw [hU]; exact hP, va_K.moved hW.alike hK⟩⟩ rfl rfl hl.1 rfl (lv_room (Nat.le_of_ble_eq_true rfl)) dX0_closePlace_25 ⟨Nat.le_of_ble_eq_true rfl, Nat.le_of_ble_eq_true rfl⟩) hS (fun _ h => h) (fun H_3 locs hP hS _ => ?_)
        have hP : va_P (dC, dI) classes [(x, .inr (0, [.ref a1, .ref a2, .ref a3, .ref a4, .ref a5, .int (nI k), .int mf, .long mu, .long ml])), (a1, .inl (k1, 1000, .inl (upd (kb_dn f pl t) t ((kb_dn f pl t) (t + 1))))), (a2, .inl (k2, 1000, .inr (.inl (vp_updL (kb_dn u pl t) t ((kb_dn u pl t) (t + 1)))))), (a3, .inl (k3, 1000, .inr (.inl (vp_updL (kb_dn w pl t) t ((kb_dn w pl t) (t + 1)))))), (a4, .inl (k4, 1000, .inl (upd (kb_dn g pl t) t ((kb_dn g pl t) (t + 1))))), (a5, .inl (k5, 1000, .inl (upd (kb_dn n pl t) t ((kb_dn n pl t) (t + 1)))))] H_3 := hP
        have hD : va_D A [(x, .inr (0, [.ref a1, .ref a2, .ref a3, .ref a4, .ref a5, .int (nI k), .int mf, .long mu, .long ml])), (a1, .inl (k1, 1000, .inl (upd (kb_dn f pl t) t ((kb_dn f pl t) (t + 1))))), (a2, .inl (k2, 1000, .inr (.inl (vp_updL (kb_dn u pl t) t ((kb_dn u pl t) (t + 1)))))), (a3, .inl (k3, 1000, .inr (.inl (vp_updL (kb_dn w pl t) t ((kb_dn w pl t) (t + 1)))))), (a4, .inl (k4, 1000, .inl (upd (kb_dn g pl t) t ((kb_dn g pl t) (t + 1))))), (a5, .inl (k5, 1000, .inl (upd (kb_dn n pl t) t ((kb_dn n pl t) (t + 1)))))] := vd_same hD rfl
        refine lv_iinc (v := nI (t + 1)) (lv' := [(2, .int (nI (t + 1))), (0, .ref x), (1, .int (nI pl))]) hx hb dX0_closePlace_28 hl (k := 2) rfl (by first | rfl | exact nI_1 _) (by decide) rfl (fun ls hl => ?_)
        refine lv_goto (tgt := 12) hx hb dX0_closePlace_31 (by decide) ?_
        exact ih (t + 1) (by omega) (by omega) (by omega) _ _ (by rw [kb_dn_i f pl t h1, kb_dn_l u pl t h1, kb_dn_l w pl t h1, kb_dn_i g pl t h1, kb_dn_i n pl t h1] at hP; exact hP) hS ls (lv_sub hl [1, 2, 0] rfl)
  exact loop (k + 1) pl (Nat.le_refl pl) hp (by omega) _ _ (by rw [kb_dn_0, kb_dn_0, kb_dn_0, kb_dn_0, kb_dn_0]; exact hP) hS ls (lv_sub hl [1, 2, 0] rfl)
