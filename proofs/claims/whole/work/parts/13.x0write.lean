/-! THE CLASS: its methods that write -/
set_option maxHeartbeats 4000000 in
set_option maxRecDepth 100000 in
theorem c_X0_mean (l : Launch) (dC : Nat → ClassId) (dI : Nat → Nat → Nat) {x a1 a2 a3 a4 a5 : Nat} {k1 k2 k3 k4 k5 : ClassId} {f : Nat → Int32} {u w : Nat → Int64} {g n : Nat → Int32} {k : Nat} {mf : Int32} {mu ml : Int64} (fa : Int32) (up lo : Int64) (A : Nat → Prop)  (hD : va_D A (pbw x a1 a2 a3 a4 a5 k1 k2 k3 k4 k5 f u w g n k mf mu ml)) : Met l yX0_mean (ww yX0_mean cX0_mean 6 none) ({ frames := 0, cells := 0, slots := 0, locals := 0 } : Room) (va_Pc [.ref x, .int fa, .long up, .long lo] (fun U => va_P (dC, dI) classes (pbw x a1 a2 a3 a4 a5 k1 k2 k3 k4 k5 f u w g n k mf mu ml) U.heap ∧ va_K (dC, dI) classes (pbt k1 k2 k3 k4 k5) U)) (va_Qv (fun (_ : Unit) => True) (fun _ t => va_P (dC, dI) classes (pbw x a1 a2 a3 a4 a5 k1 k2 k3 k4 k5 f u w g n k fa up lo) t.heap) A) 0 0 A := by
  refine Met.ofW (cc := cX0_mean) (maxL := 6) (ret := none) (by decide) rfl ?_
  intro p e s m args below meth c s₁ B hml hv
  obtain ⟨rfl, hP, hK⟩ := hv
  have hS : va_S A s.heap s.heap [] := va_S.rf
  have hx := B.exec
  have hb := B.bytes
  have hr := B.returns
  have hts := atoms_spec (ws := ww yX0_mean cX0_mean 6 none) B.pre
  have htl : ∀ w ∈ ltg, w.before [.ref x, .int fa, .long up, .long lo].toArray s = true := fun w h => hts w (List.mem_cons_of_mem _ h)
  have hown : s.vm.findClass RX0 = some m.cls := findClass_of_methodNamed B.named
  have hlocks := B.notSynchronized
  have hl := lv_entry ([.ref x, .int fa, .long up, .long lo]) (n := 6) (Nat.le_of_ble_eq_true rfl)
  rw [lg_entry_eq]
  generalize (lg_sl ([.ref x, .int fa, .long up, .long lo]) ++ List.replicate (6 - (lg_sl ([.ref x, .int fa, .long up, .long lo])).length) Slot.unset).toArray = ls at hl ⊢
  have hl : lv_has ls 6 [(0, .ref x), (1, .int fa), (2, .long up), (4, .long lo)] := hl
  refine lv_aload_n hx hb dX0_mean_0 rfl (lv_at hl 0 rfl) ?_
  refine lv_iload_n hx hb dX0_mean_1 rfl (lv_at hl 1 rfl) ?_
  refine va_put (D := (dC, dI)) (ci := 0) (v := .int fa) (ty := .int) (C := RX0) (T := TX0) (N := 9) hx hb htl inX0 tyX0 tyX0_ok nmX0 hown hK hP hD hS 0 rfl rfl 6 (by decide) (htl _ flX0_30) (fun _ h9 => h9) rfl (by decide +kernel) rfl rfl (Nat.le_of_ble_eq_true rfl) dX0_mean_2 (fun H_1 locs hP hD hS => ?_)
  have hP : va_P (dC, dI) classes [(x, .inr (0, [.ref a1, .ref a2, .ref a3, .ref a4, .ref a5, .int (nI k), .int fa, .long mu, .long ml])), (a1, .inl (k1, 1000, .inl f)), (a2, .inl (k2, 1000, .inr (.inl u))), (a3, .inl (k3, 1000, .inr (.inl w))), (a4, .inl (k4, 1000, .inl g)), (a5, .inl (k5, 1000, .inl n))] H_1 := hP
  have hD : va_D A [(x, .inr (0, [.ref a1, .ref a2, .ref a3, .ref a4, .ref a5, .int (nI k), .int fa, .long mu, .long ml])), (a1, .inl (k1, 1000, .inl f)), (a2, .inl (k2, 1000, .inr (.inl u))), (a3, .inl (k3, 1000, .inr (.inl w))), (a4, .inl (k4, 1000, .inl g)), (a5, .inl (k5, 1000, .inl n))] := hD
  refine lv_aload_n hx hb dX0_mean_5 rfl (lv_at hl 0 rfl) ?_
  refine lv_lload_n hx hb dX0_mean_6 rfl (lv_at hl 2 rfl) ?_
  refine va_put (D := (dC, dI)) (ci := 0) (v := .long up) (ty := .long) (C := RX0) (T := TX0) (N := 9) hx hb htl inX0 tyX0 tyX0_ok nmX0 hown hK hP hD hS 0 rfl rfl 7 (by decide) (htl _ flX0_33) (fun _ h9 => h9) rfl (by decide +kernel) rfl rfl (Nat.le_of_ble_eq_true rfl) dX0_mean_7 (fun H_2 locs hP hD hS => ?_)
  have hP : va_P (dC, dI) classes [(x, .inr (0, [.ref a1, .ref a2, .ref a3, .ref a4, .ref a5, .int (nI k), .int fa, .long up, .long ml])), (a1, .inl (k1, 1000, .inl f)), (a2, .inl (k2, 1000, .inr (.inl u))), (a3, .inl (k3, 1000, .inr (.inl w))), (a4, .inl (k4, 1000, .inl g)), (a5, .inl (k5, 1000, .inl n))] H_2 := hP
  have hD : va_D A [(x, .inr (0, [.ref a1, .ref a2, .ref a3, .ref a4, .ref a5, .int (nI k), .int fa, .long up, .long ml])), (a1, .inl (k1, 1000, .inl f)), (a2, .inl (k2, 1000, .inr (.inl u))), (a3, .inl (k3, 1000, .inr (.inl w))), (a4, .inl (k4, 1000, .inl g)), (a5, .inl (k5, 1000, .inl n))] := hD
  refine lv_aload_n hx hb dX0_mean_10 rfl (lv_at hl 0 rfl) ?_
  refine lv_lload hx hb dX0_mean_11 (lv_at hl 3 rfl) ?_
  refine va_put (D := (dC, dI)) (ci := 0) (v := .long lo) (ty := .long) (C := RX0) (T := TX0) (N := 9) hx hb htl inX0 tyX0 tyX0_ok nmX0 hown hK hP hD hS 0 rfl rfl 8 (by decide) (htl _ flX0_37) (fun _ h9 => h9) rfl (by decide +kernel) rfl rfl (Nat.le_of_ble_eq_true rfl) dX0_mean_13 (fun H_3 locs hP hD hS => ?_)
  have hP : va_P (dC, dI) classes [(x, .inr (0, [.ref a1, .ref a2, .ref a3, .ref a4, .ref a5, .int (nI k), .int fa, .long up, .long lo])), (a1, .inl (k1, 1000, .inl f)), (a2, .inl (k2, 1000, .inr (.inl u))), (a3, .inl (k3, 1000, .inr (.inl w))), (a4, .inl (k4, 1000, .inl g)), (a5, .inl (k5, 1000, .inl n))] H_3 := hP
  have hD : va_D A [(x, .inr (0, [.ref a1, .ref a2, .ref a3, .ref a4, .ref a5, .int (nI k), .int fa, .long up, .long lo])), (a1, .inl (k1, 1000, .inl f)), (a2, .inl (k2, 1000, .inr (.inl u))), (a3, .inl (k3, 1000, .inr (.inl w))), (a4, .inl (k4, 1000, .inl g)), (a5, .inl (k5, 1000, .inl n))] := hD
  exact mu_vret hx hb hr hlocks hS hP (rfl) dX0_mean_16
set_option maxHeartbeats 4000000 in
set_option maxRecDepth 100000 in
theorem c_X0_copyPlace (l : Launch) (dC : Nat → ClassId) (dI : Nat → Nat → Nat) {x a1 a2 a3 a4 a5 : Nat} {k1 k2 k3 k4 k5 : ClassId} {f : Nat → Int32} {u w : Nat → Int64} {g n : Nat → Int32} {k : Nat} {mf : Int32} {mu ml : Int64} (i j : Nat) (A : Nat → Prop) (hi : i < 1000) (hj : j < 1000) (hD : va_D A (pbw x a1 a2 a3 a4 a5 k1 k2 k3 k4 k5 f u w g n k mf mu ml)) : Met l yX0_copyPlace (ww yX0_copyPlace cX0_copyPlace 3 none) ({ frames := 0, cells := 0, slots := 0, locals := 0 } : Room) (va_Pc [.ref x, .int (nI i), .int (nI j)] (fun U => va_P (dC, dI) classes (pbw x a1 a2 a3 a4 a5 k1 k2 k3 k4 k5 f u w g n k mf mu ml) U.heap ∧ va_K (dC, dI) classes (pbt k1 k2 k3 k4 k5) U)) (va_Qv (fun (_ : Unit) => True) (fun _ t => va_P (dC, dI) classes (pbw x a1 a2 a3 a4 a5 k1 k2 k3 k4 k5 (upd f j (f i)) (vp_updL u j (u i)) (vp_updL w j (w i)) (upd g j (g i)) (upd n j (n i)) k mf mu ml) t.heap) A) 0 0 A := by
  refine Met.ofW (cc := cX0_copyPlace) (maxL := 3) (ret := none) (by decide) rfl ?_
  intro p e s m args below meth c s₁ B hml hv
  obtain ⟨rfl, hP, hK⟩ := hv
  have hS : va_S A s.heap s.heap [] := va_S.rf
  have hx := B.exec
  have hb := B.bytes
  have hr := B.returns
  have hts := atoms_spec (ws := ww yX0_copyPlace cX0_copyPlace 3 none) B.pre
  have htl : ∀ w ∈ ltg, w.before [.ref x, .int (nI i), .int (nI j)].toArray s = true := fun w h => hts w (List.mem_cons_of_mem _ h)
  have hown : s.vm.findClass RX0 = some m.cls := findClass_of_methodNamed B.named
  have hlocks := B.notSynchronized
  have hl := lv_entry ([.ref x, .int (nI i), .int (nI j)]) (n := 3) (Nat.le_of_ble_eq_true rfl)
  rw [lg_entry_eq]
  generalize (lg_sl ([.ref x, .int (nI i), .int (nI j)]) ++ List.replicate (3 - (lg_sl ([.ref x, .int (nI i), .int (nI j)])).length) Slot.unset).toArray = ls at hl ⊢
  have hl : lv_has ls 3 [(0, .ref x), (1, .int (nI i)), (2, .int (nI j))] := hl
  refine lv_aload_n hx hb dX0_copyPlace_0 rfl (lv_at hl 0 rfl) ?_
  refine va_get (D := (dC, dI)) (ci := 0) (v := .ref a1) (C := RX0) (T := TX0) (N := 9) hx hb htl inX0 hown hK hP 0 rfl rfl 0 (by decide) (htl _ flX0_9) (fun _ h9 => h9) rfl dX0_copyPlace_1 ?_
  refine lv_iload_n hx hb dX0_copyPlace_4 rfl (lv_at hl 2 rfl) ?_
  refine lv_aload_n hx hb dX0_copyPlace_5 rfl (lv_at hl 0 rfl) ?_
  refine va_get (D := (dC, dI)) (ci := 0) (v := .ref a1) (C := RX0) (T := TX0) (N := 9) hx hb htl inX0 hown hK hP 0 rfl rfl 0 (by decide) (htl _ flX0_9) (fun _ h9 => h9) rfl dX0_copyPlace_6 ?_
  refine lv_iload_n hx hb dX0_copyPlace_9 rfl (lv_at hl 1 rfl) ?_
  refine ld_i hx hb hK hP 1 0 rfl rfl (j := i) (by omega) (Nat.le_of_ble_eq_true rfl) dX0_copyPlace_10 ?_
  refine st_i hx hb hK hP hD hS 1 0 rfl rfl (j := j) (by omega) (Nat.le_of_ble_eq_true rfl) dX0_copyPlace_11 (fun H_1 locs hP hD hS => ?_)
  have hP : va_P (dC, dI) classes [(x, .inr (0, [.ref a1, .ref a2, .ref a3, .ref a4, .ref a5, .int (nI k), .int mf, .long mu, .long ml])), (a1, .inl (k1, 1000, .inl (upd f j (f i)))), (a2, .inl (k2, 1000, .inr (.inl u))), (a3, .inl (k3, 1000, .inr (.inl w))), (a4, .inl (k4, 1000, .inl g)), (a5, .inl (k5, 1000, .inl n))] H_1 := hP
  have hD : va_D A [(x, .inr (0, [.ref a1, .ref a2, .ref a3, .ref a4, .ref a5, .int (nI k), .int mf, .long mu, .long ml])), (a1, .inl (k1, 1000, .inl (upd f j (f i)))), (a2, .inl (k2, 1000, .inr (.inl u))), (a3, .inl (k3, 1000, .inr (.inl w))), (a4, .inl (k4, 1000, .inl g)), (a5, .inl (k5, 1000, .inl n))] := hD
  refine lv_aload_n hx hb dX0_copyPlace_12 rfl (lv_at hl 0 rfl) ?_
  refine va_get (D := (dC, dI)) (ci := 0) (v := .ref a2) (C := RX0) (T := TX0) (N := 9) hx hb htl inX0 hown hK hP 0 rfl rfl 1 (by decide) (htl _ flX0_13) (fun _ h9 => h9) rfl dX0_copyPlace_13 ?_
  refine lv_iload_n hx hb dX0_copyPlace_16 rfl (lv_at hl 2 rfl) ?_
  refine lv_aload_n hx hb dX0_copyPlace_17 rfl (lv_at hl 0 rfl) ?_
  refine va_get (D := (dC, dI)) (ci := 0) (v := .ref a2) (C := RX0) (T := TX0) (N := 9) hx hb htl inX0 hown hK hP 0 rfl rfl 1 (by decide) (htl _ flX0_13) (fun _ h9 => h9) rfl dX0_copyPlace_18 ?_
  refine lv_iload_n hx hb dX0_copyPlace_21 rfl (lv_at hl 1 rfl) ?_
  refine ld_l hx hb hK hP 2 1 rfl rfl (j := i) (by omega) (Nat.le_of_ble_eq_true rfl) dX0_copyPlace_22 ?_
  refine st_l hx hb hK hP hD hS 2 1 rfl rfl (j := j) (by omega) (Nat.le_of_ble_eq_true rfl) dX0_copyPlace_23 (fun H_2 locs hP hD hS => ?_)
  have hP : va_P (dC, dI) classes [(x, .inr (0, [.ref a1, .ref a2, .ref a3, .ref a4, .ref a5, .int (nI k), .int mf, .long mu, .long ml])), (a1, .inl (k1, 1000, .inl (upd f j (f i)))), (a2, .inl (k2, 1000, .inr (.inl (vp_updL u j (u i))))), (a3, .inl (k3, 1000, .inr (.inl w))), (a4, .inl (k4, 1000, .inl g)), (a5, .inl (k5, 1000, .inl n))] H_2 := hP
  have hD : va_D A [(x, .inr (0, [.ref a1, .ref a2, .ref a3, .ref a4, .ref a5, .int (nI k), .int mf, .long mu, .long ml])), (a1, .inl (k1, 1000, .inl (upd f j (f i)))), (a2, .inl (k2, 1000, .inr (.inl (vp_updL u j (u i))))), (a3, .inl (k3, 1000, .inr (.inl w))), (a4, .inl (k4, 1000, .inl g)), (a5, .inl (k5, 1000, .inl n))] := hD
  refine lv_aload_n hx hb dX0_copyPlace_24 rfl (lv_at hl 0 rfl) ?_
  refine va_get (D := (dC, dI)) (ci := 0) (v := .ref a3) (C := RX0) (T := TX0) (N := 9) hx hb htl inX0 hown hK hP 0 rfl rfl 2 (by decide) (htl _ flX0_17) (fun _ h9 => h9) rfl dX0_copyPlace_25 ?_
  refine lv_iload_n hx hb dX0_copyPlace_28 rfl (lv_at hl 2 rfl) ?_
  refine lv_aload_n hx hb dX0_copyPlace_29 rfl (lv_at hl 0 rfl) ?_
  refine va_get (D := (dC, dI)) (ci := 0) (v := .ref a3) (C := RX0) (T := TX0) (N := 9) hx hb htl inX0 hown hK hP 0 rfl rfl 2 (by decide) (htl _ flX0_17) (fun _ h9 => h9) rfl dX0_copyPlace_30 ?_
  refine lv_iload_n hx hb dX0_copyPlace_33 rfl (lv_at hl 1 rfl) ?_
  refine ld_l hx hb hK hP 3 2 rfl rfl (j := i) (by omega) (Nat.le_of_ble_eq_true rfl) dX0_copyPlace_34 ?_
  refine st_l hx hb hK hP hD hS 3 2 rfl rfl (j := j) (by omega) (Nat.le_of_ble_eq_true rfl) dX0_copyPlace_35 (fun H_3 locs hP hD hS => ?_)
  have hP : va_P (dC, dI) classes [(x, .inr (0, [.ref a1, .ref a2, .ref a3, .ref a4, .ref a5, .int (nI k), .int mf, .long mu, .long ml])), (a1, .inl (k1, 1000, .inl (upd f j (f i)))), (a2, .inl (k2, 1000, .inr (.inl (vp_updL u j (u i))))), (a3, .inl (k3, 1000, .inr (.inl (vp_updL w j (w i))))), (a4, .inl (k4, 1000, .inl g)), (a5, .inl (k5, 1000, .inl n))] H_3 := hP
  have hD : va_D A [(x, .inr (0, [.ref a1, .ref a2, .ref a3, .ref a4, .ref a5, .int (nI k), .int mf, .long mu, .long ml])), (a1, .inl (k1, 1000, .inl (upd f j (f i)))), (a2, .inl (k2, 1000, .inr (.inl (vp_updL u j (u i))))), (a3, .inl (k3, 1000, .inr (.inl (vp_updL w j (w i))))), (a4, .inl (k4, 1000, .inl g)), (a5, .inl (k5, 1000, .inl n))] := hD
  refine lv_aload_n hx hb dX0_copyPlace_36 rfl (lv_at hl 0 rfl) ?_
  refine va_get (D := (dC, dI)) (ci := 0) (v := .ref a4) (C := RX0) (T := TX0) (N := 9) hx hb htl inX0 hown hK hP 0 rfl rfl 3 (by decide) (htl _ flX0_20) (fun _ h9 => h9) rfl dX0_copyPlace_37 ?_
  refine lv_iload_n hx hb dX0_copyPlace_40 rfl (lv_at hl 2 rfl) ?_
  refine lv_aload_n hx hb dX0_copyPlace_41 rfl (lv_at hl 0 rfl) ?_
  refine va_get (D := (dC, dI)) (ci := 0) (v := .ref a4) (C := RX0) (T := TX0) (N := 9) hx hb htl inX0 hown hK hP 0 rfl rfl 3 (by decide) (htl _ flX0_20) (fun _ h9 => h9) rfl dX0_copyPlace_42 ?_
  refine lv_iload_n hx hb dX0_copyPlace_45 rfl (lv_at hl 1 rfl) ?_
  refine ld_i hx hb hK hP 4 3 rfl rfl (j := i) (by omega) (Nat.le_of_ble_eq_true rfl) dX0_copyPlace_46 ?_
  refine st_i hx hb hK hP hD hS 4 3 rfl rfl (j := j) (by omega) (Nat.le_of_ble_eq_true rfl) dX0_copyPlace_47 (fun H_4 locs hP hD hS => ?_)
  have hP : va_P (dC, dI) classes [(x, .inr (0, [.ref a1, .ref a2, .ref a3, .ref a4, .ref a5, .int (nI k), .int mf, .long mu, .long ml])), (a1, .inl (k1, 1000, .inl (upd f j (f i)))), (a2, .inl (k2, 1000, .inr (.inl (vp_updL u j (u i))))), (a3, .inl (k3, 1000, .inr (.inl (vp_updL w j (w i))))), (a4, .inl (k4, 1000, .inl (upd g j (g i)))), (a5, .inl (k5, 1000, .inl n))] H_4 := hP
  have hD : va_D A [(x, .inr (0, [.ref a1, .ref a2, .ref a3, .ref a4, .ref a5, .int (nI k), .int mf, .long mu, .long ml])), (a1, .inl (k1, 1000, .inl (upd f j (f i)))), (a2, .inl (k2, 1000, .inr (.inl (vp_updL u j (u i))))), (a3, .inl (k3, 1000, .inr (.inl (vp_updL w j (w i))))), (a4, .inl (k4, 1000, .inl (upd g j (g i)))), (a5, .inl (k5, 1000, .inl n))] := hD
  refine lv_aload_n hx hb dX0_copyPlace_48 rfl (lv_at hl 0 rfl) ?_
  refine va_get (D := (dC, dI)) (ci := 0) (v := .ref a5) (C := RX0) (T := TX0) (N := 9) hx hb htl inX0 hown hK hP 0 rfl rfl 4 (by decide) (htl _ flX0_23) (fun _ h9 => h9) rfl dX0_copyPlace_49 ?_
  refine lv_iload_n hx hb dX0_copyPlace_52 rfl (lv_at hl 2 rfl) ?_
  refine lv_aload_n hx hb dX0_copyPlace_53 rfl (lv_at hl 0 rfl) ?_
  refine va_get (D := (dC, dI)) (ci := 0) (v := .ref a5) (C := RX0) (T := TX0) (N := 9) hx hb htl inX0 hown hK hP 0 rfl rfl 4 (by decide) (htl _ flX0_23) (fun _ h9 => h9) rfl dX0_copyPlace_54 ?_
  refine lv_iload_n hx hb dX0_copyPlace_57 rfl (lv_at hl 1 rfl) ?_
  refine ld_i hx hb hK hP 5 4 rfl rfl (j := i) (by omega) (Nat.le_of_ble_eq_true rfl) dX0_copyPlace_58 ?_
  refine st_i hx hb hK hP hD hS 5 4 rfl rfl (j := j) (by omega) (Nat.le_of_ble_eq_true rfl) dX0_copyPlace_59 (fun H_5 locs hP hD hS => ?_)
  have hP : va_P (dC, dI) classes [(x, .inr (0, [.ref a1, .ref a2, .ref a3, .ref a4, .ref a5, .int (nI k), .int mf, .long mu, .long ml])), (a1, .inl (k1, 1000, .inl (upd f j (f i)))), (a2, .inl (k2, 1000, .inr (.inl (vp_updL u j (u i))))), (a3, .inl (k3, 1000, .inr (.inl (vp_updL w j (w i))))), (a4, .inl (k4, 1000, .inl (upd g j (g i)))), (a5, .inl (k5, 1000, .inl (upd n j (n i))))] H_5 := hP
  have hD : va_D A [(x, .inr (0, [.ref a1, .ref a2, .ref a3, .ref a4, .ref a5, .int (nI k), .int mf, .long mu, .long ml])), (a1, .inl (k1, 1000, .inl (upd f j (f i)))), (a2, .inl (k2, 1000, .inr (.inl (vp_updL u j (u i))))), (a3, .inl (k3, 1000, .inr (.inl (vp_updL w j (w i))))), (a4, .inl (k4, 1000, .inl (upd g j (g i)))), (a5, .inl (k5, 1000, .inl (upd n j (n i))))] := hD
  exact mu_vret hx hb hr hlocks hS hP (rfl) dX0_copyPlace_60
set_option maxHeartbeats 4000000 in
set_option maxRecDepth 100000 in
theorem c_X0_write (l : Launch) (dC : Nat → ClassId) (dI : Nat → Nat → Nat) {x a1 a2 a3 a4 a5 : Nat} {k1 k2 k3 k4 k5 : ClassId} {f : Nat → Int32} {u w : Nat → Int64} {g n : Nat → Int32} {k : Nat} {mf : Int32} {mu ml : Int64} (j : Nat) (le nu : Int32) (A : Nat → Prop) (hj : j < 1000) (hD : va_D A (pbw x a1 a2 a3 a4 a5 k1 k2 k3 k4 k5 f u w g n k mf mu ml)) : Met l yX0_write (ww yX0_write cX0_write 4 none) ({ frames := 0, cells := 0, slots := 0, locals := 0 } : Room) (va_Pc [.ref x, .int (nI j), .int le, .int nu] (fun U => va_P (dC, dI) classes (pbw x a1 a2 a3 a4 a5 k1 k2 k3 k4 k5 f u w g n k mf mu ml) U.heap ∧ va_K (dC, dI) classes (pbt k1 k2 k3 k4 k5) U)) (va_Qv (fun (_ : Unit) => True) (fun _ t => va_P (dC, dI) classes (pbw x a1 a2 a3 a4 a5 k1 k2 k3 k4 k5 (upd f j mf) (vp_updL u j mu) (vp_updL w j ml) (upd g j le) (upd n j nu) k mf mu ml) t.heap) A) 0 0 A := by
  refine Met.ofW (cc := cX0_write) (maxL := 4) (ret := none) (by decide) rfl ?_
  intro p e s m args below meth c s₁ B hml hv
  obtain ⟨rfl, hP, hK⟩ := hv
  have hS : va_S A s.heap s.heap [] := va_S.rf
  have hx := B.exec
  have hb := B.bytes
  have hr := B.returns
  have hts := atoms_spec (ws := ww yX0_write cX0_write 4 none) B.pre
  have htl : ∀ w ∈ ltg, w.before [.ref x, .int (nI j), .int le, .int nu].toArray s = true := fun w h => hts w (List.mem_cons_of_mem _ h)
  have hown : s.vm.findClass RX0 = some m.cls := findClass_of_methodNamed B.named
  have hlocks := B.notSynchronized
  have hl := lv_entry ([.ref x, .int (nI j), .int le, .int nu]) (n := 4) (Nat.le_of_ble_eq_true rfl)
  rw [lg_entry_eq]
  generalize (lg_sl ([.ref x, .int (nI j), .int le, .int nu]) ++ List.replicate (4 - (lg_sl ([.ref x, .int (nI j), .int le, .int nu])).length) Slot.unset).toArray = ls at hl ⊢
  have hl : lv_has ls 4 [(0, .ref x), (1, .int (nI j)), (2, .int le), (3, .int nu)] := hl
  refine lv_aload_n hx hb dX0_write_0 rfl (lv_at hl 0 rfl) ?_
  refine va_get (D := (dC, dI)) (ci := 0) (v := .ref a1) (C := RX0) (T := TX0) (N := 9) hx hb htl inX0 hown hK hP 0 rfl rfl 0 (by decide) (htl _ flX0_9) (fun _ h9 => h9) rfl dX0_write_1 ?_
  refine lv_iload_n hx hb dX0_write_4 rfl (lv_at hl 1 rfl) ?_
  refine lv_aload_n hx hb dX0_write_5 rfl (lv_at hl 0 rfl) ?_
  refine va_get (D := (dC, dI)) (ci := 0) (v := .int mf) (C := RX0) (T := TX0) (N := 9) hx hb htl inX0 hown hK hP 0 rfl rfl 6 (by decide) (htl _ flX0_30) (fun _ h9 => h9) rfl dX0_write_6 ?_
  refine st_i hx hb hK hP hD hS 1 0 rfl rfl (j := j) (by omega) (Nat.le_of_ble_eq_true rfl) dX0_write_9 (fun H_1 locs hP hD hS => ?_)
  have hP : va_P (dC, dI) classes [(x, .inr (0, [.ref a1, .ref a2, .ref a3, .ref a4, .ref a5, .int (nI k), .int mf, .long mu, .long ml])), (a1, .inl (k1, 1000, .inl (upd f j mf))), (a2, .inl (k2, 1000, .inr (.inl u))), (a3, .inl (k3, 1000, .inr (.inl w))), (a4, .inl (k4, 1000, .inl g)), (a5, .inl (k5, 1000, .inl n))] H_1 := hP
  have hD : va_D A [(x, .inr (0, [.ref a1, .ref a2, .ref a3, .ref a4, .ref a5, .int (nI k), .int mf, .long mu, .long ml])), (a1, .inl (k1, 1000, .inl (upd f j mf))), (a2, .inl (k2, 1000, .inr (.inl u))), (a3, .inl (k3, 1000, .inr (.inl w))), (a4, .inl (k4, 1000, .inl g)), (a5, .inl (k5, 1000, .inl n))] := hD
  refine lv_aload_n hx hb dX0_write_10 rfl (lv_at hl 0 rfl) ?_
  refine va_get (D := (dC, dI)) (ci := 0) (v := .ref a2) (C := RX0) (T := TX0) (N := 9) hx hb htl inX0 hown hK hP 0 rfl rfl 1 (by decide) (htl _ flX0_13) (fun _ h9 => h9) rfl dX0_write_11 ?_
  refine lv_iload_n hx hb dX0_write_14 rfl (lv_at hl 1 rfl) ?_
  refine lv_aload_n hx hb dX0_write_15 rfl (lv_at hl 0 rfl) ?_
  refine va_get (D := (dC, dI)) (ci := 0) (v := .long mu) (C := RX0) (T := TX0) (N := 9) hx hb htl inX0 hown hK hP 0 rfl rfl 7 (by decide) (htl _ flX0_33) (fun _ h9 => h9) rfl dX0_write_16 ?_
  refine st_l hx hb hK hP hD hS 2 1 rfl rfl (j := j) (by omega) (Nat.le_of_ble_eq_true rfl) dX0_write_19 (fun H_2 locs hP hD hS => ?_)
  have hP : va_P (dC, dI) classes [(x, .inr (0, [.ref a1, .ref a2, .ref a3, .ref a4, .ref a5, .int (nI k), .int mf, .long mu, .long ml])), (a1, .inl (k1, 1000, .inl (upd f j mf))), (a2, .inl (k2, 1000, .inr (.inl (vp_updL u j mu)))), (a3, .inl (k3, 1000, .inr (.inl w))), (a4, .inl (k4, 1000, .inl g)), (a5, .inl (k5, 1000, .inl n))] H_2 := hP
  have hD : va_D A [(x, .inr (0, [.ref a1, .ref a2, .ref a3, .ref a4, .ref a5, .int (nI k), .int mf, .long mu, .long ml])), (a1, .inl (k1, 1000, .inl (upd f j mf))), (a2, .inl (k2, 1000, .inr (.inl (vp_updL u j mu)))), (a3, .inl (k3, 1000, .inr (.inl w))), (a4, .inl (k4, 1000, .inl g)), (a5, .inl (k5, 1000, .inl n))] := hD
  refine lv_aload_n hx hb dX0_write_20 rfl (lv_at hl 0 rfl) ?_
  refine va_get (D := (dC, dI)) (ci := 0) (v := .ref a3) (C := RX0) (T := TX0) (N := 9) hx hb htl inX0 hown hK hP 0 rfl rfl 2 (by decide) (htl _ flX0_17) (fun _ h9 => h9) rfl dX0_write_21 ?_
  refine lv_iload_n hx hb dX0_write_24 rfl (lv_at hl 1 rfl) ?_
  refine lv_aload_n hx hb dX0_write_25 rfl (lv_at hl 0 rfl) ?_
  refine va_get (D := (dC, dI)) (ci := 0) (v := .long ml) (C := RX0) (T := TX0) (N := 9) hx hb htl inX0 hown hK hP 0 rfl rfl 8 (by decide) (htl _ flX0_37) (fun _ h9 => h9) rfl dX0_write_26 ?_
  refine st_l hx hb hK hP hD hS 3 2 rfl rfl (j := j) (by omega) (Nat.le_of_ble_eq_true rfl) dX0_write_29 (fun H_3 locs hP hD hS => ?_)
  have hP : va_P (dC, dI) classes [(x, .inr (0, [.ref a1, .ref a2, .ref a3, .ref a4, .ref a5, .int (nI k), .int mf, .long mu, .long ml])), (a1, .inl (k1, 1000, .inl (upd f j mf))), (a2, .inl (k2, 1000, .inr (.inl (vp_updL u j mu)))), (a3, .inl (k3, 1000, .inr (.inl (vp_updL w j ml)))), (a4, .inl (k4, 1000, .inl g)), (a5, .inl (k5, 1000, .inl n))] H_3 := hP
  have hD : va_D A [(x, .inr (0, [.ref a1, .ref a2, .ref a3, .ref a4, .ref a5, .int (nI k), .int mf, .long mu, .long ml])), (a1, .inl (k1, 1000, .inl (upd f j mf))), (a2, .inl (k2, 1000, .inr (.inl (vp_updL u j mu)))), (a3, .inl (k3, 1000, .inr (.inl (vp_updL w j ml)))), (a4, .inl (k4, 1000, .inl g)), (a5, .inl (k5, 1000, .inl n))] := hD
  refine lv_aload_n hx hb dX0_write_30 rfl (lv_at hl 0 rfl) ?_
  refine va_get (D := (dC, dI)) (ci := 0) (v := .ref a4) (C := RX0) (T := TX0) (N := 9) hx hb htl inX0 hown hK hP 0 rfl rfl 3 (by decide) (htl _ flX0_20) (fun _ h9 => h9) rfl dX0_write_31 ?_
  refine lv_iload_n hx hb dX0_write_34 rfl (lv_at hl 1 rfl) ?_
  refine lv_iload_n hx hb dX0_write_35 rfl (lv_at hl 2 rfl) ?_
  refine st_i hx hb hK hP hD hS 4 3 rfl rfl (j := j) (by omega) (Nat.le_of_ble_eq_true rfl) dX0_write_36 (fun H_4 locs hP hD hS => ?_)
  have hP : va_P (dC, dI) classes [(x, .inr (0, [.ref a1, .ref a2, .ref a3, .ref a4, .ref a5, .int (nI k), .int mf, .long mu, .long ml])), (a1, .inl (k1, 1000, .inl (upd f j mf))), (a2, .inl (k2, 1000, .inr (.inl (vp_updL u j mu)))), (a3, .inl (k3, 1000, .inr (.inl (vp_updL w j ml)))), (a4, .inl (k4, 1000, .inl (upd g j le))), (a5, .inl (k5, 1000, .inl n))] H_4 := hP
  have hD : va_D A [(x, .inr (0, [.ref a1, .ref a2, .ref a3, .ref a4, .ref a5, .int (nI k), .int mf, .long mu, .long ml])), (a1, .inl (k1, 1000, .inl (upd f j mf))), (a2, .inl (k2, 1000, .inr (.inl (vp_updL u j mu)))), (a3, .inl (k3, 1000, .inr (.inl (vp_updL w j ml)))), (a4, .inl (k4, 1000, .inl (upd g j le))), (a5, .inl (k5, 1000, .inl n))] := hD
  refine lv_aload_n hx hb dX0_write_37 rfl (lv_at hl 0 rfl) ?_
  refine va_get (D := (dC, dI)) (ci := 0) (v := .ref a5) (C := RX0) (T := TX0) (N := 9) hx hb htl inX0 hown hK hP 0 rfl rfl 4 (by decide) (htl _ flX0_23) (fun _ h9 => h9) rfl dX0_write_38 ?_
  refine lv_iload_n hx hb dX0_write_41 rfl (lv_at hl 1 rfl) ?_
  refine lv_iload_n hx hb dX0_write_42 rfl (lv_at hl 3 rfl) ?_
  refine st_i hx hb hK hP hD hS 5 4 rfl rfl (j := j) (by omega) (Nat.le_of_ble_eq_true rfl) dX0_write_43 (fun H_5 locs hP hD hS => ?_)
  have hP : va_P (dC, dI) classes [(x, .inr (0, [.ref a1, .ref a2, .ref a3, .ref a4, .ref a5, .int (nI k), .int mf, .long mu, .long ml])), (a1, .inl (k1, 1000, .inl (upd f j mf))), (a2, .inl (k2, 1000, .inr (.inl (vp_updL u j mu)))), (a3, .inl (k3, 1000, .inr (.inl (vp_updL w j ml)))), (a4, .inl (k4, 1000, .inl (upd g j le))), (a5, .inl (k5, 1000, .inl (upd n j nu)))] H_5 := hP
  have hD : va_D A [(x, .inr (0, [.ref a1, .ref a2, .ref a3, .ref a4, .ref a5, .int (nI k), .int mf, .long mu, .long ml])), (a1, .inl (k1, 1000, .inl (upd f j mf))), (a2, .inl (k2, 1000, .inr (.inl (vp_updL u j mu)))), (a3, .inl (k3, 1000, .inr (.inl (vp_updL w j ml)))), (a4, .inl (k4, 1000, .inl (upd g j le))), (a5, .inl (k5, 1000, .inl (upd n j nu)))] := hD
  exact mu_vret hx hb hr hlocks hS hP (rfl) dX0_write_44
