set_option maxHeartbeats 4000000 in
set_option maxRecDepth 100000 in
theorem c_X1_init (l : Launch) (dC : Nat → ClassId) (dI : Nat → Nat → Nat) (h0 sz : Nat) : Met l yX1_init (ww yX1_init cX1_init 1 none) ({ frames := 1, cells := 5, slots := 5000, locals := 12 } : Room) (va_Pc [.ref h0] (fun U => U.heap.size = sz ∧ va_P (dC, dI) classes [(h0, .inr (1, [.null, .null, .null, .null, .null, .int 0, .int 0, .long 0, .long 0]))] U.heap ∧ va_K (dC, dI) classes [] U ∧ va_D (fun _ => True) [(h0, .inr (1, [.null, .null, .null, .null, .null, .int 0, .int 0, .long 0, .long 0]))])) (va_Qv (fun (_ : Unit) => True) (fun _ t => ∃ (a1 a2 a3 a4 a5 : Nat) (k1 k2 k3 k4 k5 : ClassId), va_P (dC, dI) classes (mdw h0 a1 a2 a3 a4 a5 k1 k2 k3 k4 k5 (fun _ => 0) (fun _ => 0) (fun _ => 0) (fun _ => 0) (fun _ => 0) 0 4 0 0) t.heap ∧ va_K (dC, dI) classes (mdt k1 k2 k3 k4 k5) t ∧ va_D (va_A [(h0, .inr (1, [.null, .null, .null, .null, .null, .int 0, .int 0, .long 0, .long 0]))] sz) (mdw h0 a1 a2 a3 a4 a5 k1 k2 k3 k4 k5 (fun _ => 0) (fun _ => 0) (fun _ => 0) (fun _ => 0) (fun _ => 0) 0 4 0 0)) (va_A [(h0, .inr (1, [.null, .null, .null, .null, .null, .int 0, .int 0, .long 0, .long 0]))] sz)) 5 5000 (va_A [(h0, .inr (1, [.null, .null, .null, .null, .null, .int 0, .int 0, .long 0, .long 0]))] sz) := by
  refine Met.ofW (cc := cX1_init) (maxL := 1) (ret := none) (by decide) rfl ?_
  intro p e s m args below meth c s₁ B hml hv
  obtain ⟨rfl, hsz, hP, hK, hD0⟩ := hv
  subst hsz
  have hD := hD0.self (sz := s.heap.size)
  generalize hAe : va_A [(h0, .inr (1, [.null, .null, .null, .null, .null, .int 0, .int 0, .long 0, .long 0]))] s.heap.size = A at hD ⊢
  have hA : ∀ q : Nat, s.heap.size ≤ q → A q := fun q h => by rw [← hAe]; exact Or.inr h
  have hS : va_S A s.heap s.heap [] := va_S.rf
  have hx := B.exec
  have hb := B.bytes
  have hr := B.returns
  have hts := atoms_spec (ws := ww yX1_init cX1_init 1 none) B.pre
  have htl : ∀ w ∈ ltg, w.before [.ref h0].toArray s = true := fun w h => hts w (List.mem_cons_of_mem _ h)
  have hown : s.vm.findClass RX1 = some m.cls := findClass_of_methodNamed B.named
  have hlocks := B.notSynchronized
  have hl := lv_entry ([.ref h0]) (n := 1) (Nat.le_of_ble_eq_true rfl)
  rw [lg_entry_eq]
  generalize (lg_sl ([.ref h0]) ++ List.replicate (1 - (lg_sl ([.ref h0])).length) Slot.unset).toArray = ls at hl ⊢
  have hl : lv_has ls 1 [(0, .ref h0)] := hl
  have hin : meth.name = "<init>" := (name_of_methodNamed B.named B.method).1
  refine lv_aload_n hx hb dX1_init_0 rfl (lv_at hl 0 rfl) ?_
  refine W.objInit hx hb hown (htl _ wo_2) (htl _ wo_1) (htl _ wo_c) rfl (by rw [hml]; exact hl.1) rfl dX1_init_1 (Nat.le_of_ble_eq_true rfl) (Nat.le_of_ble_eq_true rfl) ?_
  refine W.eq (g2 := F0 m 4 ls []) rfl ?_
  refine lv_aload_n hx hb dX1_init_4 rfl (lv_at hl 0 rfl) ?_
  refine lv_sipush (v := 1000) hx hb dX1_init_5 (by decide) ?_
  refine va_newa (atype := .int) hx hb (htl _ wa_int) (ty := .int) rfl hK hP hD hS hA (n := 1000) (N' := 1000) (a0 := (1000, .inl (fun _ => 0))) (fun _ => rfl) (by decide) (by decide) (by decide) (Nat.le_of_ble_eq_true rfl) (Nat.le_of_ble_eq_true rfl) dX1_init_8 (fun a1 k1 H_1 hK hP hD hS => ?_)
  have hP : va_P (dC, dI) classes [(h0, .inr (1, [.null, .null, .null, .null, .null, .int 0, .int 0, .long 0, .long 0])), (a1, .inl (k1, 1000, .inl (fun _ => 0)))] H_1 := hP
  have hD : va_D A [(h0, .inr (1, [.null, .null, .null, .null, .null, .int 0, .int 0, .long 0, .long 0])), (a1, .inl (k1, 1000, .inl (fun _ => 0)))] := hD
  have hK : va_K (dC, dI) classes [(k1, .int)] s := hK
  refine va_putF (D := (dC, dI)) (ci := 1) (v := .ref a1) (ty := .array .int) (C := RX1) (T := TX1) (N := 9) hx hb htl inX1 tyX1 tyX1_ok nmX1 hown hK hP hD hS 0 rfl rfl 0 (by decide) (htl _ flX1_7) (fun _ h9 => h9) rfl hin rfl (by decide +kernel) rfl rfl (Nat.le_of_ble_eq_true rfl) dX1_init_10 (fun H_2 locs hP hD hS => ?_)
  have hP : va_P (dC, dI) classes [(h0, .inr (1, [.ref a1, .null, .null, .null, .null, .int 0, .int 0, .long 0, .long 0])), (a1, .inl (k1, 1000, .inl (fun _ => 0)))] H_2 := hP
  have hD : va_D A [(h0, .inr (1, [.ref a1, .null, .null, .null, .null, .int 0, .int 0, .long 0, .long 0])), (a1, .inl (k1, 1000, .inl (fun _ => 0)))] := hD
  refine lv_aload_n hx hb dX1_init_13 rfl (lv_at hl 0 rfl) ?_
  refine lv_sipush (v := 1000) hx hb dX1_init_14 (by decide) ?_
  refine va_newa (atype := .int) hx hb (htl _ wa_int) (ty := .int) rfl hK hP hD hS hA (n := 1000) (N' := 1000) (a0 := (1000, .inl (fun _ => 0))) (fun _ => rfl) (by decide) (by decide) (by decide) (Nat.le_of_ble_eq_true rfl) (Nat.le_of_ble_eq_true rfl) dX1_init_17 (fun a2 k2 H_3 hK hP hD hS => ?_)
  have hP : va_P (dC, dI) classes [(h0, .inr (1, [.ref a1, .null, .null, .null, .null, .int 0, .int 0, .long 0, .long 0])), (a1, .inl (k1, 1000, .inl (fun _ => 0))), (a2, .inl (k2, 1000, .inl (fun _ => 0)))] H_3 := hP
  have hD : va_D A [(h0, .inr (1, [.ref a1, .null, .null, .null, .null, .int 0, .int 0, .long 0, .long 0])), (a1, .inl (k1, 1000, .inl (fun _ => 0))), (a2, .inl (k2, 1000, .inl (fun _ => 0)))] := hD
  have hK : va_K (dC, dI) classes [(k1, .int), (k2, .int)] s := hK
  refine va_putF (D := (dC, dI)) (ci := 1) (v := .ref a2) (ty := .array .int) (C := RX1) (T := TX1) (N := 9) hx hb htl inX1 tyX1 tyX1_ok nmX1 hown hK hP hD hS 0 rfl rfl 1 (by decide) (htl _ flX1_13) (fun _ h9 => h9) rfl hin rfl (by decide +kernel) rfl rfl (Nat.le_of_ble_eq_true rfl) dX1_init_19 (fun H_4 locs hP hD hS => ?_)
  have hP : va_P (dC, dI) classes [(h0, .inr (1, [.ref a1, .ref a2, .null, .null, .null, .int 0, .int 0, .long 0, .long 0])), (a1, .inl (k1, 1000, .inl (fun _ => 0))), (a2, .inl (k2, 1000, .inl (fun _ => 0)))] H_4 := hP
  have hD : va_D A [(h0, .inr (1, [.ref a1, .ref a2, .null, .null, .null, .int 0, .int 0, .long 0, .long 0])), (a1, .inl (k1, 1000, .inl (fun _ => 0))), (a2, .inl (k2, 1000, .inl (fun _ => 0)))] := hD
  refine lv_aload_n hx hb dX1_init_22 rfl (lv_at hl 0 rfl) ?_
  refine lv_sipush (v := 1000) hx hb dX1_init_23 (by decide) ?_
  refine va_newa (atype := .int) hx hb (htl _ wa_int) (ty := .int) rfl hK hP hD hS hA (n := 1000) (N' := 1000) (a0 := (1000, .inl (fun _ => 0))) (fun _ => rfl) (by decide) (by decide) (by decide) (Nat.le_of_ble_eq_true rfl) (Nat.le_of_ble_eq_true rfl) dX1_init_26 (fun a3 k3 H_5 hK hP hD hS => ?_)
  have hP : va_P (dC, dI) classes [(h0, .inr (1, [.ref a1, .ref a2, .null, .null, .null, .int 0, .int 0, .long 0, .long 0])), (a1, .inl (k1, 1000, .inl (fun _ => 0))), (a2, .inl (k2, 1000, .inl (fun _ => 0))), (a3, .inl (k3, 1000, .inl (fun _ => 0)))] H_5 := hP
  have hD : va_D A [(h0, .inr (1, [.ref a1, .ref a2, .null, .null, .null, .int 0, .int 0, .long 0, .long 0])), (a1, .inl (k1, 1000, .inl (fun _ => 0))), (a2, .inl (k2, 1000, .inl (fun _ => 0))), (a3, .inl (k3, 1000, .inl (fun _ => 0)))] := hD
  have hK : va_K (dC, dI) classes [(k1, .int), (k2, .int), (k3, .int)] s := hK
  refine va_putF (D := (dC, dI)) (ci := 1) (v := .ref a3) (ty := .array .int) (C := RX1) (T := TX1) (N := 9) hx hb htl inX1 tyX1 tyX1_ok nmX1 hown hK hP hD hS 0 rfl rfl 2 (by decide) (htl _ flX1_16) (fun _ h9 => h9) rfl hin rfl (by decide +kernel) rfl rfl (Nat.le_of_ble_eq_true rfl) dX1_init_28 (fun H_6 locs hP hD hS => ?_)
  have hP : va_P (dC, dI) classes [(h0, .inr (1, [.ref a1, .ref a2, .ref a3, .null, .null, .int 0, .int 0, .long 0, .long 0])), (a1, .inl (k1, 1000, .inl (fun _ => 0))), (a2, .inl (k2, 1000, .inl (fun _ => 0))), (a3, .inl (k3, 1000, .inl (fun _ => 0)))] H_6 := hP
  have hD : va_D A [(h0, .inr (1, [.ref a1, .ref a2, .ref a3, .null, .null, .int 0, .int 0, .long 0, .long 0])), (a1, .inl (k1, 1000, .inl (fun _ => 0))), (a2, .inl (k2, 1000, .inl (fun _ => 0))), (a3, .inl (k3, 1000, .inl (fun _ => 0)))] := hD
  refine lv_aload_n hx hb dX1_init_31 rfl (lv_at hl 0 rfl) ?_
  refine lv_sipush (v := 1000) hx hb dX1_init_32 (by decide) ?_
  refine va_newa (atype := .long) hx hb (htl _ wa_long) (ty := .long) rfl hK hP hD hS hA (n := 1000) (N' := 1000) (a0 := (1000, .inr (.inl (fun _ => 0)))) (fun _ => rfl) (by decide) (by decide) (by decide) (Nat.le_of_ble_eq_true rfl) (Nat.le_of_ble_eq_true rfl) dX1_init_35 (fun a4 k4 H_7 hK hP hD hS => ?_)
  have hP : va_P (dC, dI) classes [(h0, .inr (1, [.ref a1, .ref a2, .ref a3, .null, .null, .int 0, .int 0, .long 0, .long 0])), (a1, .inl (k1, 1000, .inl (fun _ => 0))), (a2, .inl (k2, 1000, .inl (fun _ => 0))), (a3, .inl (k3, 1000, .inl (fun _ => 0))), (a4, .inl (k4, 1000, .inr (.inl (fun _ => 0))))] H_7 := hP
  have hD : va_D A [(h0, .inr (1, [.ref a1, .ref a2, .ref a3, .null, .null, .int 0, .int 0, .long 0, .long 0])), (a1, .inl (k1, 1000, .inl (fun _ => 0))), (a2, .inl (k2, 1000, .inl (fun _ => 0))), (a3, .inl (k3, 1000, .inl (fun _ => 0))), (a4, .inl (k4, 1000, .inr (.inl (fun _ => 0))))] := hD
  have hK : va_K (dC, dI) classes [(k1, .int), (k2, .int), (k3, .int), (k4, .long)] s := hK
  refine va_putF (D := (dC, dI)) (ci := 1) (v := .ref a4) (ty := .array .long) (C := RX1) (T := TX1) (N := 9) hx hb htl inX1 tyX1 tyX1_ok nmX1 hown hK hP hD hS 0 rfl rfl 3 (by decide) (htl _ flX1_19) (fun _ h9 => h9) rfl hin rfl (by decide +kernel) rfl rfl (Nat.le_of_ble_eq_true rfl) dX1_init_37 (fun H_8 locs hP hD hS => ?_)
  have hP : va_P (dC, dI) classes [(h0, .inr (1, [.ref a1, .ref a2, .ref a3, .ref a4, .null, .int 0, .int 0, .long 0, .long 0])), (a1, .inl (k1, 1000, .inl (fun _ => 0))), (a2, .inl (k2, 1000, .inl (fun _ => 0))), (a3, .inl (k3, 1000, .inl (fun _ => 0))), (a4, .inl (k4, 1000, .inr (.inl (fun _ => 0))))] H_8 := hP
  have hD : va_D A [(h0, .inr (1, [.ref a1, .ref a2, .ref a3, .ref a4, .null, .int 0, .int 0, .long 0, .long 0])), (a1, .inl (k1, 1000, .inl (fun _ => 0))), (a2, .inl (k2, 1000, .inl (fun _ => 0))), (a3, .inl (k3, 1000, .inl (fun _ => 0))), (a4, .inl (k4, 1000, .inr (.inl (fun _ => 0))))] := hD
  refine lv_aload_n hx hb dX1_init_40 rfl (lv_at hl 0 rfl) ?_
  refine lv_sipush (v := 1000) hx hb dX1_init_41 (by decide) ?_
  refine va_newa (atype := .long) hx hb (htl _ wa_long) (ty := .long) rfl hK hP hD hS hA (n := 1000) (N' := 1000) (a0 := (1000, .inr (.inl (fun _ => 0)))) (fun _ => rfl) (by decide) (by decide) (by decide) (Nat.le_of_ble_eq_true rfl) (Nat.le_of_ble_eq_true rfl) dX1_init_44 (fun a5 k5 H_9 hK hP hD hS => ?_)
  have hP : va_P (dC, dI) classes [(h0, .inr (1, [.ref a1, .ref a2, .ref a3, .ref a4, .null, .int 0, .int 0, .long 0, .long 0])), (a1, .inl (k1, 1000, .inl (fun _ => 0))), (a2, .inl (k2, 1000, .inl (fun _ => 0))), (a3, .inl (k3, 1000, .inl (fun _ => 0))), (a4, .inl (k4, 1000, .inr (.inl (fun _ => 0)))), (a5, .inl (k5, 1000, .inr (.inl (fun _ => 0))))] H_9 := hP
  have hD : va_D A [(h0, .inr (1, [.ref a1, .ref a2, .ref a3, .ref a4, .null, .int 0, .int 0, .long 0, .long 0])), (a1, .inl (k1, 1000, .inl (fun _ => 0))), (a2, .inl (k2, 1000, .inl (fun _ => 0))), (a3, .inl (k3, 1000, .inl (fun _ => 0))), (a4, .inl (k4, 1000, .inr (.inl (fun _ => 0)))), (a5, .inl (k5, 1000, .inr (.inl (fun _ => 0))))] := hD
  have hK : va_K (dC, dI) classes [(k1, .int), (k2, .int), (k3, .int), (k4, .long), (k5, .long)] s := hK
  refine va_putF (D := (dC, dI)) (ci := 1) (v := .ref a5) (ty := .array .long) (C := RX1) (T := TX1) (N := 9) hx hb htl inX1 tyX1 tyX1_ok nmX1 hown hK hP hD hS 0 rfl rfl 4 (by decide) (htl _ flX1_23) (fun _ h9 => h9) rfl hin rfl (by decide +kernel) rfl rfl (Nat.le_of_ble_eq_true rfl) dX1_init_46 (fun H_10 locs hP hD hS => ?_)
  have hP : va_P (dC, dI) classes [(h0, .inr (1, [.ref a1, .ref a2, .ref a3, .ref a4, .ref a5, .int 0, .int 0, .long 0, .long 0])), (a1, .inl (k1, 1000, .inl (fun _ => 0))), (a2, .inl (k2, 1000, .inl (fun _ => 0))), (a3, .inl (k3, 1000, .inl (fun _ => 0))), (a4, .inl (k4, 1000, .inr (.inl (fun _ => 0)))), (a5, .inl (k5, 1000, .inr (.inl (fun _ => 0))))] H_10 := hP
  have hD : va_D A [(h0, .inr (1, [.ref a1, .ref a2, .ref a3, .ref a4, .ref a5, .int 0, .int 0, .long 0, .long 0])), (a1, .inl (k1, 1000, .inl (fun _ => 0))), (a2, .inl (k2, 1000, .inl (fun _ => 0))), (a3, .inl (k3, 1000, .inl (fun _ => 0))), (a4, .inl (k4, 1000, .inr (.inl (fun _ => 0)))), (a5, .inl (k5, 1000, .inr (.inl (fun _ => 0))))] := hD
  refine lv_aload_n hx hb dX1_init_49 rfl (lv_at hl 0 rfl) ?_
  refine lv_iconst (v := 4) hx hb dX1_init_50 (by decide) ?_
  refine va_put (D := (dC, dI)) (ci := 1) (v := .int 4) (ty := .int) (C := RX1) (T := TX1) (N := 9) hx hb htl inX1 tyX1 tyX1_ok nmX1 hown hK hP hD hS 0 rfl rfl 6 (by decide) (htl _ flX1_26) (fun _ h9 => h9) rfl (by decide +kernel) rfl rfl (Nat.le_of_ble_eq_true rfl) dX1_init_51 (fun H_11 locs hP hD hS => ?_)
  have hP : va_P (dC, dI) classes [(h0, .inr (1, [.ref a1, .ref a2, .ref a3, .ref a4, .ref a5, .int 0, .int 4, .long 0, .long 0])), (a1, .inl (k1, 1000, .inl (fun _ => 0))), (a2, .inl (k2, 1000, .inl (fun _ => 0))), (a3, .inl (k3, 1000, .inl (fun _ => 0))), (a4, .inl (k4, 1000, .inr (.inl (fun _ => 0)))), (a5, .inl (k5, 1000, .inr (.inl (fun _ => 0))))] H_11 := hP
  have hD : va_D A [(h0, .inr (1, [.ref a1, .ref a2, .ref a3, .ref a4, .ref a5, .int 0, .int 4, .long 0, .long 0])), (a1, .inl (k1, 1000, .inl (fun _ => 0))), (a2, .inl (k2, 1000, .inl (fun _ => 0))), (a3, .inl (k3, 1000, .inl (fun _ => 0))), (a4, .inl (k4, 1000, .inr (.inl (fun _ => 0)))), (a5, .inl (k5, 1000, .inr (.inl (fun _ => 0))))] := hD
  refine W.widen (k := 5) (n := 5000) (Nat.le_of_ble_eq_true rfl) (Nat.le_of_ble_eq_true rfl) ?_
  exact W.vret hx hb hr (fun t ht hW => ⟨⟨(), rfl, trivial, a1, a2, a3, a4, a5, k1, k2, k3, k4, k5, by show va_P _ _ _ t.heap; rw [ht]; exact hP, va_K.moved hW.alike hK, hD⟩, hS.F ht⟩) hS.2.2 dX1_init_54
