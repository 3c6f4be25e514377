set_option maxHeartbeats 4000000 in
set_option maxRecDepth 100000 in
/-- THE LAW'S LOOP -/
theorem law_loop {p : Program} {l : Launch} {e : Env} {s : State} {m : MethodId} {below : List Frame} {meth : Method} {c : Code} {dC : Nat → ClassId} {dI : Nat → Nat → Nat} {b L : Nat} {xs : Nat → Int32} (hL : L ≤ 3072) (C0 : lw_At p s m meth c b L xs) {x a1 a2 a3 a4 a5 : Nat} {k1 k2 k3 k4 k5 : ClassId} {y b1 b2 b3 b4 b5 : Nat} {m1 m2 m3 m4 m5 : ClassId} (Ax Am : Nat → Prop) (hAx : ∀ q, Ax q → s.heap.size ≤ q) (hAm : ∀ q, Am q → s.heap.size ≤ q) (hsep : ∀ q, Am q → ¬ Ax q) (hsep2 : ∀ q, Ax q → ¬ Am q) (hDx0 : va_D Ax (pbw x a1 a2 a3 a4 a5 k1 k2 k3 k4 k5 (fun _ => 0) (fun _ => 0) (fun _ => 0) (fun _ => 0) (fun _ => 0) 0 4 0 0)) (hDm0 : va_D Am (mdw y b1 b2 b3 b4 b5 m1 m2 m3 m4 m5 (fun _ => 0) (fun _ => 0) (fun _ => 0) (fun _ => 0) (fun _ => 0) 0 4 0 0)) (hKx : va_K (dC, dI) classes (pbt k1 k2 k3 k4 k5) s) (hKm : va_K (dC, dI) classes (mdt m1 m2 m3 m4 m5) s) :
    ∀ (d i : Nat) (f : Nat → Int32) (u w : Nat → Int64) (g n : Nat → Int32) (F : Nat → Int32) (U V : Nat → Int64) (G M : Nat → Int32) (k : Nat) (mf : Int32) (mu ml : Int64), Rel (ro5 f u w g n) (ro5 F U V G M) k mf mu ml → i ≤ L → L + 1 ≤ i + d → ∀ (H : Heap) (locs : List Loc), va_P (dC, dI) classes (pbw x a1 a2 a3 a4 a5 k1 k2 k3 k4 k5 f u w g n k mf mu ml) H → va_P (dC, dI) classes (mdw y b1 b2 b3 b4 b5 m1 m2 m3 m4 m5 F U V G M k mf mu ml) H → va_S (fun q : Nat => s.heap.size ≤ q) s.heap H locs → ∀ (ls : Array Slot), lv_has ls 4 [(0, .ref b), (1, .ref x), (2, .ref y), (3, .int (nI i))] → W p l e room_1 s m #[Value.ref b] below meth c H locs 12 10018 (lw_Z below #[Value.ref b] s) (F0 m 18 ls []) := by
  obtain ⟨hx, hb, hr, hml, hown, hts, hX, hbl, hlocks, hgv⟩ := C0
  have hown : s.vm.findClass RL = some m.cls := hown
  have htl : ∀ w ∈ ltg, w.before #[Value.ref b] s = true := fun w h => hts w (List.mem_filter.mp h).1
  have hbA : ¬ (fun q : Nat => s.heap.size ≤ q) b := Nat.not_le.mpr hbl
  intro d
  induction d with
  | zero => intro i f u w g n F U V G M k mf mu ml hRel h1 h2; exact absurd h2 (by omega)
  | succ d ih =>
    intro i f u w g n F U V G M k mf mu ml hRel hi hd H locs hPx hPm hS ls hl
    have hk := hRel.1
    have hDx : va_D Ax (pbw x a1 a2 a3 a4 a5 k1 k2 k3 k4 k5 f u w g n k mf mu ml) := vd_same hDx0 rfl
    have hDm : va_D Am (mdw y b1 b2 b3 b4 b5 m1 m2 m3 m4 m5 F U V G M k mf mu ml) := vd_same hDm0 rfl
    refine lv_iload_n hx hb dL_law_18 rfl (lv_at hl 3 rfl) ?_
    refine lv_aload_n hx hb dL_law_19 rfl (lv_at hl 0 rfl) ?_
    refine va_slen hx hb hX hbl hbA hS dL_law_20 ?_
    refine lv_bipush (v := 6) hx hb dL_law_21 (by decide) ?_
    refine lv_isub hx hb dL_law_23 ?_
    refine lv_icmp_gt (tgt := 385) hx hb dL_law_24 (by decide) (fun c_1 => ?_) (fun c_1 => ?_)
    · refine lv_iconst (v := 1) hx hb dL_law_385 (by decide) ?_
      refine va_forget (fun q hq => hS.2.2 q hq) ?_
      exact lw_ret hx hb hr hlocks dL_law_386
    · change ¬ nI L - 6 < nI i at c_1
      rw [lw_gt hL hi] at c_1
      refine lv_aload_n hx hb dL_law_27 rfl (lv_at hl 0 rfl) ?_
      refine lv_iload_n hx hb dL_law_28 rfl (lv_at hl 3 rfl) ?_
      refine ld_s hx hb hX hbl hbA hS (j := i) (by omega) hL dL_law_29 ?_
      refine lv_bipush (v := 15) hx hb dL_law_30 (by decide) ?_
      refine lv_iand hx hb dL_law_32 ?_
      by_cases t_2 : (xs i) &&& 15 = 0
      · refine lv_tableIn (off := 55) (tgt := 88) hx hb dL_law_33 (by rw [t_2]; decide) (by rw [t_2]; decide) (by rw [t_2]; rfl) (by decide) ?_
        refine lv_aload_n hx hb dL_law_88 rfl (lv_at hl 1 rfl) ?_
        refine lv_aload_n hx hb dL_law_89 rfl (lv_at hl 0 rfl) ?_
        refine lv_iload_n hx hb dL_law_90 rfl (lv_at hl 3 rfl) ?_
        refine lv_iconst (v := nI 1) hx hb dL_law_91 (by decide) ?_
        refine lv_iadd hx hb dL_law_92 ?_
        refine tp_i (nI_add i 1) ?_
        refine ld_s hx hb hX hbl hbA hS (j := (i + 1)) (by omega) hL dL_law_93 ?_
        refine lv_aload_n hx hb dL_law_94 rfl (lv_at hl 0 rfl) ?_
        refine lv_iload_n hx hb dL_law_95 rfl (lv_at hl 3 rfl) ?_
        refine lv_iconst (v := nI 2) hx hb dL_law_96 (by decide) ?_
        refine lv_iadd hx hb dL_law_97 ?_
        refine tp_i (nI_add i 2) ?_
        refine ld_s hx hb hX hbl hbA hS (j := (i + 2)) (by omega) hL dL_law_98 ?_
        refine lv_i2l hx hb dL_law_99 rfl ?_
        refine lv_bipush (v := 32) hx hb dL_law_100 (by decide) ?_
        refine lv_lshl hx hb dL_law_102 rfl ?_
        refine lv_aload_n hx hb dL_law_103 rfl (lv_at hl 0 rfl) ?_
        refine lv_iload_n hx hb dL_law_104 rfl (lv_at hl 3 rfl) ?_
        refine lv_iconst (v := nI 3) hx hb dL_law_105 (by decide) ?_
        refine lv_iadd hx hb dL_law_106 ?_
        refine tp_i (nI_add i 3) ?_
        refine ld_s hx hb hX hbl hbA hS (j := (i + 3)) (by omega) hL dL_law_107 ?_
        refine lv_i2l hx hb dL_law_108 rfl ?_
        refine lv_ldc2 (v := 4294967295) hx hb hown (htl _ kcL_13) dL_law_109 ?_
        refine lv_land hx hb dL_law_112 ?_
        refine lv_lor hx hb dL_law_113 ?_
        refine lv_aload_n hx hb dL_law_114 rfl (lv_at hl 0 rfl) ?_
        refine lv_iload_n hx hb dL_law_115 rfl (lv_at hl 3 rfl) ?_
        refine lv_iconst (v := nI 4) hx hb dL_law_116 (by decide) ?_
        refine lv_iadd hx hb dL_law_117 ?_
        refine tp_i (nI_add i 4) ?_
        refine ld_s hx hb hX hbl hbA hS (j := (i + 4)) (by omega) hL dL_law_118 ?_
        refine lv_i2l hx hb dL_law_119 rfl ?_
        refine lv_bipush (v := 32) hx hb dL_law_120 (by decide) ?_
        refine lv_lshl hx hb dL_law_122 rfl ?_
        refine lv_aload_n hx hb dL_law_123 rfl (lv_at hl 0 rfl) ?_
        refine lv_iload_n hx hb dL_law_124 rfl (lv_at hl 3 rfl) ?_
        refine lv_iconst (v := nI 5) hx hb dL_law_125 (by decide) ?_
        refine lv_iadd hx hb dL_law_126 ?_
        refine tp_i (nI_add i 5) ?_
        refine ld_s hx hb hX hbl hbA hS (j := (i + 5)) (by omega) hL dL_law_127 ?_
        refine lv_i2l hx hb dL_law_128 rfl ?_
        refine lv_ldc2 (v := 4294967295) hx hb hown (htl _ kcL_13) dL_law_129 ?_
        refine lv_land hx hb dL_law_132 ?_
        refine lv_lor hx hb dL_law_133 ?_
        refine mu_calli (va_runV (As := [.int (xs (i + 1)), .long ((((xs (i + 2)).toInt64) <<< ((32 : Int32).toInt64 &&& 63)) ||| (((xs (i + 3)).toInt64) &&& 4294967295)), .long ((((xs (i + 4)).toInt64) <<< ((32 : Int32).toInt64 &&& 63)) ||| (((xs (i + 5)).toInt64) &&& 4294967295))]) (rest := []) ⟨hx, hb, hml, hown, htl⟩ (c_X0_address l dC dI (xs (i + 1)) ((((xs (i + 2)).toInt64) <<< ((32 : Int32).toInt64 &&& 63)) ||| (((xs (i + 3)).toInt64) &&& 4294967295)) ((((xs (i + 4)).toInt64) <<< ((32 : Int32).toInt64 &&& 63)) ||| (((xs (i + 5)).toInt64) &&& 4294967295)) Ax hDx) (cwV 3 htl gL_15 rfl rfl rfl hd_X0_address ⟨Nat.le_of_ble_eq_true rfl, Nat.le_of_ble_eq_true rfl⟩) ⟨fb_mu, va_recv hKx hPx (ci := 0) (q0 := 0) rfl rfl, fun U hU hW => ⟨rfl, by rw [hU]; exact hPx, va_K.moved hW.alike hKx⟩⟩ rfl rfl hl.1 rfl (lv_room (Nat.le_of_ble_eq_true rfl)) dL_law_134 ⟨Nat.le_of_ble_eq_true rfl, Nat.le_of_ble_eq_true rfl⟩) hS hAx (fun H locs hPx hS hk1 => ?_)
        have hPm := keep_o hPm (fun z q hz => hsep q.1 (hDm.2 z q hz)) hk1
        clear hk1
        obtain ⟨mf', mu', ml', eX, eM, hRel'⟩ := p_address (x := x) (a1 := a1) (a2 := a2) (a3 := a3) (a4 := a4) (a5 := a5) (k1 := k1) (k2 := k2) (k3 := k3) (k4 := k4) (k5 := k5) (y := y) (b1 := b1) (b2 := b2) (b3 := b3) (b4 := b4) (b5 := b5) (m1 := m1) (m2 := m2) (m3 := m3) (m4 := m4) (m5 := m5) hRel (xs (i + 1)) ((((xs (i + 2)).toInt64) <<< ((32 : Int32).toInt64 &&& 63)) ||| (((xs (i + 3)).toInt64) &&& 4294967295)) ((((xs (i + 4)).toInt64) <<< ((32 : Int32).toInt64 &&& 63)) ||| (((xs (i + 5)).toInt64) &&& 4294967295))
        rw [eX] at hPx
        refine lv_aload_n hx hb dL_law_137 rfl (lv_at hl 2 rfl) ?_
        refine lv_aload_n hx hb dL_law_138 rfl (lv_at hl 0 rfl) ?_
        refine lv_iload_n hx hb dL_law_139 rfl (lv_at hl 3 rfl) ?_
        refine lv_iconst (v := nI 1) hx hb dL_law_140 (by decide) ?_
        refine lv_iadd hx hb dL_law_141 ?_
        refine tp_i (nI_add i 1) ?_
        refine ld_s hx hb hX hbl hbA hS (j := (i + 1)) (by omega) hL dL_law_142 ?_
        refine lv_aload_n hx hb dL_law_143 rfl (lv_at hl 0 rfl) ?_
        refine lv_iload_n hx hb dL_law_144 rfl (lv_at hl 3 rfl) ?_
        refine lv_iconst (v := nI 2) hx hb dL_law_145 (by decide) ?_
        refine lv_iadd hx hb dL_law_146 ?_
        refine tp_i (nI_add i 2) ?_
        refine ld_s hx hb hX hbl hbA hS (j := (i + 2)) (by omega) hL dL_law_147 ?_
        refine lv_i2l hx hb dL_law_148 rfl ?_
        refine lv_bipush (v := 32) hx hb dL_law_149 (by decide) ?_
        refine lv_lshl hx hb dL_law_151 rfl ?_
        refine lv_aload_n hx hb dL_law_152 rfl (lv_at hl 0 rfl) ?_
        refine lv_iload_n hx hb dL_law_153 rfl (lv_at hl 3 rfl) ?_
        refine lv_iconst (v := nI 3) hx hb dL_law_154 (by decide) ?_
        refine lv_iadd hx hb dL_law_155 ?_
        refine tp_i (nI_add i 3) ?_
        refine ld_s hx hb hX hbl hbA hS (j := (i + 3)) (by omega) hL dL_law_156 ?_
        refine lv_i2l hx hb dL_law_157 rfl ?_
        refine lv_ldc2 (v := 4294967295) hx hb hown (htl _ kcL_13) dL_law_158 ?_
        refine lv_land hx hb dL_law_161 ?_
        refine lv_lor hx hb dL_law_162 ?_
        refine lv_aload_n hx hb dL_law_163 rfl (lv_at hl 0 rfl) ?_
        refine lv_iload_n hx hb dL_law_164 rfl (lv_at hl 3 rfl) ?_
        refine lv_iconst (v := nI 4) hx hb dL_law_165 (by decide) ?_
        refine lv_iadd hx hb dL_law_166 ?_
        refine tp_i (nI_add i 4) ?_
        refine ld_s hx hb hX hbl hbA hS (j := (i + 4)) (by omega) hL dL_law_167 ?_
        refine lv_i2l hx hb dL_law_168 rfl ?_
        refine lv_bipush (v := 32) hx hb dL_law_169 (by decide) ?_
        refine lv_lshl hx hb dL_law_171 rfl ?_
        refine lv_aload_n hx hb dL_law_172 rfl (lv_at hl 0 rfl) ?_
        refine lv_iload_n hx hb dL_law_173 rfl (lv_at hl 3 rfl) ?_
        refine lv_iconst (v := nI 5) hx hb dL_law_174 (by decide) ?_
        refine lv_iadd hx hb dL_law_175 ?_
        refine tp_i (nI_add i 5) ?_
        refine ld_s hx hb hX hbl hbA hS (j := (i + 5)) (by omega) hL dL_law_176 ?_
        refine lv_i2l hx hb dL_law_177 rfl ?_
        refine lv_ldc2 (v := 4294967295) hx hb hown (htl _ kcL_13) dL_law_178 ?_
        refine lv_land hx hb dL_law_181 ?_
        refine lv_lor hx hb dL_law_182 ?_
        refine mu_calli (va_runV (As := [.int (xs (i + 1)), .long ((((xs (i + 2)).toInt64) <<< ((32 : Int32).toInt64 &&& 63)) ||| (((xs (i + 3)).toInt64) &&& 4294967295)), .long ((((xs (i + 4)).toInt64) <<< ((32 : Int32).toInt64 &&& 63)) ||| (((xs (i + 5)).toInt64) &&& 4294967295))]) (rest := [.int (b2i (kb_addr (xs (i + 1)) ((((xs (i + 2)).toInt64) <<< ((32 : Int32).toInt64 &&& 63)) ||| (((xs (i + 3)).toInt64) &&& 4294967295)) ((((xs (i + 4)).toInt64) <<< ((32 : Int32).toInt64 &&& 63)) ||| (((xs (i + 5)).toInt64) &&& 4294967295))))]) ⟨hx, hb, hml, hown, htl⟩ (c_X1_address l dC dI (xs (i + 1)) ((((xs (i + 2)).toInt64) <<< ((32 : Int32).toInt64 &&& 63)) ||| (((xs (i + 3)).toInt64) &&& 4294967295)) ((((xs (i + 4)).toInt64) <<< ((32 : Int32).toInt64 &&& 63)) ||| (((xs (i + 5)).toInt64) &&& 4294967295)) Am hDm) (cwV 3 htl gL_19 rfl rfl rfl hd_X1_address ⟨Nat.le_of_ble_eq_true rfl, Nat.le_of_ble_eq_true rfl⟩) ⟨fb_mu, va_recv hKm hPm (ci := 1) (q0 := 0) rfl rfl, fun U hU hW => ⟨rfl, by rw [hU]; exact hPm, va_K.moved hW.alike hKm⟩⟩ rfl rfl hl.1 rfl (lv_room (Nat.le_of_ble_eq_true rfl)) dL_law_183 ⟨Nat.le_of_ble_eq_true rfl, Nat.le_of_ble_eq_true rfl⟩) hS hAm (fun H locs hPm hS hk1 => ?_)
        have hPx := keep_o hPx (fun z q hz => hsep2 q.1 ((vd_same hDx0 rfl : va_D Ax (pbw x a1 a2 a3 a4 a5 k1 k2 k3 k4 k5 f u w g n k mf' mu' ml')).2 z q hz)) hk1
        clear hk1
        rw [eM] at hPm
        refine lv_icmp_eq (tgt := 379) hx hb dL_law_186 (by decide) (fun c_3 => ?_) (fun c_3 => ?_)
        · refine lv_iinc (v := nI (i + 6)) (lv' := [(3, .int (nI (i + 6))), (0, .ref b), (1, .ref x), (2, .ref y)]) hx hb dL_law_379 hl (k := 3) rfl (by rw [show Int32.ofInt 6 = nI 6 by decide]; exact nI_add i 6) (by decide) rfl (fun ls hl => ?_)
          refine lv_goto (tgt := 18) hx hb dL_law_382 (by decide) ?_
          exact ih (i + 6) f u w g n F U V G M k mf' mu' ml' hRel' (by omega) (by omega) _ _ hPx hPm hS ls (lv_sub hl [1, 2, 3, 0] rfl)
        · exact absurd (rfl) c_3
      by_cases t_4 : (xs i) &&& 15 = 1
      · refine lv_tableIn (off := 158) (tgt := 191) hx hb dL_law_33 (by rw [t_4]; decide) (by rw [t_4]; decide) (by rw [t_4]; rfl) (by decide) ?_
        refine lv_aload_n hx hb dL_law_191 rfl (lv_at hl 1 rfl) ?_
        refine lv_aload_n hx hb dL_law_192 rfl (lv_at hl 0 rfl) ?_
        refine lv_iload_n hx hb dL_law_193 rfl (lv_at hl 3 rfl) ?_
        refine lv_iconst (v := nI 1) hx hb dL_law_194 (by decide) ?_
        refine lv_iadd hx hb dL_law_195 ?_
        refine tp_i (nI_add i 1) ?_
        refine ld_s hx hb hX hbl hbA hS (j := (i + 1)) (by omega) hL dL_law_196 ?_
        refine lv_aload_n hx hb dL_law_197 rfl (lv_at hl 0 rfl) ?_
        refine lv_iload_n hx hb dL_law_198 rfl (lv_at hl 3 rfl) ?_
        refine lv_iconst (v := nI 2) hx hb dL_law_199 (by decide) ?_
        refine lv_iadd hx hb dL_law_200 ?_
        refine tp_i (nI_add i 2) ?_
        refine ld_s hx hb hX hbl hbA hS (j := (i + 2)) (by omega) hL dL_law_201 ?_
        refine mu_calli (va_runV (As := [.int (xs (i + 1)), .int (xs (i + 2))]) (rest := []) ⟨hx, hb, hml, hown, htl⟩ (c_X0_put l dC dI (xs (i + 1)) (xs (i + 2)) Ax hk hDx) (cwV 2 htl gL_20 rfl rfl rfl hd_X0_put ⟨Nat.le_of_ble_eq_true rfl, Nat.le_of_ble_eq_true rfl⟩) ⟨fb_mu, va_recv hKx hPx (ci := 0) (q0 := 0) rfl rfl, fun U hU hW => ⟨rfl, by rw [hU]; exact hPx, va_K.moved hW.alike hKx⟩⟩ rfl rfl hl.1 rfl (lv_room (Nat.le_of_ble_eq_true rfl)) dL_law_202 ⟨Nat.le_of_ble_eq_true rfl, Nat.le_of_ble_eq_true rfl⟩) hS hAx (fun H locs hPx hS hk1 => ?_)
        have hPm := keep_o hPm (fun z q hz => hsep q.1 (hDm.2 z q hz)) hk1
        clear hk1
        obtain ⟨f', u', w', g', n', F', U', V', G', M', k', eX, eM, eR, hRel'⟩ := p_put (x := x) (a1 := a1) (a2 := a2) (a3 := a3) (a4 := a4) (a5 := a5) (k1 := k1) (k2 := k2) (k3 := k3) (k4 := k4) (k5 := k5) (y := y) (b1 := b1) (b2 := b2) (b3 := b3) (b4 := b4) (b5 := b5) (m1 := m1) (m2 := m2) (m3 := m3) (m4 := m4) (m5 := m5) hRel (xs (i + 1)) (xs (i + 2))
        rw [eX] at hPx
        refine lv_aload_n hx hb dL_law_205 rfl (lv_at hl 2 rfl) ?_
        refine lv_aload_n hx hb dL_law_206 rfl (lv_at hl 0 rfl) ?_
        refine lv_iload_n hx hb dL_law_207 rfl (lv_at hl 3 rfl) ?_
        refine lv_iconst (v := nI 1) hx hb dL_law_208 (by decide) ?_
        refine lv_iadd hx hb dL_law_209 ?_
        refine tp_i (nI_add i 1) ?_
        refine ld_s hx hb hX hbl hbA hS (j := (i + 1)) (by omega) hL dL_law_210 ?_
        refine lv_aload_n hx hb dL_law_211 rfl (lv_at hl 0 rfl) ?_
        refine lv_iload_n hx hb dL_law_212 rfl (lv_at hl 3 rfl) ?_
        refine lv_iconst (v := nI 2) hx hb dL_law_213 (by decide) ?_
        refine lv_iadd hx hb dL_law_214 ?_
        refine tp_i (nI_add i 2) ?_
        refine ld_s hx hb hX hbl hbA hS (j := (i + 2)) (by omega) hL dL_law_215 ?_
        refine mu_calli (va_runV (As := [.int (xs (i + 1)), .int (xs (i + 2))]) (rest := [.int (if kb_pre mf mu ml (xs (i + 1)) = true then (if kb_st f u w g mf mu ml (xs (i + 1)) k (kb_fst (kb_ah f u w g mf mu ml (xs (i + 1))) k 0) = true then (0 : Int32) else if k < 1000 then 1 else (-1)) else (-1))]) ⟨hx, hb, hml, hown, htl⟩ (c_X1_put l dC dI (xs (i + 1)) (xs (i + 2)) Am hk hDm) (cwV 2 htl gL_24 rfl rfl rfl hd_X1_put ⟨Nat.le_of_ble_eq_true rfl, Nat.le_of_ble_eq_true rfl⟩) ⟨fb_mu, va_recv hKm hPm (ci := 1) (q0 := 0) rfl rfl, fun U hU hW => ⟨rfl, by rw [hU]; exact hPm, va_K.moved hW.alike hKm⟩⟩ rfl rfl hl.1 rfl (lv_room (Nat.le_of_ble_eq_true rfl)) dL_law_216 ⟨Nat.le_of_ble_eq_true rfl, Nat.le_of_ble_eq_true rfl⟩) hS hAm (fun H locs hPm hS hk1 => ?_)
        have hPx := keep_o hPx (fun z q hz => hsep2 q.1 ((vd_same hDx0 rfl : va_D Ax (pbw x a1 a2 a3 a4 a5 k1 k2 k3 k4 k5 f' u' w' g' n' k' mf mu ml)).2 z q hz)) hk1
        clear hk1
        rw [eM] at hPm
        refine lv_icmp_eq (tgt := 379) hx hb dL_law_219 (by decide) (fun c_5 => ?_) (fun c_5 => ?_)
        · refine lv_iinc (v := nI (i + 6)) (lv' := [(3, .int (nI (i + 6))), (0, .ref b), (1, .ref x), (2, .ref y)]) hx hb dL_law_379 hl (k := 3) rfl (by rw [show Int32.ofInt 6 = nI 6 by decide]; exact nI_add i 6) (by decide) rfl (fun ls hl => ?_)
          refine lv_goto (tgt := 18) hx hb dL_law_382 (by decide) ?_
          exact ih (i + 6) f' u' w' g' n' F' U' V' G' M' k' mf mu ml hRel' (by omega) (by omega) _ _ hPx hPm hS ls (lv_sub hl [1, 2, 3, 0] rfl)
        · exact absurd (eR) c_5
      by_cases t_6 : (xs i) &&& 15 = 2
      · refine lv_tableIn (off := 191) (tgt := 224) hx hb dL_law_33 (by rw [t_6]; decide) (by rw [t_6]; decide) (by rw [t_6]; rfl) (by decide) ?_
        refine lv_aload_n hx hb dL_law_224 rfl (lv_at hl 1 rfl) ?_
        refine lv_aload_n hx hb dL_law_225 rfl (lv_at hl 0 rfl) ?_
        refine lv_iload_n hx hb dL_law_226 rfl (lv_at hl 3 rfl) ?_
        refine lv_iconst (v := nI 1) hx hb dL_law_227 (by decide) ?_
        refine lv_iadd hx hb dL_law_228 ?_
        refine tp_i (nI_add i 1) ?_
        refine ld_s hx hb hX hbl hbA hS (j := (i + 1)) (by omega) hL dL_law_229 ?_
        refine mu_calli (va_runV (As := [.int (xs (i + 1))]) (rest := []) ⟨hx, hb, hml, hown, htl⟩ (c_X0_remove l dC dI (xs (i + 1)) Ax hk hDx) (cwV 1 htl gL_25 rfl rfl rfl hd_X0_remove ⟨Nat.le_of_ble_eq_true rfl, Nat.le_of_ble_eq_true rfl⟩) ⟨fb_mu, va_recv hKx hPx (ci := 0) (q0 := 0) rfl rfl, fun U hU hW => ⟨rfl, by rw [hU]; exact hPx, va_K.moved hW.alike hKx⟩⟩ rfl rfl hl.1 rfl (lv_room (Nat.le_of_ble_eq_true rfl)) dL_law_230 ⟨Nat.le_of_ble_eq_true rfl, Nat.le_of_ble_eq_true rfl⟩) hS hAx (fun H locs hPx hS hk1 => ?_)
        have hPm := keep_o hPm (fun z q hz => hsep q.1 (hDm.2 z q hz)) hk1
        clear hk1
        obtain ⟨f', u', w', g', n', F', U', V', G', M', k', eX, eM, eR, hRel'⟩ := p_remove (x := x) (a1 := a1) (a2 := a2) (a3 := a3) (a4 := a4) (a5 := a5) (k1 := k1) (k2 := k2) (k3 := k3) (k4 := k4) (k5 := k5) (y := y) (b1 := b1) (b2 := b2) (b3 := b3) (b4 := b4) (b5 := b5) (m1 := m1) (m2 := m2) (m3 := m3) (m4 := m4) (m5 := m5) hRel (xs (i + 1))
        rw [eX] at hPx
        refine lv_aload_n hx hb dL_law_233 rfl (lv_at hl 2 rfl) ?_
        refine lv_aload_n hx hb dL_law_234 rfl (lv_at hl 0 rfl) ?_
        refine lv_iload_n hx hb dL_law_235 rfl (lv_at hl 3 rfl) ?_
        refine lv_iconst (v := nI 1) hx hb dL_law_236 (by decide) ?_
        refine lv_iadd hx hb dL_law_237 ?_
        refine tp_i (nI_add i 1) ?_
        refine ld_s hx hb hX hbl hbA hS (j := (i + 1)) (by omega) hL dL_law_238 ?_
        refine mu_calli (va_runV (As := [.int (xs (i + 1))]) (rest := [.int (if kb_pre mf mu ml (xs (i + 1)) = true then (if kb_st f u w g mf mu ml (xs (i + 1)) k (kb_fst (kb_ah f u w g mf mu ml (xs (i + 1))) k 0) = true then (1 : Int32) else 0) else (-1))]) ⟨hx, hb, hml, hown, htl⟩ (c_X1_remove l dC dI (xs (i + 1)) Am hk hDm) (cwV 1 htl gL_29 rfl rfl rfl hd_X1_remove ⟨Nat.le_of_ble_eq_true rfl, Nat.le_of_ble_eq_true rfl⟩) ⟨fb_mu, va_recv hKm hPm (ci := 1) (q0 := 0) rfl rfl, fun U hU hW => ⟨rfl, by rw [hU]; exact hPm, va_K.moved hW.alike hKm⟩⟩ rfl rfl hl.1 rfl (lv_room (Nat.le_of_ble_eq_true rfl)) dL_law_239 ⟨Nat.le_of_ble_eq_true rfl, Nat.le_of_ble_eq_true rfl⟩) hS hAm (fun H locs hPm hS hk1 => ?_)
        have hPx := keep_o hPx (fun z q hz => hsep2 q.1 ((vd_same hDx0 rfl : va_D Ax (pbw x a1 a2 a3 a4 a5 k1 k2 k3 k4 k5 f' u' w' g' n' k' mf mu ml)).2 z q hz)) hk1
        clear hk1
        rw [eM] at hPm
        refine lv_icmp_eq (tgt := 379) hx hb dL_law_242 (by decide) (fun c_7 => ?_) (fun c_7 => ?_)
        · refine lv_iinc (v := nI (i + 6)) (lv' := [(3, .int (nI (i + 6))), (0, .ref b), (1, .ref x), (2, .ref y)]) hx hb dL_law_379 hl (k := 3) rfl (by rw [show Int32.ofInt 6 = nI 6 by decide]; exact nI_add i 6) (by decide) rfl (fun ls hl => ?_)
          refine lv_goto (tgt := 18) hx hb dL_law_382 (by decide) ?_
          exact ih (i + 6) f' u' w' g' n' F' U' V' G' M' k' mf mu ml hRel' (by omega) (by omega) _ _ hPx hPm hS ls (lv_sub hl [1, 2, 3, 0] rfl)
        · exact absurd (eR) c_7
      by_cases t_8 : (xs i) &&& 15 = 3
      · refine lv_tableIn (off := 214) (tgt := 247) hx hb dL_law_33 (by rw [t_8]; decide) (by rw [t_8]; decide) (by rw [t_8]; rfl) (by decide) ?_
        refine lv_aload_n hx hb dL_law_247 rfl (lv_at hl 1 rfl) ?_
        refine lv_aload_n hx hb dL_law_248 rfl (lv_at hl 0 rfl) ?_
        refine lv_iload_n hx hb dL_law_249 rfl (lv_at hl 3 rfl) ?_
        refine lv_iconst (v := nI 1) hx hb dL_law_250 (by decide) ?_
        refine lv_iadd hx hb dL_law_251 ?_
        refine tp_i (nI_add i 1) ?_
        refine ld_s hx hb hX hbl hbA hS (j := (i + 1)) (by omega) hL dL_law_252 ?_
        refine ru_calli (va_runV (As := [.int (xs (i + 1))]) (rest := []) ⟨hx, hb, hml, hown, htl⟩ (c_X0_number l dC dI (xs (i + 1)) _ hk hPx) (cwV 1 htl gL_30 rfl rfl rfl hd_X0_number ⟨Nat.le_of_ble_eq_true rfl, Nat.le_of_ble_eq_true rfl⟩) ⟨fb_ro, va_recv hKx hPx (ci := 0) (q0 := 0) rfl rfl, fun U hU hW => ⟨rfl, hU, va_K.moved hW.alike hKx⟩⟩ rfl rfl hl.1 rfl (lv_room (Nat.le_of_ble_eq_true rfl)) dL_law_253 ⟨Nat.le_of_ble_eq_true rfl, Nat.le_of_ble_eq_true rfl⟩) ?_
        refine lv_aload_n hx hb dL_law_256 rfl (lv_at hl 2 rfl) ?_
        refine lv_aload_n hx hb dL_law_257 rfl (lv_at hl 0 rfl) ?_
        refine lv_iload_n hx hb dL_law_258 rfl (lv_at hl 3 rfl) ?_
        refine lv_iconst (v := nI 1) hx hb dL_law_259 (by decide) ?_
        refine lv_iadd hx hb dL_law_260 ?_
        refine tp_i (nI_add i 1) ?_
        refine ld_s hx hb hX hbl hbA hS (j := (i + 1)) (by omega) hL dL_law_261 ?_
        refine ru_calli (va_runV (As := [.int (xs (i + 1))]) (rest := [.int (if kb_st f u w g mf mu ml (xs (i + 1)) k (kb_fst (kb_ah f u w g mf mu ml (xs (i + 1))) k 0) = true then n (kb_fst (kb_ah f u w g mf mu ml (xs (i + 1))) k 0) else (-2147483648))]) ⟨hx, hb, hml, hown, htl⟩ (c_X1_number l dC dI (xs (i + 1)) _ hk hPm) (cwV 1 htl gL_33 rfl rfl rfl hd_X1_number ⟨Nat.le_of_ble_eq_true rfl, Nat.le_of_ble_eq_true rfl⟩) ⟨fb_ro, va_recv hKm hPm (ci := 1) (q0 := 0) rfl rfl, fun U hU hW => ⟨rfl, hU, va_K.moved hW.alike hKm⟩⟩ rfl rfl hl.1 rfl (lv_room (Nat.le_of_ble_eq_true rfl)) dL_law_262 ⟨Nat.le_of_ble_eq_true rfl, Nat.le_of_ble_eq_true rfl⟩) ?_
        refine lv_icmp_eq (tgt := 379) hx hb dL_law_265 (by decide) (fun c_9 => ?_) (fun c_9 => ?_)
        · refine lv_iinc (v := nI (i + 6)) (lv' := [(3, .int (nI (i + 6))), (0, .ref b), (1, .ref x), (2, .ref y)]) hx hb dL_law_379 hl (k := 3) rfl (by rw [show Int32.ofInt 6 = nI 6 by decide]; exact nI_add i 6) (by decide) rfl (fun ls hl => ?_)
          refine lv_goto (tgt := 18) hx hb dL_law_382 (by decide) ?_
          exact ih (i + 6) f u w g n F U V G M k mf mu ml hRel (by omega) (by omega) _ _ hPx hPm hS ls (lv_sub hl [1, 2, 3, 0] rfl)
        · exact absurd (p_number hRel _) c_9
      by_cases t_10 : (xs i) &&& 15 = 4
      · refine lv_tableIn (off := 237) (tgt := 270) hx hb dL_law_33 (by rw [t_10]; decide) (by rw [t_10]; decide) (by rw [t_10]; rfl) (by decide) ?_
        refine lv_aload_n hx hb dL_law_270 rfl (lv_at hl 1 rfl) ?_
        refine ru_calli (va_runV (As := []) (rest := []) ⟨hx, hb, hml, hown, htl⟩ (c_X0_longest l dC dI _ hk hPx) (cwV 0 htl gL_34 rfl rfl rfl hd_X0_longest ⟨Nat.le_of_ble_eq_true rfl, Nat.le_of_ble_eq_true rfl⟩) ⟨fb_ro, va_recv hKx hPx (ci := 0) (q0 := 0) rfl rfl, fun U hU hW => ⟨rfl, hU, va_K.moved hW.alike hKx⟩⟩ rfl rfl hl.1 rfl (lv_room (Nat.le_of_ble_eq_true rfl)) dL_law_271 ⟨Nat.le_of_ble_eq_true rfl, Nat.le_of_ble_eq_true rfl⟩) ?_
        refine lv_aload_n hx hb dL_law_274 rfl (lv_at hl 2 rfl) ?_
        refine ru_calli (va_runV (As := []) (rest := [.int (kb_lg (kb_cov f u w g mf mu ml) g k)]) ⟨hx, hb, hml, hown, htl⟩ (c_X1_longest l dC dI _ hk (p_len hRel) hPm) (cwV 0 htl gL_38 rfl rfl rfl hd_X1_longest ⟨Nat.le_of_ble_eq_true rfl, Nat.le_of_ble_eq_true rfl⟩) ⟨fb_ro, va_recv hKm hPm (ci := 1) (q0 := 0) rfl rfl, fun U hU hW => ⟨rfl, hU, va_K.moved hW.alike hKm⟩⟩ rfl rfl hl.1 rfl (lv_room (Nat.le_of_ble_eq_true rfl)) dL_law_275 ⟨Nat.le_of_ble_eq_true rfl, Nat.le_of_ble_eq_true rfl⟩) ?_
        refine lv_icmp_eq (tgt := 379) hx hb dL_law_278 (by decide) (fun c_11 => ?_) (fun c_11 => ?_)
        · refine lv_iinc (v := nI (i + 6)) (lv' := [(3, .int (nI (i + 6))), (0, .ref b), (1, .ref x), (2, .ref y)]) hx hb dL_law_379 hl (k := 3) rfl (by rw [show Int32.ofInt 6 = nI 6 by decide]; exact nI_add i 6) (by decide) rfl (fun ls hl => ?_)
          refine lv_goto (tgt := 18) hx hb dL_law_382 (by decide) ?_
          exact ih (i + 6) f u w g n F U V G M k mf mu ml hRel (by omega) (by omega) _ _ hPx hPm hS ls (lv_sub hl [1, 2, 3, 0] rfl)
        · exact absurd (p_long hRel) c_11
      by_cases t_12 : (xs i) &&& 15 = 5
      · refine lv_tableIn (off := 250) (tgt := 283) hx hb dL_law_33 (by rw [t_12]; decide) (by rw [t_12]; decide) (by rw [t_12]; rfl) (by decide) ?_
        refine lv_aload_n hx hb dL_law_283 rfl (lv_at hl 1 rfl) ?_
        refine ru_calli (va_runV (As := []) (rest := []) ⟨hx, hb, hml, hown, htl⟩ (c_X0_covering l dC dI _ hk hPx) (cwV 0 htl gL_39 rfl rfl rfl hd_X0_covering ⟨Nat.le_of_ble_eq_true rfl, Nat.le_of_ble_eq_true rfl⟩) ⟨fb_ro, va_recv hKx hPx (ci := 0) (q0 := 0) rfl rfl, fun U hU hW => ⟨rfl, hU, va_K.moved hW.alike hKx⟩⟩ rfl rfl hl.1 rfl (lv_room (Nat.le_of_ble_eq_true rfl)) dL_law_284 ⟨Nat.le_of_ble_eq_true rfl, Nat.le_of_ble_eq_true rfl⟩) ?_
        refine lv_aload_n hx hb dL_law_287 rfl (lv_at hl 2 rfl) ?_
        refine ru_calli (va_runV (As := []) (rest := [.int (nI (kb_cv (kb_cov f u w g mf mu ml) k))]) ⟨hx, hb, hml, hown, htl⟩ (c_X1_covering l dC dI _ hk (p_len hRel) hPm) (cwV 0 htl gL_42 rfl rfl rfl hd_X1_covering ⟨Nat.le_of_ble_eq_true rfl, Nat.le_of_ble_eq_true rfl⟩) ⟨fb_ro, va_recv hKm hPm (ci := 1) (q0 := 0) rfl rfl, fun U hU hW => ⟨rfl, hU, va_K.moved hW.alike hKm⟩⟩ rfl rfl hl.1 rfl (lv_room (Nat.le_of_ble_eq_true rfl)) dL_law_288 ⟨Nat.le_of_ble_eq_true rfl, Nat.le_of_ble_eq_true rfl⟩) ?_
        refine lv_icmp_eq (tgt := 379) hx hb dL_law_291 (by decide) (fun c_13 => ?_) (fun c_13 => ?_)
        · refine lv_iinc (v := nI (i + 6)) (lv' := [(3, .int (nI (i + 6))), (0, .ref b), (1, .ref x), (2, .ref y)]) hx hb dL_law_379 hl (k := 3) rfl (by rw [show Int32.ofInt 6 = nI 6 by decide]; exact nI_add i 6) (by decide) rfl (fun ls hl => ?_)
          refine lv_goto (tgt := 18) hx hb dL_law_382 (by decide) ?_
          exact ih (i + 6) f u w g n F U V G M k mf mu ml hRel (by omega) (by omega) _ _ hPx hPm hS ls (lv_sub hl [1, 2, 3, 0] rfl)
        · exact absurd (congrArg nI (p_cov hRel)) c_13
      by_cases t_14 : (xs i) &&& 15 = 6
      · refine lv_tableIn (off := 263) (tgt := 296) hx hb dL_law_33 (by rw [t_14]; decide) (by rw [t_14]; decide) (by rw [t_14]; rfl) (by decide) ?_
        refine lv_aload_n hx hb dL_law_296 rfl (lv_at hl 1 rfl) ?_
        refine lv_aload_n hx hb dL_law_297 rfl (lv_at hl 0 rfl) ?_
        refine lv_iload_n hx hb dL_law_298 rfl (lv_at hl 3 rfl) ?_
        refine lv_iconst (v := nI 1) hx hb dL_law_299 (by decide) ?_
        refine lv_iadd hx hb dL_law_300 ?_
        refine tp_i (nI_add i 1) ?_
        refine ld_s hx hb hX hbl hbA hS (j := (i + 1)) (by omega) hL dL_law_301 ?_
        refine ru_calli (va_runV (As := [.int (xs (i + 1))]) (rest := []) ⟨hx, hb, hml, hown, htl⟩ (c_X0_ahead l dC dI (xs (i + 1)) _ hk hPx) (cwV 1 htl gL_43 rfl rfl rfl hd_X0_ahead ⟨Nat.le_of_ble_eq_true rfl, Nat.le_of_ble_eq_true rfl⟩) ⟨fb_ro, va_recv hKx hPx (ci := 0) (q0 := 0) rfl rfl, fun U hU hW => ⟨rfl, hU, va_K.moved hW.alike hKx⟩⟩ rfl rfl hl.1 rfl (lv_room (Nat.le_of_ble_eq_true rfl)) dL_law_302 ⟨Nat.le_of_ble_eq_true rfl, Nat.le_of_ble_eq_true rfl⟩) ?_
        refine lv_aload_n hx hb dL_law_305 rfl (lv_at hl 2 rfl) ?_
        refine lv_aload_n hx hb dL_law_306 rfl (lv_at hl 0 rfl) ?_
        refine lv_iload_n hx hb dL_law_307 rfl (lv_at hl 3 rfl) ?_
        refine lv_iconst (v := nI 1) hx hb dL_law_308 (by decide) ?_
        refine lv_iadd hx hb dL_law_309 ?_
        refine tp_i (nI_add i 1) ?_
        refine ld_s hx hb hX hbl hbA hS (j := (i + 1)) (by omega) hL dL_law_310 ?_
        refine ru_calli (va_runV (As := [.int (xs (i + 1))]) (rest := [.int (if kb_len mf (xs (i + 1)) = true then nI (kb_fst (kb_ah f u w g mf mu ml (xs (i + 1))) k 0) else (-1))]) ⟨hx, hb, hml, hown, htl⟩ (c_X1_ahead l dC dI (xs (i + 1)) _ hk hPm) (cwV 1 htl gL_46 rfl rfl rfl hd_X1_ahead ⟨Nat.le_of_ble_eq_true rfl, Nat.le_of_ble_eq_true rfl⟩) ⟨fb_ro, va_recv hKm hPm (ci := 1) (q0 := 0) rfl rfl, fun U hU hW => ⟨rfl, hU, va_K.moved hW.alike hKm⟩⟩ rfl rfl hl.1 rfl (lv_room (Nat.le_of_ble_eq_true rfl)) dL_law_311 ⟨Nat.le_of_ble_eq_true rfl, Nat.le_of_ble_eq_true rfl⟩) ?_
        refine lv_icmp_eq (tgt := 379) hx hb dL_law_314 (by decide) (fun c_15 => ?_) (fun c_15 => ?_)
        · refine lv_iinc (v := nI (i + 6)) (lv' := [(3, .int (nI (i + 6))), (0, .ref b), (1, .ref x), (2, .ref y)]) hx hb dL_law_379 hl (k := 3) rfl (by rw [show Int32.ofInt 6 = nI 6 by decide]; exact nI_add i 6) (by decide) rfl (fun ls hl => ?_)
          refine lv_goto (tgt := 18) hx hb dL_law_382 (by decide) ?_
          exact ih (i + 6) f u w g n F U V G M k mf mu ml hRel (by omega) (by omega) _ _ hPx hPm hS ls (lv_sub hl [1, 2, 3, 0] rfl)
        · exact absurd (p_ahead hRel _) c_15
      by_cases t_16 : (xs i) &&& 15 = 7
      · refine lv_tableIn (off := 286) (tgt := 319) hx hb dL_law_33 (by rw [t_16]; decide) (by rw [t_16]; decide) (by rw [t_16]; rfl) (by decide) ?_
        by_cases hbad : xs (i + 1) < 0 ∨ nI k ≤ xs (i + 1)
        · refine lv_aload_n hx hb dL_law_319 rfl (lv_at hl 1 rfl) ?_
          refine lv_aload_n hx hb dL_law_320 rfl (lv_at hl 0 rfl) ?_
          refine lv_iload_n hx hb dL_law_321 rfl (lv_at hl 3 rfl) ?_
          refine lv_iconst (v := nI 1) hx hb dL_law_322 (by decide) ?_
          refine lv_iadd hx hb dL_law_323 ?_
          refine tp_i (nI_add i 1) ?_
          refine ld_s hx hb hX hbl hbA hS (j := (i + 1)) (by omega) hL dL_law_324 ?_
          refine mu_calli (va_runV (As := [.int (xs (i + 1))]) (rest := []) ⟨hx, hb, hml, hown, htl⟩ (c_X0_atBad l dC dI (xs (i + 1)) Ax hbad hDx) (cwV 1 htl gL_47 rfl rfl rfl hd_X0_at ⟨Nat.le_of_ble_eq_true rfl, Nat.le_of_ble_eq_true rfl⟩) ⟨fb_mu, va_recv hKx hPx (ci := 0) (q0 := 0) rfl rfl, fun U hU hW => ⟨rfl, by rw [hU]; exact hPx, va_K.moved hW.alike hKx⟩⟩ rfl rfl hl.1 rfl (lv_room (Nat.le_of_ble_eq_true rfl)) dL_law_325 ⟨Nat.le_of_ble_eq_true rfl, Nat.le_of_ble_eq_true rfl⟩) hS hAx (fun H locs hPx hS hk1 => ?_)
          have hPm := keep_o hPm (fun z q hz => hsep q.1 (hDm.2 z q hz)) hk1
          clear hk1
          refine lv_aload_n hx hb dL_law_328 rfl (lv_at hl 2 rfl) ?_
          refine lv_aload_n hx hb dL_law_329 rfl (lv_at hl 0 rfl) ?_
          refine lv_iload_n hx hb dL_law_330 rfl (lv_at hl 3 rfl) ?_
          refine lv_iconst (v := nI 1) hx hb dL_law_331 (by decide) ?_
          refine lv_iadd hx hb dL_law_332 ?_
          refine tp_i (nI_add i 1) ?_
          refine ld_s hx hb hX hbl hbA hS (j := (i + 1)) (by omega) hL dL_law_333 ?_
          refine mu_calli (va_runV (As := [.int (xs (i + 1))]) (rest := [.int (-1)]) ⟨hx, hb, hml, hown, htl⟩ (c_X1_atBad l dC dI (xs (i + 1)) Am hbad hDm) (cwV 1 htl gL_50 rfl rfl rfl hd_X1_at ⟨Nat.le_of_ble_eq_true rfl, Nat.le_of_ble_eq_true rfl⟩) ⟨fb_mu, va_recv hKm hPm (ci := 1) (q0 := 0) rfl rfl, fun U hU hW => ⟨rfl, by rw [hU]; exact hPm, va_K.moved hW.alike hKm⟩⟩ rfl rfl hl.1 rfl (lv_room (Nat.le_of_ble_eq_true rfl)) dL_law_334 ⟨Nat.le_of_ble_eq_true rfl, Nat.le_of_ble_eq_true rfl⟩) hS hAm (fun H locs hPm hS hk1 => ?_)
          have hPx := keep_o hPx (fun z q hz => hsep2 q.1 ((vd_same hDx0 rfl : va_D Ax (pbw x a1 a2 a3 a4 a5 k1 k2 k3 k4 k5 f u w g n k mf mu ml)).2 z q hz)) hk1
          clear hk1
          refine lv_icmp_eq (tgt := 379) hx hb dL_law_337 (by decide) (fun c_17 => ?_) (fun c_17 => ?_)
          · refine lv_iinc (v := nI (i + 6)) (lv' := [(3, .int (nI (i + 6))), (0, .ref b), (1, .ref x), (2, .ref y)]) hx hb dL_law_379 hl (k := 3) rfl (by rw [show Int32.ofInt 6 = nI 6 by decide]; exact nI_add i 6) (by decide) rfl (fun ls hl => ?_)
            refine lv_goto (tgt := 18) hx hb dL_law_382 (by decide) ?_
            exact ih (i + 6) f u w g n F U V G M k mf mu ml hRel (by omega) (by omega) _ _ hPx hPm hS ls (lv_sub hl [1, 2, 3, 0] rfl)
          · exact absurd c_17 (by decide)
        · obtain ⟨jr, hj, ej⟩ : ∃ j, j < k ∧ xs (i + 1) = nI j := by
            rcases pk_ix (xs (i + 1)) (n := k) (by omega) with q | q | q
            · exact absurd (Or.inl q) hbad
            · exact absurd (Or.inr q) hbad
            · exact q
          obtain ⟨hR1, z1, z2, z3, z4, hRel2⟩ := p_at hRel hj rfl
          refine lv_aload_n hx hb dL_law_319 rfl (lv_at hl 1 rfl) ?_
          refine lv_aload_n hx hb dL_law_320 rfl (lv_at hl 0 rfl) ?_
          refine lv_iload_n hx hb dL_law_321 rfl (lv_at hl 3 rfl) ?_
          refine lv_iconst (v := nI 1) hx hb dL_law_322 (by decide) ?_
          refine lv_iadd hx hb dL_law_323 ?_
          refine tp_i (nI_add i 1) ?_
          refine ld_s hx hb hX hbl hbA hS (j := (i + 1)) (by omega) hL dL_law_324 ?_
          refine tp_i (ej) ?_
          refine mu_calli (va_runV (As := [.int (nI jr)]) (rest := []) ⟨hx, hb, hml, hown, htl⟩ (c_X0_atOk l dC dI jr Ax hj hk hDx) (cwV 1 htl gL_47 rfl rfl rfl hd_X0_at ⟨Nat.le_of_ble_eq_true rfl, Nat.le_of_ble_eq_true rfl⟩) ⟨fb_mu, va_recv hKx hPx (ci := 0) (q0 := 0) rfl rfl, fun U hU hW => ⟨rfl, by rw [hU]; exact hPx, va_K.moved hW.alike hKx⟩⟩ rfl rfl hl.1 rfl (lv_room (Nat.le_of_ble_eq_true rfl)) dL_law_325 ⟨Nat.le_of_ble_eq_true rfl, Nat.le_of_ble_eq_true rfl⟩) hS hAx (fun H locs hPx hS hk1 => ?_)
          have hPm := keep_o hPm (fun z q hz => hsep q.1 (hDm.2 z q hz)) hk1
          clear hk1
          refine lv_aload_n hx hb dL_law_328 rfl (lv_at hl 2 rfl) ?_
          refine lv_aload_n hx hb dL_law_329 rfl (lv_at hl 0 rfl) ?_
          refine lv_iload_n hx hb dL_law_330 rfl (lv_at hl 3 rfl) ?_
          refine lv_iconst (v := nI 1) hx hb dL_law_331 (by decide) ?_
          refine lv_iadd hx hb dL_law_332 ?_
          refine tp_i (nI_add i 1) ?_
          refine ld_s hx hb hX hbl hbA hS (j := (i + 1)) (by omega) hL dL_law_333 ?_
          refine tp_i (ej) ?_
          refine mu_calli (va_runV (As := [.int (nI jr)]) (rest := [.int (g jr)]) ⟨hx, hb, hml, hown, htl⟩ (c_X1_atOk l dC dI jr Am hj hk hR1 hDm) (cwV 1 htl gL_50 rfl rfl rfl hd_X1_at ⟨Nat.le_of_ble_eq_true rfl, Nat.le_of_ble_eq_true rfl⟩) ⟨fb_mu, va_recv hKm hPm (ci := 1) (q0 := 0) rfl rfl, fun U hU hW => ⟨rfl, by rw [hU]; exact hPm, va_K.moved hW.alike hKm⟩⟩ rfl rfl hl.1 rfl (lv_room (Nat.le_of_ble_eq_true rfl)) dL_law_334 ⟨Nat.le_of_ble_eq_true rfl, Nat.le_of_ble_eq_true rfl⟩) hS hAm (fun H locs hPm hS hk1 => ?_)
          have hPx := keep_o hPx (fun z q hz => hsep2 q.1 ((vd_same hDx0 rfl : va_D Ax (pbw x a1 a2 a3 a4 a5 k1 k2 k3 k4 k5 f u w g n k (f jr) (u jr) (w jr))).2 z q hz)) hk1
          clear hk1
          rw [z1, z2, z3] at hPm
          refine lv_icmp_eq (tgt := 379) hx hb dL_law_337 (by decide) (fun c_18 => ?_) (fun c_18 => ?_)
          · refine lv_iinc (v := nI (i + 6)) (lv' := [(3, .int (nI (i + 6))), (0, .ref b), (1, .ref x), (2, .ref y)]) hx hb dL_law_379 hl (k := 3) rfl (by rw [show Int32.ofInt 6 = nI 6 by decide]; exact nI_add i 6) (by decide) rfl (fun ls hl => ?_)
            refine lv_goto (tgt := 18) hx hb dL_law_382 (by decide) ?_
            exact ih (i + 6) f u w g n F U V G M k (f jr) (u jr) (w jr) hRel2 (by omega) (by omega) _ _ hPx hPm hS ls (lv_sub hl [1, 2, 3, 0] rfl)
          · exact absurd (z4.symm) c_18
      by_cases t_19 : (xs i) &&& 15 = 8
      · refine lv_tableIn (off := 309) (tgt := 342) hx hb dL_law_33 (by rw [t_19]; decide) (by rw [t_19]; decide) (by rw [t_19]; rfl) (by decide) ?_
        refine lv_aload_n hx hb dL_law_342 rfl (lv_at hl 1 rfl) ?_
        refine ru_calli (va_runV (As := []) (rest := []) ⟨hx, hb, hml, hown, htl⟩ (c_X0_size l dC dI _ hPx) (cwV 0 htl gL_51 rfl rfl rfl hd_X0_size ⟨Nat.le_of_ble_eq_true rfl, Nat.le_of_ble_eq_true rfl⟩) ⟨fb_ro, va_recv hKx hPx (ci := 0) (q0 := 0) rfl rfl, fun U hU hW => ⟨rfl, hU, va_K.moved hW.alike hKx⟩⟩ rfl rfl hl.1 rfl (lv_room (Nat.le_of_ble_eq_true rfl)) dL_law_343 ⟨Nat.le_of_ble_eq_true rfl, Nat.le_of_ble_eq_true rfl⟩) ?_
        refine lv_aload_n hx hb dL_law_346 rfl (lv_at hl 2 rfl) ?_
        refine ru_calli (va_runV (As := []) (rest := [.int (nI k)]) ⟨hx, hb, hml, hown, htl⟩ (c_X1_size l dC dI _ hPm) (cwV 0 htl gL_54 rfl rfl rfl hd_X1_size ⟨Nat.le_of_ble_eq_true rfl, Nat.le_of_ble_eq_true rfl⟩) ⟨fb_ro, va_recv hKm hPm (ci := 1) (q0 := 0) rfl rfl, fun U hU hW => ⟨rfl, hU, va_K.moved hW.alike hKm⟩⟩ rfl rfl hl.1 rfl (lv_room (Nat.le_of_ble_eq_true rfl)) dL_law_347 ⟨Nat.le_of_ble_eq_true rfl, Nat.le_of_ble_eq_true rfl⟩) ?_
        refine lv_icmp_eq (tgt := 379) hx hb dL_law_350 (by decide) (fun c_20 => ?_) (fun c_20 => ?_)
        · refine lv_iinc (v := nI (i + 6)) (lv' := [(3, .int (nI (i + 6))), (0, .ref b), (1, .ref x), (2, .ref y)]) hx hb dL_law_379 hl (k := 3) rfl (by rw [show Int32.ofInt 6 = nI 6 by decide]; exact nI_add i 6) (by decide) rfl (fun ls hl => ?_)
          refine lv_goto (tgt := 18) hx hb dL_law_382 (by decide) ?_
          exact ih (i + 6) f u w g n F U V G M k mf mu ml hRel (by omega) (by omega) _ _ hPx hPm hS ls (lv_sub hl [1, 2, 3, 0] rfl)
        · exact absurd (rfl) c_20
      by_cases t_21 : (xs i) &&& 15 = 9
      · refine lv_tableIn (off := 322) (tgt := 355) hx hb dL_law_33 (by rw [t_21]; decide) (by rw [t_21]; decide) (by rw [t_21]; rfl) (by decide) ?_
        refine lv_aload_n hx hb dL_law_355 rfl (lv_at hl 1 rfl) ?_
        refine lv_aload_n hx hb dL_law_356 rfl (lv_at hl 0 rfl) ?_
        refine lv_iload_n hx hb dL_law_357 rfl (lv_at hl 3 rfl) ?_
        refine lv_iconst (v := nI 1) hx hb dL_law_358 (by decide) ?_
        refine lv_iadd hx hb dL_law_359 ?_
        refine tp_i (nI_add i 1) ?_
        refine ld_s hx hb hX hbl hbA hS (j := (i + 1)) (by omega) hL dL_law_360 ?_
        refine ru_calll (va_runV (As := [.int (xs (i + 1))]) (rest := []) ⟨hx, hb, hml, hown, htl⟩ (c_X0_told l dC dI (xs (i + 1)) _ hPx) (cwV 1 htl gL_55 rfl rfl rfl hd_X0_told ⟨Nat.le_of_ble_eq_true rfl, Nat.le_of_ble_eq_true rfl⟩) ⟨fb_ro, va_recv hKx hPx (ci := 0) (q0 := 0) rfl rfl, fun U hU hW => ⟨rfl, hU, va_K.moved hW.alike hKx⟩⟩ rfl rfl hl.1 rfl (lv_room (Nat.le_of_ble_eq_true rfl)) dL_law_361 ⟨Nat.le_of_ble_eq_true rfl, Nat.le_of_ble_eq_true rfl⟩) ?_
        refine lv_aload_n hx hb dL_law_364 rfl (lv_at hl 2 rfl) ?_
        refine lv_aload_n hx hb dL_law_365 rfl (lv_at hl 0 rfl) ?_
        refine lv_iload_n hx hb dL_law_366 rfl (lv_at hl 3 rfl) ?_
        refine lv_iconst (v := nI 1) hx hb dL_law_367 (by decide) ?_
        refine lv_iadd hx hb dL_law_368 ?_
        refine tp_i (nI_add i 1) ?_
        refine ld_s hx hb hX hbl hbA hS (j := (i + 1)) (by omega) hL dL_law_369 ?_
        refine ru_calll (va_runV (As := [.int (xs (i + 1))]) (rest := [.long (if (xs (i + 1)) = 0 then mf.toInt64 else if (xs (i + 1)) = 1 then mu else if (xs (i + 1)) = 2 then ml else 0)]) ⟨hx, hb, hml, hown, htl⟩ (c_X1_told l dC dI (xs (i + 1)) _ hPm) (cwV 1 htl gL_59 rfl rfl rfl hd_X1_told ⟨Nat.le_of_ble_eq_true rfl, Nat.le_of_ble_eq_true rfl⟩) ⟨fb_ro, va_recv hKm hPm (ci := 1) (q0 := 0) rfl rfl, fun U hU hW => ⟨rfl, hU, va_K.moved hW.alike hKm⟩⟩ rfl rfl hl.1 rfl (lv_room (Nat.le_of_ble_eq_true rfl)) dL_law_370 ⟨Nat.le_of_ble_eq_true rfl, Nat.le_of_ble_eq_true rfl⟩) ?_
        refine W.lcmp hx hb dL_law_373 ?_
        refine lv_if_eq (tgt := 379) hx hb dL_law_374 (by decide) (fun c_22 => ?_) (fun c_22 => ?_)
        · rw [lg_cmp_eq] at c_22
          refine lv_iinc (v := nI (i + 6)) (lv' := [(3, .int (nI (i + 6))), (0, .ref b), (1, .ref x), (2, .ref y)]) hx hb dL_law_379 hl (k := 3) rfl (by rw [show Int32.ofInt 6 = nI 6 by decide]; exact nI_add i 6) (by decide) rfl (fun ls hl => ?_)
          refine lv_goto (tgt := 18) hx hb dL_law_382 (by decide) ?_
          exact ih (i + 6) f u w g n F U V G M k mf mu ml hRel (by omega) (by omega) _ _ hPx hPm hS ls (lv_sub hl [1, 2, 3, 0] rfl)
        · rw [lg_cmp_eq] at c_22
          exact absurd (rfl) c_22
      refine lv_tableOut (tgt := 379) hx hb dL_law_33 (by have zt_2 := lv_neT t_2 (a := 0) rfl; have zt_4 := lv_neT t_4 (a := 1) rfl; have zt_6 := lv_neT t_6 (a := 2) rfl; have zt_8 := lv_neT t_8 (a := 3) rfl; have zt_10 := lv_neT t_10 (a := 4) rfl; have zt_12 := lv_neT t_12 (a := 5) rfl; have zt_14 := lv_neT t_14 (a := 6) rfl; have zt_16 := lv_neT t_16 (a := 7) rfl; have zt_19 := lv_neT t_19 (a := 8) rfl; have zt_21 := lv_neT t_21 (a := 9) rfl; omega) (by decide) ?_
      refine lv_iinc (v := nI (i + 6)) (lv' := [(3, .int (nI (i + 6))), (0, .ref b), (1, .ref x), (2, .ref y)]) hx hb dL_law_379 hl (k := 3) rfl (by rw [show Int32.ofInt 6 = nI 6 by decide]; exact nI_add i 6) (by decide) rfl (fun ls hl => ?_)
      refine lv_goto (tgt := 18) hx hb dL_law_382 (by decide) ?_
      exact ih (i + 6) f u w g n F U V G M k mf mu ml hRel (by omega) (by omega) _ _ hPx hPm hS ls (lv_sub hl [1, 2, 3, 0] rfl)
