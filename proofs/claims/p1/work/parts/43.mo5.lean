/-! the reference: verify of nothing, on -/
theorem mo_nn {F F1 : Nat → Value} {k k2 j : Nat} {v v2 w : Value} (h : F1 = va_up (va_up F k v) k2 v2) (hj : F j = w) (hn : j ≠ k) (hn2 : j ≠ k2) : F1 j = w := by rw [h, va_up_ne _ _ hn2, va_up_ne _ _ hn]; exact hj
theorem mo_ns {F F1 : Nat → Value} {k k2 : Nat} {v v2 : Value} (h : F1 = va_up (va_up F k v) k2 v2) (hn : k ≠ k2) : F1 k = v := by rw [h, va_up_ne _ _ hn]; exact va_up_self _ _ _
theorem cc_Mo_inNumber_0 (l : Launch) (D : va_G) (z : Nat) (M : mw_M) (mm : Nat) (F : Nat → Value) (a0 : Nat) (wm : M mm = some (.inr (13, mo_l F))) (hf3 : F 3 = .int (nI 0)) (hf50 : F 50 = .int (nI a0)) (hf51 : F 51 = .int (nI 0)) (ha : a0 < 1000) : mw_C l yy_Mo_inNumber bb_Mo_inNumber 5 (Option.some Jvm.ClassFile.FieldType.int) 2 45 0 0 D z M [.ref mm] (fun v M' => v = some (.int (nI 0)) ∧ M' mm = some (.inr (13, mo_l (va_up F 50 (.int (nI (a0 + 1 + 1)))))) ∧ mw_fr (fun q => q = mm) M M') := by
  refine mw_of (by decide) (Nat.le_of_ble_eq_true rfl) ?_
  intro p e s m below meth c ls E hr hk hnm hM hl
  have hx := E.x
  have hb := E.b
  have E : mw_E p m c bb_Mo_inNumber 5 s _ D z "IdentityIssuerModel" := E
  have hl : lv_has ls 5 [(0, .ref mm)] := hl
  have hS : va_S (mw_A z) s.heap s.heap [] := va_S.rf
  have hF : mw_fr (fun q => q = mm) M M := mw_fr.rf
  refine lv_aload_n hx hb dd_Mo_inNumber_0 rfl (lv_at hl 0 rfl) ?_
  refine lv_iconst (v := nI 2) hx hb dd_Mo_inNumber_1 (by decide) ?_
  refine lv_iconst (v := nI 2) hx hb dd_Mo_inNumber_2 (by decide) ?_
  refine mw_V (As := [.int (nI 2), .int (nI 2)]) (rest := []) E (cc_Mo_in_b l D z (M) mm F a0 2 2 wm hf3 hf50 hf51 (by omega) (by decide)) ky_Mo_in kv_Mo_in tw_Mo_297 hM hS wm rfl rfl rfl hl.1 rfl (Nat.le_of_ble_eq_true rfl) dd_Mo_inNumber_3 (by decide) (by decide) (fun v M1 H locs hp hM hS => ?_)
  obtain ⟨rfl, wm, hF2⟩ := hp
  have hF := hF.trans hF2
  obtain ⟨G1, hG1⟩ : ∃ Gz : Nat → Value, Gz = va_up F 50 (.int (nI (a0 + 1))) := ⟨_, rfl⟩
  rw [← hG1] at wm
  have hf3 := mo_n hG1 hf3 (by decide)
  have hf51 := mo_n hG1 hf51 (by decide)
  have hf50 := mo_s hG1
  refine W.eq (g2 := F0 m 6 ls [.int (-1)]) rfl ?_
  refine lv_pop hx hb dd_Mo_inNumber_6 rfl ?_
  refine lv_aload_n hx hb dd_Mo_inNumber_7 rfl (lv_at hl 0 rfl) ?_
  refine lv_iconst (v := nI 1) hx hb dd_Mo_inNumber_8 (by decide) ?_
  refine lv_iconst (v := nI 4) hx hb dd_Mo_inNumber_9 (by decide) ?_
  refine mw_V (As := [.int (nI 1), .int (nI 4)]) (rest := []) E (cc_Mo_in_b l D z (M1) mm G1 (a0 + 1) 1 4 wm hf3 hf50 hf51 (by omega) (by decide)) ky_Mo_in kv_Mo_in tw_Mo_297 hM hS wm rfl rfl rfl hl.1 rfl (Nat.le_of_ble_eq_true rfl) dd_Mo_inNumber_10 (by decide) (by decide) (fun v M1 H locs hp hM hS => ?_)
  obtain ⟨rfl, wm, hF2⟩ := hp
  have hF := hF.trans hF2
  obtain ⟨G2, hG2⟩ : ∃ Gz : Nat → Value, Gz = va_up G1 50 (.int (nI ((a0 + 1) + 1))) := ⟨_, rfl⟩
  rw [← hG2] at wm
  have hf3 := mo_n hG2 hf3 (by decide)
  have hf51 := mo_n hG2 hf51 (by decide)
  have hf50 := mo_s hG2
  refine W.eq (g2 := F0 m 13 ls [.int (-1)]) rfl ?_
  refine lv_istore_n (lv' := [(1, .int (-1)), (0, .ref mm)]) hx hb dd_Mo_inNumber_13 rfl hl (by decide) rfl (fun ls hl => ?_)
  refine lv_iconst (v := nI 0) hx hb dd_Mo_inNumber_14 (by decide) ?_
  refine lv_istore_n (lv' := [(2, .int (nI 0)), (1, .int (-1)), (0, .ref mm)]) hx hb dd_Mo_inNumber_15 rfl hl (by decide) rfl (fun ls hl => ?_)
  refine lv_aload_n hx hb dd_Mo_inNumber_16 rfl (lv_at hl 2 rfl) ?_
  refine gf_Mo_291 E hM wm ((mo_at (by decide)).trans (congrArg some hf50)) dd_Mo_inNumber_17 ?_
  refine lv_istore_n (lv' := [(3, .int (nI ((a0 + 1) + 1))), (2, .int (nI 0)), (1, .int (-1)), (0, .ref mm)]) hx hb dd_Mo_inNumber_20 rfl hl (by decide) rfl (fun ls hl => ?_)
  refine lv_iconst (v := nI 0) hx hb dd_Mo_inNumber_21 (by decide) ?_
  refine lv_istore (lv' := [(4, .int (nI 0)), (3, .int (nI ((a0 + 1) + 1))), (2, .int (nI 0)), (1, .int (-1)), (0, .ref mm)]) hx hb dd_Mo_inNumber_22 hl (by decide) rfl (fun ls hl => ?_)
  refine lv_iload hx hb dd_Mo_inNumber_24 (lv_at hl 0 rfl) ?_
  refine lv_iload_n hx hb dd_Mo_inNumber_26 rfl (lv_at hl 3 rfl) ?_
  refine lv_icmp_ge (tgt := 68) hx hb dd_Mo_inNumber_27 (by decide) (fun h27 => ?_) (fun h27 => ?_)
  ·
    refine lv_aload_n hx hb dd_Mo_inNumber_68 rfl (lv_at hl 4 rfl) ?_
    refine gf_Mo_288 E hM wm ((mo_at (by decide)).trans (congrArg some hf51)) dd_Mo_inNumber_69 ?_
    refine lv_if_ge (tgt := 108) hx hb dd_Mo_inNumber_72 (by decide) (fun h72 => ?_) (fun h72 => ?_)
    ·
      refine lv_iload_n hx hb dd_Mo_inNumber_108 rfl (lv_at hl 2 rfl) ?_
      refine mr_i E hr hk hM hS (by decide) (by decide) ?_ dd_Mo_inNumber_109
      exact ⟨rfl, by rw [show va_up F 50 (.int (nI (a0 + 1 + 1))) = G2 by rw [hG2, hG1, bx_uu]]; exact wm, hF⟩
    ·
      exact absurd (show (0 : Int32) ≤ nI 0 by decide) h72
  ·
    exact absurd (show (-1 : Int32) ≤ nI 0 by decide) h27
theorem cc_Mo_inId_0 (l : Launch) (D : va_G) (z : Nat) (M : mw_M) (mm : Nat) (F : Nat → Value) (a0 : Nat) (wm : M mm = some (.inr (13, mo_l F))) (hf3 : F 3 = .int (nI 0)) (hf50 : F 50 = .int (nI a0)) (hf51 : F 51 = .int (nI 0)) (ha : a0 < 1000) : mw_C l yy_Mo_inId bb_Mo_inId 3 (Option.none : Option Jvm.ClassFile.FieldType) 2 45 0 0 D z M [.ref mm] (fun v M' => v = none ∧ M' mm = some (.inr (13, mo_l (va_up F 50 (.int (nI (a0 + 1)))))) ∧ mw_fr (fun q => q = mm) M M') := by
  refine mw_of (by decide) (Nat.le_of_ble_eq_true rfl) ?_
  intro p e s m below meth c ls E hr hk hnm hM hl
  have hx := E.x
  have hb := E.b
  have E : mw_E p m c bb_Mo_inId 3 s _ D z "IdentityIssuerModel" := E
  have hl : lv_has ls 3 [(0, .ref mm)] := hl
  have hS : va_S (mw_A z) s.heap s.heap [] := va_S.rf
  have hF : mw_fr (fun q => q = mm) M M := mw_fr.rf
  refine lv_aload_n hx hb dd_Mo_inId_0 rfl (lv_at hl 0 rfl) ?_
  refine lv_sipush (v := nI 134) hx hb dd_Mo_inId_1 (by decide) ?_
  refine lv_sipush (v := nI 134) hx hb dd_Mo_inId_4 (by decide) ?_
  refine mw_V (As := [.int (nI 134), .int (nI 134)]) (rest := []) E (cc_Mo_in_b l D z (M) mm F a0 134 134 wm hf3 hf50 hf51 (by omega) (by decide)) ky_Mo_in kv_Mo_in tw_Mo_297 hM hS wm rfl rfl rfl hl.1 rfl (Nat.le_of_ble_eq_true rfl) dd_Mo_inId_7 (by decide) (by decide) (fun v M1 H locs hp hM hS => ?_)
  obtain ⟨rfl, wm, hF2⟩ := hp
  have hF := hF.trans hF2
  obtain ⟨G1, hG1⟩ : ∃ Gz : Nat → Value, Gz = va_up F 50 (.int (nI (a0 + 1))) := ⟨_, rfl⟩
  rw [← hG1] at wm
  have hf3 := mo_n hG1 hf3 (by decide)
  have hf51 := mo_n hG1 hf51 (by decide)
  have hf50 := mo_s hG1
  refine W.eq (g2 := F0 m 10 ls [.int (-1)]) rfl ?_
  refine lv_pop hx hb dd_Mo_inId_10 rfl ?_
  refine lv_aload_n hx hb dd_Mo_inId_11 rfl (lv_at hl 0 rfl) ?_
  refine lv_iconst (v := nI 0) hx hb dd_Mo_inId_12 (by decide) ?_
  refine lv_sipush (v := nI 255) hx hb dd_Mo_inId_13 (by decide) ?_
  refine mw_V (As := [.int (nI 0), .int (nI 255)]) (rest := []) E (cc_Mo_in_b l D z (M1) mm G1 (a0 + 1) 0 255 wm hf3 hf50 hf51 (by omega) (by decide)) ky_Mo_in kv_Mo_in tw_Mo_297 hM hS wm rfl rfl rfl hl.1 rfl (Nat.le_of_ble_eq_true rfl) dd_Mo_inId_16 (by decide) (by decide) (fun v M1 H locs hp hM hS => ?_)
  obtain ⟨rfl, wm, hF2⟩ := hp
  have hF := hF.trans hF2
  obtain ⟨G2, hG2⟩ : ∃ Gz : Nat → Value, Gz = va_up G1 50 (.int (nI ((a0 + 1) + 1))) := ⟨_, rfl⟩
  rw [← hG2] at wm
  have hf3 := mo_n hG2 hf3 (by decide)
  have hf51 := mo_n hG2 hf51 (by decide)
  have hf50 := mo_s hG2
  refine W.eq (g2 := F0 m 19 ls [.int (-1)]) rfl ?_
  refine lv_istore_n (lv' := [(1, .int (-1)), (0, .ref mm)]) hx hb dd_Mo_inId_19 rfl hl (by decide) rfl (fun ls hl => ?_)
  refine lv_aload_n hx hb dd_Mo_inId_20 rfl (lv_at hl 1 rfl) ?_
  refine gf_Mo_288 E hM wm ((mo_at (by decide)).trans (congrArg some hf51)) dd_Mo_inId_21 ?_
  refine lv_if_ge (tgt := 50) hx hb dd_Mo_inId_24 (by decide) (fun h24 => ?_) (fun h24 => ?_)
  ·
    refine lv_aload_n hx hb dd_Mo_inId_50 rfl (lv_at hl 1 rfl) ?_
    refine gf_Mo_288 E hM wm ((mo_at (by decide)).trans (congrArg some hf51)) dd_Mo_inId_51 ?_
    refine lv_if_ge (tgt := 69) hx hb dd_Mo_inId_54 (by decide) (fun h54 => ?_) (fun h54 => ?_)
    ·
      refine lv_iconst (v := -1) hx hb dd_Mo_inId_69 (by decide) ?_
      refine lv_istore_n (lv' := [(2, .int (-1)), (1, .int (-1)), (0, .ref mm)]) hx hb dd_Mo_inId_70 rfl hl (by decide) rfl (fun ls hl => ?_)
      refine lv_iload_n hx hb dd_Mo_inId_71 rfl (lv_at hl 0 rfl) ?_
      refine lv_if_lt (tgt := 85) hx hb dd_Mo_inId_72 (by decide) (fun h72 => ?_) (fun h72 => ?_)
      ·
        refine lv_aload_n hx hb dd_Mo_inId_85 rfl (lv_at hl 2 rfl) ?_
        refine lv_dup hx hb dd_Mo_inId_86 rfl ?_
        refine gf_Mo_291 E hM wm ((mo_at (by decide)).trans (congrArg some hf50)) dd_Mo_inId_87 ?_
        refine lv_iload_n hx hb dd_Mo_inId_90 rfl (lv_at hl 1 rfl) ?_
        refine lv_iadd hx hb dd_Mo_inId_91 ?_
        refine mw_topi (y := nI (a0 + 1)) (pk_m1 _) ?_
        refine pf_Mo_291 E hM hS wm (by rw [mo_len]; decide) dd_Mo_inId_92 (fun H locs hM hS => ?_)
        rw [mo_set (by decide)] at hM
        obtain ⟨F1, hF1⟩ : ∃ F9 : Nat → Value, F9 = va_up G2 50 (.int (nI (a0 + 1))) := ⟨_, rfl⟩
        rw [← hF1] at hM
        have hf3 := mo_n hF1 hf3 (by decide)
        have hf51 := mo_n hF1 hf51 (by decide)
        have hf50 := mo_s hF1
        have hM : mw_at D mg_cl z (va_up M1 mm (some (.inr (13, mo_l F1)))) H := hM
        obtain ⟨M1, hM1⟩ : ∃ M9 : mw_M, M9 = va_up M1 mm (some (.inr (13, mo_l F1))) := ⟨_, rfl⟩
        rw [← hM1] at hM
        have wm := mw_us hM1
        have hF := mw_fu hM1 hF (rfl)
        refine mr_v E hr hk hM hS (by decide) (by decide) ?_ dd_Mo_inId_95
        exact ⟨rfl, by rw [show va_up F 50 (.int (nI (a0 + 1))) = F1 by rw [hF1, hG2, hG1, bx_uu, bx_uu]]; exact wm, hF⟩
      ·
        exact absurd (show (-1 : Int32) < 0 by decide) h72
    ·
      exact absurd (show (0 : Int32) ≤ nI 0 by decide) h54
  ·
    exact absurd (show (0 : Int32) ≤ nI 0 by decide) h24
set_option maxHeartbeats 4000000 in
set_option maxRecDepth 100000 in
theorem cc_Mo_verified_0 (l : Launch) (D : va_G) (z : Nat) (M : mw_M) (mm : Nat) (F : Nat → Value) (at0 wr0 : Int32) (wm : M mm = some (.inr (13, mo_l F))) (hf3 : F 3 = .int (nI 0)) (hf50 : F 50 = .int (at0)) (hf51 : F 51 = .int (wr0)) : mw_C l yy_Mo_verified bb_Mo_verified 12 (Option.some Jvm.ClassFile.FieldType.int) 3 69 0 0 D z M [.ref mm] (fun v M' => v = some (.int (-1)) ∧ (∃ G, M' mm = some (.inr (13, mo_l G)) ∧ G 3 = .int (nI 0)) ∧ mw_fr (fun q => q = mm) M M') := by
  refine mw_of (by decide) (Nat.le_of_ble_eq_true rfl) ?_
  intro p e s m below meth c ls E hr hk hnm hM hl
  have hx := E.x
  have hb := E.b
  have E : mw_E p m c bb_Mo_verified 12 s _ D z "IdentityIssuerModel" := E
  have hl : lv_has ls 12 [(0, .ref mm)] := hl
  have hS : va_S (mw_A z) s.heap s.heap [] := va_S.rf
  have hF : mw_fr (fun q => q = mm) M M := mw_fr.rf
  refine lv_aload_n hx hb dd_Mo_verified_0 rfl (lv_at hl 0 rfl) ?_
  refine lv_iconst (v := nI 0) hx hb dd_Mo_verified_1 (by decide) ?_
  refine pf_Mo_291 E hM hS wm (by rw [mo_len]; decide) dd_Mo_verified_2 (fun H locs hM hS => ?_)
  rw [mo_set (by decide)] at hM
  obtain ⟨F1, hF1⟩ : ∃ F9 : Nat → Value, F9 = va_up F 50 (.int (nI 0)) := ⟨_, rfl⟩
  rw [← hF1] at hM
  have hf3 := mo_n hF1 hf3 (by decide)
  have hf51 := mo_n hF1 hf51 (by decide)
  have hf50 := mo_s hF1
  have hM : mw_at D mg_cl z (va_up M mm (some (.inr (13, mo_l F1)))) H := hM
  obtain ⟨M1, hM1⟩ : ∃ M9 : mw_M, M9 = va_up M mm (some (.inr (13, mo_l F1))) := ⟨_, rfl⟩
  rw [← hM1] at hM
  have wm := mw_us hM1
  have hF := mw_fu hM1 hF (rfl)
  refine lv_aload_n hx hb dd_Mo_verified_5 rfl (lv_at hl 0 rfl) ?_
  refine lv_iconst (v := -1) hx hb dd_Mo_verified_6 (by decide) ?_
  refine pf_Mo_288 E hM hS wm (by rw [mo_len]; decide) dd_Mo_verified_7 (fun H locs hM hS => ?_)
  rw [mo_set (by decide)] at hM
  obtain ⟨F2, hF2⟩ : ∃ F9 : Nat → Value, F9 = va_up F1 51 (.int (-1)) := ⟨_, rfl⟩
  rw [← hF2] at hM
  have hf3 := mo_n hF2 hf3 (by decide)
  have hf50 := mo_n hF2 hf50 (by decide)
  have hf51 := mo_s hF2
  have hM : mw_at D mg_cl z (va_up M1 mm (some (.inr (13, mo_l F2)))) H := hM
  obtain ⟨M1, hM1⟩ : ∃ M9 : mw_M, M9 = va_up M1 mm (some (.inr (13, mo_l F2))) := ⟨_, rfl⟩
  rw [← hM1] at hM
  have wm := mw_us hM1
  have hF := mw_fu hM1 hF (rfl)
  refine lv_aload_n hx hb dd_Mo_verified_10 rfl (lv_at hl 0 rfl) ?_
  refine lv_bipush (v := nI 48) hx hb dd_Mo_verified_11 (by decide) ?_
  refine lv_bipush (v := nI 48) hx hb dd_Mo_verified_13 (by decide) ?_
  refine mw_V (As := [.int (nI 48), .int (nI 48)]) (rest := []) E (cc_Mo_in_a l D z (M1) mm F2 0 48 48 wm hf3 hf50 hf51 (by omega) (by decide)) ky_Mo_in kv_Mo_in tw_Mo_297 hM hS wm rfl rfl rfl hl.1 rfl (Nat.le_of_ble_eq_true rfl) dd_Mo_verified_15 (by decide) (by decide) (fun v M1 H locs hp hM hS => ?_)
  obtain ⟨rfl, wm, hF2⟩ := hp
  have hF := hF.trans hF2
  obtain ⟨G1, hG1⟩ : ∃ Gz : Nat → Value, Gz = va_up (va_up F2 51 (.int (nI 0))) 50 (.int (nI 1)) := ⟨_, rfl⟩
  rw [← hG1] at wm
  have hf3 := mo_nn hG1 hf3 (by decide) (by decide)
  have hf51 := mo_ns hG1 (by decide)
  have hf50 := mo_s hG1
  refine W.eq (g2 := F0 m 18 ls [.int (-1)]) rfl ?_
  refine lv_pop hx hb dd_Mo_verified_18 rfl ?_
  refine lv_aload_n hx hb dd_Mo_verified_19 rfl (lv_at hl 0 rfl) ?_
  refine lv_iconst (v := nI 0) hx hb dd_Mo_verified_20 (by decide) ?_
  refine lv_sipush (v := nI 255) hx hb dd_Mo_verified_21 (by decide) ?_
  refine mw_V (As := [.int (nI 0), .int (nI 255)]) (rest := []) E (cc_Mo_in_b l D z (M1) mm G1 1 0 255 wm hf3 hf50 hf51 (by omega) (by decide)) ky_Mo_in kv_Mo_in tw_Mo_297 hM hS wm rfl rfl rfl hl.1 rfl (Nat.le_of_ble_eq_true rfl) dd_Mo_verified_24 (by decide) (by decide) (fun v M1 H locs hp hM hS => ?_)
  obtain ⟨rfl, wm, hF2⟩ := hp
  have hF := hF.trans hF2
  obtain ⟨G2, hG2⟩ : ∃ Gz : Nat → Value, Gz = va_up G1 50 (.int (nI 2)) := ⟨_, rfl⟩
  rw [← hG2] at wm
  have hf3 := mo_n hG2 hf3 (by decide)
  have hf51 := mo_n hG2 hf51 (by decide)
  have hf50 := mo_s hG2
  refine W.eq (g2 := F0 m 27 ls [.int (-1)]) rfl ?_
  refine lv_istore_n (lv' := [(1, .int (-1)), (0, .ref mm)]) hx hb dd_Mo_verified_27 rfl hl (by decide) rfl (fun ls hl => ?_)
  refine lv_aload_n hx hb dd_Mo_verified_28 rfl (lv_at hl 1 rfl) ?_
  refine lv_bipush (v := nI 48) hx hb dd_Mo_verified_29 (by decide) ?_
  refine lv_bipush (v := nI 48) hx hb dd_Mo_verified_31 (by decide) ?_
  refine mw_V (As := [.int (nI 48), .int (nI 48)]) (rest := []) E (cc_Mo_in_b l D z (M1) mm G2 2 48 48 wm hf3 hf50 hf51 (by omega) (by decide)) ky_Mo_in kv_Mo_in tw_Mo_297 hM hS wm rfl rfl rfl hl.1 rfl (Nat.le_of_ble_eq_true rfl) dd_Mo_verified_33 (by decide) (by decide) (fun v M1 H locs hp hM hS => ?_)
  obtain ⟨rfl, wm, hF2⟩ := hp
  have hF := hF.trans hF2
  obtain ⟨G3, hG3⟩ : ∃ Gz : Nat → Value, Gz = va_up G2 50 (.int (nI 3)) := ⟨_, rfl⟩
  rw [← hG3] at wm
  have hf3 := mo_n hG3 hf3 (by decide)
  have hf51 := mo_n hG3 hf51 (by decide)
  have hf50 := mo_s hG3
  refine W.eq (g2 := F0 m 36 ls [.int (-1)]) rfl ?_
  refine lv_pop hx hb dd_Mo_verified_36 rfl ?_
  refine lv_aload_n hx hb dd_Mo_verified_37 rfl (lv_at hl 1 rfl) ?_
  refine lv_iconst (v := nI 0) hx hb dd_Mo_verified_38 (by decide) ?_
  refine lv_sipush (v := nI 255) hx hb dd_Mo_verified_39 (by decide) ?_
  refine mw_V (As := [.int (nI 0), .int (nI 255)]) (rest := []) E (cc_Mo_in_b l D z (M1) mm G3 3 0 255 wm hf3 hf50 hf51 (by omega) (by decide)) ky_Mo_in kv_Mo_in tw_Mo_297 hM hS wm rfl rfl rfl hl.1 rfl (Nat.le_of_ble_eq_true rfl) dd_Mo_verified_42 (by decide) (by decide) (fun v M1 H locs hp hM hS => ?_)
  obtain ⟨rfl, wm, hF2⟩ := hp
  have hF := hF.trans hF2
  obtain ⟨G4, hG4⟩ : ∃ Gz : Nat → Value, Gz = va_up G3 50 (.int (nI 4)) := ⟨_, rfl⟩
  rw [← hG4] at wm
  have hf3 := mo_n hG4 hf3 (by decide)
  have hf51 := mo_n hG4 hf51 (by decide)
  have hf50 := mo_s hG4
  refine W.eq (g2 := F0 m 45 ls [.int (-1)]) rfl ?_
  refine lv_istore_n (lv' := [(2, .int (-1)), (1, .int (-1)), (0, .ref mm)]) hx hb dd_Mo_verified_45 rfl hl (by decide) rfl (fun ls hl => ?_)
  refine lv_aload_n hx hb dd_Mo_verified_46 rfl (lv_at hl 2 rfl) ?_
  refine mw_V (As := []) (rest := []) E (cc_Mo_inNumber_0 l D z (M1) mm G4 4 wm hf3 hf50 hf51 (by decide)) ky_Mo_inNumber kv_Mo_inNumber tw_Mo_300 hM hS wm rfl rfl rfl hl.1 rfl (Nat.le_of_ble_eq_true rfl) dd_Mo_verified_47 (by decide) (by decide) (fun v M1 H locs hp hM hS => ?_)
  obtain ⟨rfl, wm, hF2⟩ := hp
  have hF := hF.trans hF2
  obtain ⟨G5, hG5⟩ : ∃ Gz : Nat → Value, Gz = va_up G4 50 (.int (nI 6)) := ⟨_, rfl⟩
  rw [← hG5] at wm
  have hf3 := mo_n hG5 hf3 (by decide)
  have hf51 := mo_n hG5 hf51 (by decide)
  have hf50 := mo_s hG5
  refine W.eq (g2 := F0 m 50 ls [.int (nI 0)]) rfl ?_
  refine lv_istore_n (lv' := [(3, .int (nI 0)), (2, .int (-1)), (1, .int (-1)), (0, .ref mm)]) hx hb dd_Mo_verified_50 rfl hl (by decide) rfl (fun ls hl => ?_)
  refine lv_aload_n hx hb dd_Mo_verified_51 rfl (lv_at hl 3 rfl) ?_
  refine mw_V (As := []) (rest := []) E (cc_Mo_inNumber_0 l D z (M1) mm G5 6 wm hf3 hf50 hf51 (by decide)) ky_Mo_inNumber kv_Mo_inNumber tw_Mo_300 hM hS wm rfl rfl rfl hl.1 rfl (Nat.le_of_ble_eq_true rfl) dd_Mo_verified_52 (by decide) (by decide) (fun v M1 H locs hp hM hS => ?_)
  obtain ⟨rfl, wm, hF2⟩ := hp
  have hF := hF.trans hF2
  obtain ⟨G6, hG6⟩ : ∃ Gz : Nat → Value, Gz = va_up G5 50 (.int (nI 8)) := ⟨_, rfl⟩
  rw [← hG6] at wm
  have hf3 := mo_n hG6 hf3 (by decide)
  have hf51 := mo_n hG6 hf51 (by decide)
  have hf50 := mo_s hG6
  refine W.eq (g2 := F0 m 55 ls [.int (nI 0)]) rfl ?_
  refine lv_istore (lv' := [(4, .int (nI 0)), (3, .int (nI 0)), (2, .int (-1)), (1, .int (-1)), (0, .ref mm)]) hx hb dd_Mo_verified_55 hl (by decide) rfl (fun ls hl => ?_)
  refine lv_aload_n hx hb dd_Mo_verified_57 rfl (lv_at hl 4 rfl) ?_
  refine mw_V (As := []) (rest := []) E (cc_Mo_inNumber_0 l D z (M1) mm G6 8 wm hf3 hf50 hf51 (by decide)) ky_Mo_inNumber kv_Mo_inNumber tw_Mo_300 hM hS wm rfl rfl rfl hl.1 rfl (Nat.le_of_ble_eq_true rfl) dd_Mo_verified_58 (by decide) (by decide) (fun v M1 H locs hp hM hS => ?_)
  obtain ⟨rfl, wm, hF2⟩ := hp
  have hF := hF.trans hF2
  obtain ⟨G7, hG7⟩ : ∃ Gz : Nat → Value, Gz = va_up G6 50 (.int (nI 10)) := ⟨_, rfl⟩
  rw [← hG7] at wm
  have hf3 := mo_n hG7 hf3 (by decide)
  have hf51 := mo_n hG7 hf51 (by decide)
  have hf50 := mo_s hG7
  refine W.eq (g2 := F0 m 61 ls [.int (nI 0)]) rfl ?_
  refine lv_istore (lv' := [(5, .int (nI 0)), (4, .int (nI 0)), (3, .int (nI 0)), (2, .int (-1)), (1, .int (-1)), (0, .ref mm)]) hx hb dd_Mo_verified_61 hl (by decide) rfl (fun ls hl => ?_)
  refine lv_aload_n hx hb dd_Mo_verified_63 rfl (lv_at hl 5 rfl) ?_
  refine mw_V (As := []) (rest := []) E (cc_Mo_inNumber_0 l D z (M1) mm G7 10 wm hf3 hf50 hf51 (by decide)) ky_Mo_inNumber kv_Mo_inNumber tw_Mo_300 hM hS wm rfl rfl rfl hl.1 rfl (Nat.le_of_ble_eq_true rfl) dd_Mo_verified_64 (by decide) (by decide) (fun v M1 H locs hp hM hS => ?_)
  obtain ⟨rfl, wm, hF2⟩ := hp
  have hF := hF.trans hF2
  obtain ⟨G8, hG8⟩ : ∃ Gz : Nat → Value, Gz = va_up G7 50 (.int (nI 12)) := ⟨_, rfl⟩
  rw [← hG8] at wm
  have hf3 := mo_n hG8 hf3 (by decide)
  have hf51 := mo_n hG8 hf51 (by decide)
  have hf50 := mo_s hG8
  refine W.eq (g2 := F0 m 67 ls [.int (nI 0)]) rfl ?_
  refine lv_istore (lv' := [(6, .int (nI 0)), (5, .int (nI 0)), (4, .int (nI 0)), (3, .int (nI 0)), (2, .int (-1)), (1, .int (-1)), (0, .ref mm)]) hx hb dd_Mo_verified_67 hl (by decide) rfl (fun ls hl => ?_)
  refine lv_aload_n hx hb dd_Mo_verified_69 rfl (lv_at hl 6 rfl) ?_
  refine mw_V (As := []) (rest := []) E (cc_Mo_inId_0 l D z (M1) mm G8 12 wm hf3 hf50 hf51 (by decide)) ky_Mo_inId kv_Mo_inId tw_Mo_304 hM hS wm rfl rfl rfl hl.1 rfl (Nat.le_of_ble_eq_true rfl) dd_Mo_verified_70 (by decide) (by decide) (fun v M1 H locs hp hM hS => ?_)
  obtain ⟨rfl, wm, hF2⟩ := hp
  have hF := hF.trans hF2
  obtain ⟨G9, hG9⟩ : ∃ Gz : Nat → Value, Gz = va_up G8 50 (.int (nI 13)) := ⟨_, rfl⟩
  rw [← hG9] at wm
  have hf3 := mo_n hG9 hf3 (by decide)
  have hf51 := mo_n hG9 hf51 (by decide)
  have hf50 := mo_s hG9
  refine W.eq (g2 := F0 m 73 ls []) rfl ?_
  refine lv_aload_n hx hb dd_Mo_verified_73 rfl (lv_at hl 6 rfl) ?_
  refine lv_iconst (v := nI 3) hx hb dd_Mo_verified_74 (by decide) ?_
  refine lv_iconst (v := nI 3) hx hb dd_Mo_verified_75 (by decide) ?_
  refine mw_V (As := [.int (nI 3), .int (nI 3)]) (rest := []) E (cc_Mo_in_b l D z (M1) mm G9 13 3 3 wm hf3 hf50 hf51 (by omega) (by decide)) ky_Mo_in kv_Mo_in tw_Mo_297 hM hS wm rfl rfl rfl hl.1 rfl (Nat.le_of_ble_eq_true rfl) dd_Mo_verified_76 (by decide) (by decide) (fun v M1 H locs hp hM hS => ?_)
  obtain ⟨rfl, wm, hF2⟩ := hp
  have hF := hF.trans hF2
  obtain ⟨G10, hG10⟩ : ∃ Gz : Nat → Value, Gz = va_up G9 50 (.int (nI 14)) := ⟨_, rfl⟩
  rw [← hG10] at wm
  have hf3 := mo_n hG10 hf3 (by decide)
  have hf51 := mo_n hG10 hf51 (by decide)
  have hf50 := mo_s hG10
  refine W.eq (g2 := F0 m 79 ls [.int (-1)]) rfl ?_
  refine lv_pop hx hb dd_Mo_verified_79 rfl ?_
  refine lv_aload_n hx hb dd_Mo_verified_80 rfl (lv_at hl 6 rfl) ?_
  refine lv_iconst (v := nI 2) hx hb dd_Mo_verified_81 (by decide) ?_
  refine lv_iconst (v := nI 2) hx hb dd_Mo_verified_82 (by decide) ?_
  refine mw_V (As := [.int (nI 2), .int (nI 2)]) (rest := []) E (cc_Mo_in_b l D z (M1) mm G10 14 2 2 wm hf3 hf50 hf51 (by omega) (by decide)) ky_Mo_in kv_Mo_in tw_Mo_297 hM hS wm rfl rfl rfl hl.1 rfl (Nat.le_of_ble_eq_true rfl) dd_Mo_verified_83 (by decide) (by decide) (fun v M1 H locs hp hM hS => ?_)
  obtain ⟨rfl, wm, hF2⟩ := hp
  have hF := hF.trans hF2
  obtain ⟨G11, hG11⟩ : ∃ Gz : Nat → Value, Gz = va_up G10 50 (.int (nI 15)) := ⟨_, rfl⟩
  rw [← hG11] at wm
  have hf3 := mo_n hG11 hf3 (by decide)
  have hf51 := mo_n hG11 hf51 (by decide)
  have hf50 := mo_s hG11
  refine W.eq (g2 := F0 m 86 ls [.int (-1)]) rfl ?_
  refine lv_pop hx hb dd_Mo_verified_86 rfl ?_
  refine lv_aload_n hx hb dd_Mo_verified_87 rfl (lv_at hl 6 rfl) ?_
  refine lv_bipush (v := nI 7) hx hb dd_Mo_verified_88 (by decide) ?_
  refine lv_bipush (v := nI 7) hx hb dd_Mo_verified_90 (by decide) ?_
  refine mw_V (As := [.int (nI 7), .int (nI 7)]) (rest := []) E (cc_Mo_in_b l D z (M1) mm G11 15 7 7 wm hf3 hf50 hf51 (by omega) (by decide)) ky_Mo_in kv_Mo_in tw_Mo_297 hM hS wm rfl rfl rfl hl.1 rfl (Nat.le_of_ble_eq_true rfl) dd_Mo_verified_92 (by decide) (by decide) (fun v M1 H locs hp hM hS => ?_)
  obtain ⟨rfl, wm, hF2⟩ := hp
  have hF := hF.trans hF2
  obtain ⟨G12, hG12⟩ : ∃ Gz : Nat → Value, Gz = va_up G11 50 (.int (nI 16)) := ⟨_, rfl⟩
  rw [← hG12] at wm
  have hf3 := mo_n hG12 hf3 (by decide)
  have hf51 := mo_n hG12 hf51 (by decide)
  have hf50 := mo_s hG12
  refine W.eq (g2 := F0 m 95 ls [.int (-1)]) rfl ?_
  refine lv_pop hx hb dd_Mo_verified_95 rfl ?_
  refine lv_aload_n hx hb dd_Mo_verified_96 rfl (lv_at hl 6 rfl) ?_
  refine lv_sipush (v := nI 128) hx hb dd_Mo_verified_97 (by decide) ?_
  refine lv_sipush (v := nI 128) hx hb dd_Mo_verified_100 (by decide) ?_
  refine mw_V (As := [.int (nI 128), .int (nI 128)]) (rest := []) E (cc_Mo_in_b l D z (M1) mm G12 16 128 128 wm hf3 hf50 hf51 (by omega) (by decide)) ky_Mo_in kv_Mo_in tw_Mo_297 hM hS wm rfl rfl rfl hl.1 rfl (Nat.le_of_ble_eq_true rfl) dd_Mo_verified_103 (by decide) (by decide) (fun v M1 H locs hp hM hS => ?_)
  obtain ⟨rfl, wm, hF2⟩ := hp
  have hF := hF.trans hF2
  obtain ⟨G13, hG13⟩ : ∃ Gz : Nat → Value, Gz = va_up G12 50 (.int (nI 17)) := ⟨_, rfl⟩
  rw [← hG13] at wm
  have hf3 := mo_n hG13 hf3 (by decide)
  have hf51 := mo_n hG13 hf51 (by decide)
  have hf50 := mo_s hG13
  refine W.eq (g2 := F0 m 106 ls [.int (-1)]) rfl ?_
  refine lv_pop hx hb dd_Mo_verified_106 rfl ?_
  refine lv_aload_n hx hb dd_Mo_verified_107 rfl (lv_at hl 6 rfl) ?_
  refine gf_Mo_291 E hM wm ((mo_at (by decide)).trans (congrArg some hf50)) dd_Mo_verified_108 ?_
  refine lv_istore (lv' := [(7, .int (nI 17)), (6, .int (nI 0)), (5, .int (nI 0)), (4, .int (nI 0)), (3, .int (nI 0)), (2, .int (-1)), (1, .int (-1)), (0, .ref mm)]) hx hb dd_Mo_verified_111 hl (by decide) rfl (fun ls hl => ?_)
  refine lv_aload_n hx hb dd_Mo_verified_113 rfl (lv_at hl 7 rfl) ?_
  refine mw_V (As := []) (rest := []) E (cc_Mo_inNumber_0 l D z (M1) mm G13 17 wm hf3 hf50 hf51 (by decide)) ky_Mo_inNumber kv_Mo_inNumber tw_Mo_300 hM hS wm rfl rfl rfl hl.1 rfl (Nat.le_of_ble_eq_true rfl) dd_Mo_verified_114 (by decide) (by decide) (fun v M1 H locs hp hM hS => ?_)
  obtain ⟨rfl, wm, hF2⟩ := hp
  have hF := hF.trans hF2
  obtain ⟨G14, hG14⟩ : ∃ Gz : Nat → Value, Gz = va_up G13 50 (.int (nI 19)) := ⟨_, rfl⟩
  rw [← hG14] at wm
  have hf3 := mo_n hG14 hf3 (by decide)
  have hf51 := mo_n hG14 hf51 (by decide)
  have hf50 := mo_s hG14
  refine W.eq (g2 := F0 m 117 ls [.int (nI 0)]) rfl ?_
  refine lv_istore (lv' := [(8, .int (nI 0)), (7, .int (nI 17)), (6, .int (nI 0)), (5, .int (nI 0)), (4, .int (nI 0)), (3, .int (nI 0)), (2, .int (-1)), (1, .int (-1)), (0, .ref mm)]) hx hb dd_Mo_verified_117 hl (by decide) rfl (fun ls hl => ?_)
  refine lv_iload_n hx hb dd_Mo_verified_119 rfl (lv_at hl 6 rfl) ?_
  refine lv_iload hx hb dd_Mo_verified_120 (lv_at hl 1 rfl) ?_
  refine lv_iconst (v := nI 4) hx hb dd_Mo_verified_122 (by decide) ?_
  refine lv_isub hx hb dd_Mo_verified_123 ?_
  refine lv_icmp_eq (tgt := 132) hx hb dd_Mo_verified_124 (by decide) (fun h124 => ?_) (fun h124 => ?_)
  ·
    exact absurd h124 (by decide)
  ·
    refine lv_aload_n hx hb dd_Mo_verified_127 rfl (lv_at hl 8 rfl) ?_
    refine lv_iconst (v := nI 3) hx hb dd_Mo_verified_128 (by decide) ?_
    refine mw_V (As := [.int (nI 3)]) (rest := []) E (cc_Mo_error_b l D z (M1) mm G14 (nI 3) wm hf3 hf51) ky_Mo_error kv_Mo_error tw_Mo_294 hM hS wm rfl rfl rfl hl.1 rfl (Nat.le_of_ble_eq_true rfl) dd_Mo_verified_129 (by decide) (by decide) (fun v M1 H locs hp hM hS => ?_)
    obtain ⟨rfl, hq⟩ := hp
    have hq := hq.symm
    subst hq
    refine W.eq (g2 := F0 m 132 ls []) rfl ?_
    refine lv_aload_n hx hb dd_Mo_verified_132 rfl (lv_at hl 8 rfl) ?_
    refine gf_Mo_291 E hM wm ((mo_at (by decide)).trans (congrArg some hf50)) dd_Mo_verified_133 ?_
    refine lv_aload_n hx hb dd_Mo_verified_136 rfl (lv_at hl 8 rfl) ?_
    refine gf_Mo_122 E hM wm ((mo_at (by decide)).trans (congrArg some hf3)) dd_Mo_verified_137 ?_
    refine lv_icmp_ge (tgt := 151) hx hb dd_Mo_verified_140 (by decide) (fun h140 => ?_) (fun h140 => ?_)
    ·
      rw [nI_leI (by omega) (by omega)] at h140
      refine lv_iload_n hx hb dd_Mo_verified_151 rfl (lv_at hl 7 rfl) ?_
      refine lv_aload_n hx hb dd_Mo_verified_152 rfl (lv_at hl 8 rfl) ?_
      refine gf_Mo_122 E hM wm ((mo_at (by decide)).trans (congrArg some hf3)) dd_Mo_verified_153 ?_
      refine lv_iconst (v := nI 2) hx hb dd_Mo_verified_156 (by decide) ?_
      refine lv_isub hx hb dd_Mo_verified_157 ?_
      refine lv_icmp_eq (tgt := 166) hx hb dd_Mo_verified_158 (by decide) (fun h158 => ?_) (fun h158 => ?_)
      ·
        exact absurd h158 (by decide)
      ·
        refine lv_aload_n hx hb dd_Mo_verified_161 rfl (lv_at hl 8 rfl) ?_
        refine lv_iconst (v := nI 1) hx hb dd_Mo_verified_162 (by decide) ?_
        refine mw_V (As := [.int (nI 1)]) (rest := []) E (cc_Mo_error_b l D z (M1) mm G14 (nI 1) wm hf3 hf51) ky_Mo_error kv_Mo_error tw_Mo_294 hM hS wm rfl rfl rfl hl.1 rfl (Nat.le_of_ble_eq_true rfl) dd_Mo_verified_163 (by decide) (by decide) (fun v M1 H locs hp hM hS => ?_)
        obtain ⟨rfl, hq⟩ := hp
        have hq := hq.symm
        subst hq
        refine W.eq (g2 := F0 m 166 ls []) rfl ?_
        refine lv_aload_n hx hb dd_Mo_verified_166 rfl (lv_at hl 8 rfl) ?_
        refine gf_Mo_288 E hM wm ((mo_at (by decide)).trans (congrArg some hf51)) dd_Mo_verified_167 ?_
        refine lv_if_lt (tgt := 180) hx hb dd_Mo_verified_170 (by decide) (fun h170 => ?_) (fun h170 => ?_)
        ·
          exact absurd h170 (by decide)
        ·
          refine lv_iconst (v := -1) hx hb dd_Mo_verified_173 (by decide) ?_
          refine lv_aload_n hx hb dd_Mo_verified_174 rfl (lv_at hl 8 rfl) ?_
          refine gf_Mo_288 E hM wm ((mo_at (by decide)).trans (congrArg some hf51)) dd_Mo_verified_175 ?_
          refine lv_isub hx hb dd_Mo_verified_178 ?_
          refine mw_topi (y := -1) (by decide) ?_
          refine mr_i E hr hk hM hS (by decide) (by decide) ?_ dd_Mo_verified_179
          exact ⟨rfl, ⟨_, wm, hf3⟩, hF⟩
    ·
      rw [nI_leI (by omega) (by omega)] at h140
      omega
theorem cc_Mo_verify_0 (l : Launch) (D : va_G) (z : Nat) (M : mw_M) (mm : Nat) (F : Nat → Value) (at0 wr0 : Int32) (wm : M mm = some (.inr (13, mo_l F))) (hf3 : F 3 = .int (nI 0)) (hf50 : F 50 = .int (at0)) (hf51 : F 51 = .int (wr0)) : mw_C l yy_Mo_verify bb_Mo_verify 2 (Option.some Jvm.ClassFile.FieldType.int) 4 100 0 0 D z M [.ref mm] (fun v M' => v = some (.int (-1)) ∧ mw_fr (fun q => q = mm) M M') := by
  refine mw_of (by decide) (Nat.le_of_ble_eq_true rfl) ?_
  intro p e s m below meth c ls E hr hk hnm hM hl
  have hx := E.x
  have hb := E.b
  have E : mw_E p m c bb_Mo_verify 2 s _ D z "IdentityIssuerModel" := E
  have hl : lv_has ls 2 [(0, .ref mm)] := hl
  have hS : va_S (mw_A z) s.heap s.heap [] := va_S.rf
  have hF : mw_fr (fun q => q = mm) M M := mw_fr.rf
  refine lv_aload_n hx hb dd_Mo_verify_0 rfl (lv_at hl 0 rfl) ?_
  refine mw_V (As := []) (rest := []) E (cc_Mo_verified_0 l D z M mm F at0 wr0 wm hf3 hf50 hf51) ky_Mo_verified kv_Mo_verified tw_Mo_307 hM hS wm rfl rfl rfl hl.1 rfl (Nat.le_of_ble_eq_true rfl) dd_Mo_verify_1 (by decide) (by decide) (fun v M1 H locs hp hM hS => ?_)
  obtain ⟨rfl, ⟨G, wm, hf3⟩, hF2⟩ := hp
  have hF := hF.trans hF2
  refine W.eq (g2 := F0 m 4 ls [.int (-1)]) rfl ?_
  refine lv_istore_n (lv' := [(1, .int (-1)), (0, .ref mm)]) hx hb dd_Mo_verify_4 rfl hl (by decide) rfl (fun ls hl => ?_)
  refine lv_aload_n hx hb dd_Mo_verify_5 rfl (lv_at hl 1 rfl) ?_
  refine lv_iconst (v := nI 0) hx hb dd_Mo_verify_6 (by decide) ?_
  refine pf_Mo_122 E hM hS wm (by rw [mo_len]; decide) dd_Mo_verify_7 (fun H locs hM hS => ?_)
  rw [mo_set (by decide)] at hM
  obtain ⟨F1, hF1⟩ : ∃ F9 : Nat → Value, F9 = va_up G 3 (.int (nI 0)) := ⟨_, rfl⟩
  rw [← hF1] at hM
  have hf3 := mo_s hF1
  have hM : mw_at D mg_cl z (va_up M1 mm (some (.inr (13, mo_l F1)))) H := hM
  obtain ⟨M1, hM1⟩ : ∃ M9 : mw_M, M9 = va_up M1 mm (some (.inr (13, mo_l F1))) := ⟨_, rfl⟩
  rw [← hM1] at hM
  have wm := mw_us hM1
  have hF := mw_fu hM1 hF (rfl)
  refine lv_iload_n hx hb dd_Mo_verify_10 rfl (lv_at hl 0 rfl) ?_
  refine mr_i E hr hk hM hS (by decide) (by decide) ?_ dd_Mo_verify_11
  exact ⟨rfl, hF⟩
