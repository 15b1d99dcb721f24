/-! the reference: an empty text is no ID -/
theorem cc_Mo_sign_0 (l : Launch) (D : va_G) (z : Nat) (M : mw_M) (mm a0 k0 n0 : Nat) (h0 : n0 ≤ k0) (hk : k0 < 2 ^ 20) : mw_C l yy_Mo_sign bb_Mo_sign 4 (Option.some Jvm.ClassFile.FieldType.int) 0 0 0 0 D z M [.ref mm, .int (nI a0), .int (nI n0), .int (nI k0)] (fun v M' => v = some (.int (-1)) ∧ M' = M) := by
  refine mw_of (by decide) (Nat.le_of_ble_eq_true rfl) ?_
  intro p e s m below meth c ls E hr hk hnm hM hl
  have hx := E.x
  have hb := E.b
  have E : mw_E p m c bb_Mo_sign 4 s _ D z "IdentityIssuerModel" := E
  have hl : lv_has ls 4 [(0, .ref mm), (1, .int (nI a0)), (2, .int (nI n0)), (3, .int (nI k0))] := hl
  have hS : va_S (mw_A z) s.heap s.heap [] := va_S.rf
  refine lv_iload_n hx hb dd_Mo_sign_0 rfl (lv_at hl 3 rfl) ?_
  refine lv_iload_n hx hb dd_Mo_sign_1 rfl (lv_at hl 2 rfl) ?_
  refine lv_icmp_ge (tgt := 16) hx hb dd_Mo_sign_2 (by decide) (fun h2 => ?_) (fun h2 => ?_)
  ·
    rw [nI_leI (by omega) (by omega)] at h2
    refine lv_iconst (v := -1) hx hb dd_Mo_sign_16 (by decide) ?_
    refine mr_i E hr hk hM hS (by decide) (by decide) ?_ dd_Mo_sign_17
    exact ⟨rfl, rfl⟩
  ·
    rw [nI_leI (by omega) (by omega)] at h2
    omega
theorem cc_Mo_scheme_0 (l : Launch) (D : va_G) (z : Nat) (M : mw_M)   : mw_C l yy_Mo_scheme bb_Mo_scheme 1 (Option.some Jvm.ClassFile.FieldType.int) 0 0 0 0 D z M [.int (nI 0)] (fun v M' => v = some (.int (nI 115)) ∧ M' = M) := by
  refine mw_of (by decide) (Nat.le_of_ble_eq_true rfl) ?_
  intro p e s m below meth c ls E hr hk hnm hM hl
  have hx := E.x
  have hb := E.b
  have E : mw_E p m c bb_Mo_scheme 1 s _ D z "IdentityIssuerModel" := E
  have hl : lv_has ls 1 [(0, .int (nI 0))] := hl
  have hS : va_S (mw_A z) s.heap s.heap [] := va_S.rf
  refine lv_iload_n hx hb dd_Mo_scheme_0 rfl (lv_at hl 0 rfl) ?_
  refine lv_iconst (v := nI 3) hx hb dd_Mo_scheme_1 (by decide) ?_
  refine lv_icmp_ge (tgt := 29) hx hb dd_Mo_scheme_2 (by decide) (fun h2 => ?_) (fun h2 => ?_)
  ·
    rw [nI_leI (by omega) (by omega)] at h2
    omega
  ·
    rw [nI_leI (by omega) (by omega)] at h2
    refine lv_iload_n hx hb dd_Mo_scheme_5 rfl (lv_at hl 0 rfl) ?_
    refine lv_if_ne (tgt := 14) hx hb dd_Mo_scheme_6 (by decide) (fun h6 => ?_) (fun h6 => ?_)
    ·
      exact absurd rfl h6
    ·
      refine lv_bipush (v := nI 115) hx hb dd_Mo_scheme_9 (by decide) ?_
      refine lv_goto (tgt := 62) hx hb dd_Mo_scheme_11 (by decide) ?_
      refine mr_i E hr hk hM hS (by decide) (by decide) ?_ dd_Mo_scheme_62
      exact ⟨rfl, rfl⟩
theorem cc_Mo_errorBySigns_0 (l : Launch) (D : va_G) (z : Nat) (M : mw_M) (mm : Nat) (F : Nat → Value) (wm : M mm = some (.inr (13, mo_l F))) : mw_C l yy_Mo_errorBySigns bb_Mo_errorBySigns 6 (Option.some Jvm.ClassFile.FieldType.int) 1 23 0 0 D z M [.ref mm, .int (nI 0), .int (nI 0)] (fun v M' => v = some (.int (nI 0)) ∧ M' = M) := by
  refine mw_of (by decide) (Nat.le_of_ble_eq_true rfl) ?_
  intro p e s m below meth c ls E hr hk hnm hM hl
  have hx := E.x
  have hb := E.b
  have E : mw_E p m c bb_Mo_errorBySigns 6 s _ D z "IdentityIssuerModel" := E
  have hl : lv_has ls 6 [(0, .ref mm), (1, .int (nI 0)), (2, .int (nI 0))] := hl
  have hS : va_S (mw_A z) s.heap s.heap [] := va_S.rf
  refine lv_iconst (v := nI 0) hx hb dd_Mo_errorBySigns_0 (by decide) ?_
  refine lv_istore_n (lv' := [(3, .int (nI 0)), (0, .ref mm), (1, .int (nI 0)), (2, .int (nI 0))]) hx hb dd_Mo_errorBySigns_1 rfl hl (by decide) rfl (fun ls hl => ?_)
  refine lv_iload_n hx hb dd_Mo_errorBySigns_2 rfl (lv_at hl 0 rfl) ?_
  refine lv_bipush (v := nI 9) hx hb dd_Mo_errorBySigns_3 (by decide) ?_
  refine lv_icmp_ge (tgt := 30) hx hb dd_Mo_errorBySigns_5 (by decide) (fun h5 => ?_) (fun h5 => ?_)
  ·
    rw [nI_leI (by omega) (by omega)] at h5
    omega
  ·
    rw [nI_leI (by omega) (by omega)] at h5
    refine lv_aload_n hx hb dd_Mo_errorBySigns_8 rfl (lv_at hl 1 rfl) ?_
    refine lv_iload_n hx hb dd_Mo_errorBySigns_9 rfl (lv_at hl 2 rfl) ?_
    refine lv_iload_n hx hb dd_Mo_errorBySigns_10 rfl (lv_at hl 3 rfl) ?_
    refine lv_iload_n hx hb dd_Mo_errorBySigns_11 rfl (lv_at hl 0 rfl) ?_
    refine mw_V (As := [.int (nI 0), .int (nI 0), .int (nI 0)]) (rest := []) E (cc_Mo_sign_0 l D z M mm 0 0 0 (by decide) (by decide)) ky_Mo_sign kv_Mo_sign tw_Mo_129 hM hS wm rfl rfl rfl hl.1 rfl (Nat.le_of_ble_eq_true rfl) dd_Mo_errorBySigns_12 (by decide) (by decide) (fun v M1 H locs hp hM hS => ?_)
    obtain ⟨rfl, hq⟩ := hp
    have hq := hq.symm
    subst hq
    refine W.eq (g2 := F0 m 15 ls [.int (-1)]) rfl ?_
    refine lv_iload_n hx hb dd_Mo_errorBySigns_15 rfl (lv_at hl 0 rfl) ?_
    refine mw_S (As := [.int (nI 0)]) (rest := [.int (-1)]) E (cc_Mo_scheme_0 l D z M) ky_Mo_scheme kv_Mo_scheme tw_Mo_133 hM hS rfl hl.1 rfl (Nat.le_of_ble_eq_true rfl) dd_Mo_errorBySigns_16 (by decide) (by decide) (fun v M1 H locs hp hM hS => ?_)
    obtain ⟨rfl, hq⟩ := hp
    have hq := hq.symm
    subst hq
    refine W.eq (g2 := F0 m 19 ls [.int (nI 115), .int (-1)]) rfl ?_
    refine lv_icmp_eq (tgt := 24) hx hb dd_Mo_errorBySigns_19 (by decide) (fun h19 => ?_) (fun h19 => ?_)
    ·
      exact absurd h19 (by decide)
    ·
      refine lv_iload_n hx hb dd_Mo_errorBySigns_22 rfl (lv_at hl 0 rfl) ?_
      refine mr_i E hr hk hM hS (by decide) (by decide) ?_ dd_Mo_errorBySigns_23
      exact ⟨rfl, rfl⟩
theorem cc_Mo_idError_0 (l : Launch) (D : va_G) (z : Nat) (M : mw_M) (mm : Nat) (F : Nat → Value) (wm : M mm = some (.inr (13, mo_l F))) : mw_C l yy_Mo_idError bb_Mo_idError 5 (Option.some Jvm.ClassFile.FieldType.int) 2 48 0 0 D z M [.ref mm, .int (nI 0), .int (nI 0)] (fun v M' => v = some (.int (nI 0)) ∧ M' = M) := by
  refine mw_of (by decide) (Nat.le_of_ble_eq_true rfl) ?_
  intro p e s m below meth c ls E hr hk hnm hM hl
  have hx := E.x
  have hb := E.b
  have E : mw_E p m c bb_Mo_idError 5 s _ D z "IdentityIssuerModel" := E
  have hl : lv_has ls 5 [(0, .ref mm), (1, .int (nI 0)), (2, .int (nI 0))] := hl
  have hS : va_S (mw_A z) s.heap s.heap [] := va_S.rf
  refine lv_aload_n hx hb dd_Mo_idError_0 rfl (lv_at hl 0 rfl) ?_
  refine lv_iload_n hx hb dd_Mo_idError_1 rfl (lv_at hl 1 rfl) ?_
  refine lv_iload_n hx hb dd_Mo_idError_2 rfl (lv_at hl 2 rfl) ?_
  refine mw_V (As := [.int (nI 0), .int (nI 0)]) (rest := []) E (cc_Mo_errorBySigns_0 l D z (M) mm F wm) ky_Mo_errorBySigns kv_Mo_errorBySigns tw_Mo_143 hM hS wm rfl rfl rfl hl.1 rfl (Nat.le_of_ble_eq_true rfl) dd_Mo_idError_3 (by decide) (by decide) (fun v M1 H locs hp hM hS => ?_)
  obtain ⟨rfl, hq⟩ := hp
  have hq := hq.symm
  subst hq
  refine W.eq (g2 := F0 m 6 ls [.int (nI 0)]) rfl ?_
  refine lv_istore_n (lv' := [(3, .int (nI 0)), (0, .ref mm), (1, .int (nI 0)), (2, .int (nI 0))]) hx hb dd_Mo_idError_6 rfl hl (by decide) rfl (fun ls hl => ?_)
  refine lv_iload_n hx hb dd_Mo_idError_7 rfl (lv_at hl 3 rfl) ?_
  refine lv_bipush (v := nI 40) hx hb dd_Mo_idError_8 (by decide) ?_
  refine lv_icmp_le (tgt := 24) hx hb dd_Mo_idError_10 (by decide) (fun h10 => ?_) (fun h10 => ?_)
  ·
    rw [nI_leI (by omega) (by omega)] at h10
    refine lv_iload_n hx hb dd_Mo_idError_24 rfl (lv_at hl 0 rfl) ?_
    refine lv_istore (lv' := [(4, .int (nI 0)), (3, .int (nI 0)), (0, .ref mm), (1, .int (nI 0)), (2, .int (nI 0))]) hx hb dd_Mo_idError_25 hl (by decide) rfl (fun ls hl => ?_)
    refine lv_iload hx hb dd_Mo_idError_27 (lv_at hl 0 rfl) ?_
    refine lv_iload_n hx hb dd_Mo_idError_29 rfl (lv_at hl 4 rfl) ?_
    refine lv_icmp_le (tgt := 37) hx hb dd_Mo_idError_30 (by decide) (fun h30 => ?_) (fun h30 => ?_)
    ·
      rw [nI_leI (by omega) (by omega)] at h30
      refine lv_iload hx hb dd_Mo_idError_37 (lv_at hl 0 rfl) ?_
      refine mr_i E hr hk hM hS (by decide) (by decide) ?_ dd_Mo_idError_39
      exact ⟨rfl, rfl⟩
    ·
      rw [nI_leI (by omega) (by omega)] at h30
      omega
  ·
    rw [nI_leI (by omega) (by omega)] at h10
    omega
theorem cc_Mo_identify_0 (l : Launch) (D : va_G) (z : Nat) (M : mw_M) (mm : Nat) (F : Nat → Value) (wm : M mm = some (.inr (13, mo_l F))) : mw_C l yy_Mo_identify bb_Mo_identify 4 (Option.some Jvm.ClassFile.FieldType.int) 3 72 0 0 D z M [.ref mm, .int (nI 0)] (fun v M' => v = some (.int (-1)) ∧ M' = M) := by
  refine mw_of (by decide) (Nat.le_of_ble_eq_true rfl) ?_
  intro p e s m below meth c ls E hr hk hnm hM hl
  have hx := E.x
  have hb := E.b
  have E : mw_E p m c bb_Mo_identify 4 s _ D z "IdentityIssuerModel" := E
  have hl : lv_has ls 4 [(0, .ref mm), (1, .int (nI 0))] := hl
  have hS : va_S (mw_A z) s.heap s.heap [] := va_S.rf
  refine lv_aload_n hx hb dd_Mo_identify_0 rfl (lv_at hl 0 rfl) ?_
  refine lv_iconst (v := nI 0) hx hb dd_Mo_identify_1 (by decide) ?_
  refine lv_iload_n hx hb dd_Mo_identify_2 rfl (lv_at hl 1 rfl) ?_
  refine mw_V (As := [.int (nI 0), .int (nI 0)]) (rest := []) E (cc_Mo_idError_0 l D z (M) mm F wm) ky_Mo_idError kv_Mo_idError tw_Mo_147 hM hS wm rfl rfl rfl hl.1 rfl (Nat.le_of_ble_eq_true rfl) dd_Mo_identify_3 (by decide) (by decide) (fun v M1 H locs hp hM hS => ?_)
  obtain ⟨rfl, hq⟩ := hp
  have hq := hq.symm
  subst hq
  refine W.eq (g2 := F0 m 6 ls [.int (nI 0)]) rfl ?_
  refine lv_istore_n (lv' := [(2, .int (nI 0)), (0, .ref mm), (1, .int (nI 0))]) hx hb dd_Mo_identify_6 rfl hl (by decide) rfl (fun ls hl => ?_)
  refine lv_iload_n hx hb dd_Mo_identify_7 rfl (lv_at hl 0 rfl) ?_
  refine lv_if_lt (tgt := 15) hx hb dd_Mo_identify_8 (by decide) (fun h8 => ?_) (fun h8 => ?_)
  ·
    exact absurd h8 (by decide)
  ·
    refine lv_iconst (v := -1) hx hb dd_Mo_identify_11 (by decide) ?_
    refine lv_iload_n hx hb dd_Mo_identify_12 rfl (lv_at hl 0 rfl) ?_
    refine lv_isub hx hb dd_Mo_identify_13 ?_
    refine mw_topi (y := -1) (by decide) ?_
    refine mr_i E hr hk hM hS (by decide) (by decide) ?_ dd_Mo_identify_14
    exact ⟨rfl, rfl⟩
theorem cc_Mo_id_0 (l : Launch) (D : va_G) (z : Nat) (M : mw_M) (mm : Nat) (F : Nat → Value) (wm : M mm = some (.inr (13, mo_l F))) (hf3 : F 3 = .int (nI 0)) : mw_C l yy_Mo_id bb_Mo_id 2 (Option.some Jvm.ClassFile.FieldType.int) 4 95 0 0 D z M [.ref mm] (fun v M' => v = some (.int (-1)) ∧ mw_fr (fun q => q = mm) M M') := by
  refine mw_of (by decide) (Nat.le_of_ble_eq_true rfl) ?_
  intro p e s m below meth c ls E hr hk hnm hM hl
  have hx := E.x
  have hb := E.b
  have E : mw_E p m c bb_Mo_id 2 s _ D z "IdentityIssuerModel" := E
  have hl : lv_has ls 2 [(0, .ref mm)] := hl
  have hS : va_S (mw_A z) s.heap s.heap [] := va_S.rf
  have hF : mw_fr (fun q => q = mm) M M := mw_fr.rf
  refine lv_aload_n hx hb dd_Mo_id_0 rfl (lv_at hl 0 rfl) ?_
  refine gf_Mo_122 E hM wm ((mo_at (by decide)).trans (congrArg some hf3)) dd_Mo_id_1 ?_
  refine lv_istore_n (lv' := [(1, .int (nI 0)), (0, .ref mm)]) hx hb dd_Mo_id_4 rfl hl (by decide) rfl (fun ls hl => ?_)
  refine lv_aload_n hx hb dd_Mo_id_5 rfl (lv_at hl 1 rfl) ?_
  refine lv_iconst (v := nI 0) hx hb dd_Mo_id_6 (by decide) ?_
  refine pf_Mo_122 E hM hS wm (by rw [mo_len]; decide) dd_Mo_id_7 (fun H locs hM hS => ?_)
  rw [mo_set (by decide)] at hM
  obtain ⟨F1, hF1⟩ : ∃ F9 : Nat → Value, F9 = va_up F 3 (.int (nI 0)) := ⟨_, rfl⟩
  rw [← hF1] at hM
  have hf3 := mo_s hF1
  have hM : mw_at D mg_cl z (va_up M mm (some (.inr (13, mo_l F1)))) H := hM
  obtain ⟨M1, hM1⟩ : ∃ M9 : mw_M, M9 = va_up M mm (some (.inr (13, mo_l F1))) := ⟨_, rfl⟩
  rw [← hM1] at hM
  have wm := mw_us hM1
  have hF := mw_fu hM1 hF (rfl)
  refine lv_aload_n hx hb dd_Mo_id_10 rfl (lv_at hl 1 rfl) ?_
  refine lv_iload_n hx hb dd_Mo_id_11 rfl (lv_at hl 0 rfl) ?_
  refine mw_V (As := [.int (nI 0)]) (rest := []) E (cc_Mo_identify_0 l D z M1 mm F1 wm) ky_Mo_identify kv_Mo_identify tw_Mo_157 hM hS wm rfl rfl rfl hl.1 rfl (Nat.le_of_ble_eq_true rfl) dd_Mo_id_12 (by decide) (by decide) (fun v M1 H locs hp hM hS => ?_)
  obtain ⟨rfl, hq⟩ := hp
  have hq := hq.symm
  subst hq
  refine W.eq (g2 := F0 m 15 ls [.int (-1)]) rfl ?_
  refine mr_i E hr hk hM hS (by decide) (by decide) ?_ dd_Mo_id_15
  exact ⟨rfl, hF⟩
/-! the reference: nothing to verify -/
theorem cc_Mo_error_a (l : Launch) (D : va_G) (z : Nat) (M : mw_M) (mm : Nat) (F : Nat → Value) (a0 : Nat) (wm : M mm = some (.inr (13, mo_l F))) (hf3 : F 3 = .int (nI 0)) (hf51 : F 51 = .int (-1)) (ha : a0 < 2 ^ 20) : mw_C l yy_Mo_error bb_Mo_error 2 (Option.none : Option Jvm.ClassFile.FieldType) 0 0 0 0 D z M [.ref mm, .int (nI a0)] (fun v M' => v = none ∧ M' mm = some (.inr (13, mo_l (va_up F 51 (.int (nI 0))))) ∧ mw_fr (fun q => q = mm) M M') := by
  refine mw_of (by decide) (Nat.le_of_ble_eq_true rfl) ?_
  intro p e s m below meth c ls E hr hk hnm hM hl
  have hx := E.x
  have hb := E.b
  have E : mw_E p m c bb_Mo_error 2 s _ D z "IdentityIssuerModel" := E
  have hl : lv_has ls 2 [(0, .ref mm), (1, .int (nI a0))] := hl
  have hS : va_S (mw_A z) s.heap s.heap [] := va_S.rf
  have hF : mw_fr (fun q => q = mm) M M := mw_fr.rf
  refine lv_aload_n hx hb dd_Mo_error_0 rfl (lv_at hl 0 rfl) ?_
  refine gf_Mo_288 E hM wm ((mo_at (by decide)).trans (congrArg some hf51)) dd_Mo_error_1 ?_
  refine lv_if_ge (tgt := 27) hx hb dd_Mo_error_4 (by decide) (fun h4 => ?_) (fun h4 => ?_)
  ·
    exact absurd h4 (by decide)
  ·
    refine lv_aload_n hx hb dd_Mo_error_7 rfl (lv_at hl 0 rfl) ?_
    refine lv_iload_n hx hb dd_Mo_error_8 rfl (lv_at hl 1 rfl) ?_
    refine lv_aload_n hx hb dd_Mo_error_9 rfl (lv_at hl 0 rfl) ?_
    refine gf_Mo_122 E hM wm ((mo_at (by decide)).trans (congrArg some hf3)) dd_Mo_error_10 ?_
    refine lv_icmp_ge (tgt := 20) hx hb dd_Mo_error_13 (by decide) (fun h13 => ?_) (fun h13 => ?_)
    ·
      rw [nI_leI (by omega) (by omega)] at h13
      refine lv_aload_n hx hb dd_Mo_error_20 rfl (lv_at hl 0 rfl) ?_
      refine gf_Mo_122 E hM wm ((mo_at (by decide)).trans (congrArg some hf3)) dd_Mo_error_21 ?_
      refine pf_Mo_288 E hM hS wm (by rw [mo_len]; decide) dd_Mo_error_24 (fun H locs hM hS => ?_)
      rw [mo_set (by decide)] at hM
      obtain ⟨F1, hF1⟩ : ∃ F9 : Nat → Value, F9 = va_up F 51 (.int (nI 0)) := ⟨_, rfl⟩
      rw [← hF1] at hM
      have hf3 := mo_n hF1 hf3 (by decide)
      have hf51 := mo_s hF1
      have hM : mw_at D mg_cl z (va_up M mm (some (.inr (13, mo_l F1)))) H := hM
      obtain ⟨M1, hM1⟩ : ∃ M9 : mw_M, M9 = va_up M mm (some (.inr (13, mo_l F1))) := ⟨_, rfl⟩
      rw [← hM1] at hM
      have wm := mw_us hM1
      have hF := mw_fu hM1 hF (rfl)
      refine mr_v E hr hk hM hS (by decide) (by decide) ?_ dd_Mo_error_27
      exact ⟨rfl, by rw [← hF1]; exact wm, hF⟩
    ·
      rw [nI_leI (by omega) (by omega)] at h13
      omega
theorem cc_Mo_error_b (l : Launch) (D : va_G) (z : Nat) (M : mw_M) (mm : Nat) (F : Nat → Value) (a0 : Int32) (wm : M mm = some (.inr (13, mo_l F))) (hf3 : F 3 = .int (nI 0)) (hf51 : F 51 = .int (nI 0)) : mw_C l yy_Mo_error bb_Mo_error 2 (Option.none : Option Jvm.ClassFile.FieldType) 0 0 0 0 D z M [.ref mm, .int (a0)] (fun v M' => v = none ∧ M' = M) := by
  refine mw_of (by decide) (Nat.le_of_ble_eq_true rfl) ?_
  intro p e s m below meth c ls E hr hk hnm hM hl
  have hx := E.x
  have hb := E.b
  have E : mw_E p m c bb_Mo_error 2 s _ D z "IdentityIssuerModel" := E
  have hl : lv_has ls 2 [(0, .ref mm), (1, .int (a0))] := hl
  have hS : va_S (mw_A z) s.heap s.heap [] := va_S.rf
  refine lv_aload_n hx hb dd_Mo_error_0 rfl (lv_at hl 0 rfl) ?_
  refine gf_Mo_288 E hM wm ((mo_at (by decide)).trans (congrArg some hf51)) dd_Mo_error_1 ?_
  refine lv_if_ge (tgt := 27) hx hb dd_Mo_error_4 (by decide) (fun h4 => ?_) (fun h4 => ?_)
  ·
    refine mr_v E hr hk hM hS (by decide) (by decide) ?_ dd_Mo_error_27
    exact ⟨rfl, rfl⟩
  ·
    exact absurd (nI_pos' (by decide)) h4
theorem cc_Mo_in_a (l : Launch) (D : va_G) (z : Nat) (M : mw_M) (mm : Nat) (F : Nat → Value) (a0 lo0 hi0 : Nat) (wm : M mm = some (.inr (13, mo_l F))) (hf3 : F 3 = .int (nI 0)) (hf50 : F 50 = .int (nI a0)) (hf51 : F 51 = .int (-1)) (ha : a0 < 2 ^ 20) (hlo : lo0 < 2 ^ 20) : mw_C l yy_Mo_in bb_Mo_in 4 (Option.some Jvm.ClassFile.FieldType.int) 1 22 0 0 D z M [.ref mm, .int (nI lo0), .int (nI hi0)] (fun v M' => v = some (.int (-1)) ∧ M' mm = some (.inr (13, mo_l (va_up (va_up F 51 (.int (nI 0))) 50 (.int (nI (a0 + 1)))))) ∧ mw_fr (fun q => q = mm) M M') := by
  refine mw_of (by decide) (Nat.le_of_ble_eq_true rfl) ?_
  intro p e s m below meth c ls E hr hk hnm hM hl
  have hx := E.x
  have hb := E.b
  have E : mw_E p m c bb_Mo_in 4 s _ D z "IdentityIssuerModel" := E
  have hl : lv_has ls 4 [(0, .ref mm), (1, .int (nI lo0)), (2, .int (nI hi0))] := hl
  have hS : va_S (mw_A z) s.heap s.heap [] := va_S.rf
  have hF : mw_fr (fun q => q = mm) M M := mw_fr.rf
  refine lv_aload_n hx hb dd_Mo_in_0 rfl (lv_at hl 0 rfl) ?_
  refine gf_Mo_291 E hM wm ((mo_at (by decide)).trans (congrArg some hf50)) dd_Mo_in_1 ?_
  refine lv_aload_n hx hb dd_Mo_in_4 rfl (lv_at hl 0 rfl) ?_
  refine gf_Mo_122 E hM wm ((mo_at (by decide)).trans (congrArg some hf3)) dd_Mo_in_5 ?_
  refine lv_icmp_ge (tgt := 23) hx hb dd_Mo_in_8 (by decide) (fun h8 => ?_) (fun h8 => ?_)
  ·
    rw [nI_leI (by omega) (by omega)] at h8
    refine lv_iconst (v := -1) hx hb dd_Mo_in_23 (by decide) ?_
    refine lv_istore_n (lv' := [(3, .int (-1)), (0, .ref mm), (1, .int (nI lo0)), (2, .int (nI hi0))]) hx hb dd_Mo_in_24 rfl hl (by decide) rfl (fun ls hl => ?_)
    refine lv_iload_n hx hb dd_Mo_in_25 rfl (lv_at hl 0 rfl) ?_
    refine lv_iload_n hx hb dd_Mo_in_26 rfl (lv_at hl 2 rfl) ?_
    refine lv_iload_n hx hb dd_Mo_in_27 rfl (lv_at hl 3 rfl) ?_
    refine mw_S (As := [.int (-1), .int (nI lo0), .int (nI hi0)]) (rest := []) E (cc_Mo_outside l D z (M) (-1) (nI lo0) (nI hi0)) ky_Mo_outside kv_Mo_outside tw_Mo_118 hM hS rfl hl.1 rfl (Nat.le_of_ble_eq_true rfl) dd_Mo_in_28 (by decide) (by decide) (fun v M1 H locs hp hM hS => ?_)
    obtain ⟨rfl, hq⟩ := hp
    have hq := hq.symm
    subst hq
    refine W.eq (g2 := F0 m 31 ls [.int (zI (mo_out (-1) (nI lo0) (nI hi0)))]) rfl ?_
    refine lv_if_eq (tgt := 42) hx hb dd_Mo_in_31 (by decide) (fun h31 => ?_) (fun h31 => ?_)
    ·
      exact absurd (zI_0.mp h31) (by rw [mo_out, decide_eq_true (show (-1 : Int32) < nI lo0 from by rw [Int32.lt_iff_toInt_lt, nI_toInt (by omega)]; exact Int.lt_of_lt_of_le (by decide : (-1 : Int32).toInt < 0) (Int.natCast_nonneg _)), Bool.true_or]; decide)
    ·
      refine lv_aload_n hx hb dd_Mo_in_34 rfl (lv_at hl 1 rfl) ?_
      refine lv_aload_n hx hb dd_Mo_in_35 rfl (lv_at hl 1 rfl) ?_
      refine gf_Mo_291 E hM wm ((mo_at (by decide)).trans (congrArg some hf50)) dd_Mo_in_36 ?_
      refine mw_V (As := [.int (nI a0)]) (rest := []) E (cc_Mo_error_a l D z M mm F a0 wm hf3 hf51 ha) ky_Mo_error kv_Mo_error tw_Mo_294 hM hS wm rfl rfl rfl hl.1 rfl (Nat.le_of_ble_eq_true rfl) dd_Mo_in_39 (by decide) (by decide) (fun v M1 H locs hp hM hS => ?_)
      obtain ⟨rfl, wm, hF2⟩ := hp
      have hF := hF.trans hF2
      obtain ⟨G, hG⟩ : ∃ G : Nat → Value, G = va_up F 51 (.int (nI 0)) := ⟨_, rfl⟩
      rw [← hG] at wm
      have hf3 := mo_n hG hf3 (by decide)
      have hf50 := mo_n hG hf50 (by decide)
      have hf51 := mo_s hG
      refine W.eq (g2 := F0 m 42 ls []) rfl ?_
      refine lv_aload_n hx hb dd_Mo_in_42 rfl (lv_at hl 1 rfl) ?_
      refine lv_dup hx hb dd_Mo_in_43 rfl ?_
      refine gf_Mo_291 E hM wm ((mo_at (by decide)).trans (congrArg some hf50)) dd_Mo_in_44 ?_
      refine lv_iconst (v := nI 1) hx hb dd_Mo_in_47 (by decide) ?_
      refine lv_iadd hx hb dd_Mo_in_48 ?_
      refine mw_topi (y := nI (a0 + 1)) (nI_add _ _) ?_
      refine pf_Mo_291 E hM hS wm (by rw [mo_len]; decide) dd_Mo_in_49 (fun H locs hM hS => ?_)
      rw [mo_set (by decide)] at hM
      obtain ⟨F1, hF1⟩ : ∃ F9 : Nat → Value, F9 = va_up G 50 (.int (nI (a0 + 1))) := ⟨_, rfl⟩
      rw [← hF1] at hM
      have hf3 := mo_n hF1 hf3 (by decide)
      have hf51 := mo_n hF1 hf51 (by decide)
      have hf50 := mo_s hF1
      have hM : mw_at D mg_cl z (va_up M1 mm (some (.inr (13, mo_l F1)))) H := hM
      obtain ⟨M1, hM1⟩ : ∃ M9 : mw_M, M9 = va_up M1 mm (some (.inr (13, mo_l F1))) := ⟨_, rfl⟩
      rw [← hM1] at hM
      have wm := mw_us hM1
      have hF := mw_fu hM1 hF (rfl)
      refine lv_iload_n hx hb dd_Mo_in_52 rfl (lv_at hl 0 rfl) ?_
      refine mr_i E hr hk hM hS (by decide) (by decide) ?_ dd_Mo_in_53
      exact ⟨rfl, by rw [← hG, ← hF1]; exact wm, hF⟩
  ·
    rw [nI_leI (by omega) (by omega)] at h8
    omega
theorem cc_Mo_in_b (l : Launch) (D : va_G) (z : Nat) (M : mw_M) (mm : Nat) (F : Nat → Value) (a0 lo0 hi0 : Nat) (wm : M mm = some (.inr (13, mo_l F))) (hf3 : F 3 = .int (nI 0)) (hf50 : F 50 = .int (nI a0)) (hf51 : F 51 = .int (nI 0)) (ha : a0 < 2 ^ 20) (hlo : lo0 < 2 ^ 20) : mw_C l yy_Mo_in bb_Mo_in 4 (Option.some Jvm.ClassFile.FieldType.int) 1 22 0 0 D z M [.ref mm, .int (nI lo0), .int (nI hi0)] (fun v M' => v = some (.int (-1)) ∧ M' mm = some (.inr (13, mo_l (va_up F 50 (.int (nI (a0 + 1)))))) ∧ mw_fr (fun q => q = mm) M M') := by
  refine mw_of (by decide) (Nat.le_of_ble_eq_true rfl) ?_
  intro p e s m below meth c ls E hr hk hnm hM hl
  have hx := E.x
  have hb := E.b
  have E : mw_E p m c bb_Mo_in 4 s _ D z "IdentityIssuerModel" := E
  have hl : lv_has ls 4 [(0, .ref mm), (1, .int (nI lo0)), (2, .int (nI hi0))] := hl
  have hS : va_S (mw_A z) s.heap s.heap [] := va_S.rf
  have hF : mw_fr (fun q => q = mm) M M := mw_fr.rf
  refine lv_aload_n hx hb dd_Mo_in_0 rfl (lv_at hl 0 rfl) ?_
  refine gf_Mo_291 E hM wm ((mo_at (by decide)).trans (congrArg some hf50)) dd_Mo_in_1 ?_
  refine lv_aload_n hx hb dd_Mo_in_4 rfl (lv_at hl 0 rfl) ?_
  refine gf_Mo_122 E hM wm ((mo_at (by decide)).trans (congrArg some hf3)) dd_Mo_in_5 ?_
  refine lv_icmp_ge (tgt := 23) hx hb dd_Mo_in_8 (by decide) (fun h8 => ?_) (fun h8 => ?_)
  ·
    rw [nI_leI (by omega) (by omega)] at h8
    refine lv_iconst (v := -1) hx hb dd_Mo_in_23 (by decide) ?_
    refine lv_istore_n (lv' := [(3, .int (-1)), (0, .ref mm), (1, .int (nI lo0)), (2, .int (nI hi0))]) hx hb dd_Mo_in_24 rfl hl (by decide) rfl (fun ls hl => ?_)
    refine lv_iload_n hx hb dd_Mo_in_25 rfl (lv_at hl 0 rfl) ?_
    refine lv_iload_n hx hb dd_Mo_in_26 rfl (lv_at hl 2 rfl) ?_
    refine lv_iload_n hx hb dd_Mo_in_27 rfl (lv_at hl 3 rfl) ?_
    refine mw_S (As := [.int (-1), .int (nI lo0), .int (nI hi0)]) (rest := []) E (cc_Mo_outside l D z (M) (-1) (nI lo0) (nI hi0)) ky_Mo_outside kv_Mo_outside tw_Mo_118 hM hS rfl hl.1 rfl (Nat.le_of_ble_eq_true rfl) dd_Mo_in_28 (by decide) (by decide) (fun v M1 H locs hp hM hS => ?_)
    obtain ⟨rfl, hq⟩ := hp
    have hq := hq.symm
    subst hq
    refine W.eq (g2 := F0 m 31 ls [.int (zI (mo_out (-1) (nI lo0) (nI hi0)))]) rfl ?_
    refine lv_if_eq (tgt := 42) hx hb dd_Mo_in_31 (by decide) (fun h31 => ?_) (fun h31 => ?_)
    ·
      exact absurd (zI_0.mp h31) (by rw [mo_out, decide_eq_true (show (-1 : Int32) < nI lo0 from by rw [Int32.lt_iff_toInt_lt, nI_toInt (by omega)]; exact Int.lt_of_lt_of_le (by decide : (-1 : Int32).toInt < 0) (Int.natCast_nonneg _)), Bool.true_or]; decide)
    ·
      refine lv_aload_n hx hb dd_Mo_in_34 rfl (lv_at hl 1 rfl) ?_
      refine lv_aload_n hx hb dd_Mo_in_35 rfl (lv_at hl 1 rfl) ?_
      refine gf_Mo_291 E hM wm ((mo_at (by decide)).trans (congrArg some hf50)) dd_Mo_in_36 ?_
      refine mw_V (As := [.int (nI a0)]) (rest := []) E (cc_Mo_error_b l D z M mm F (nI a0) wm hf3 hf51) ky_Mo_error kv_Mo_error tw_Mo_294 hM hS wm rfl rfl rfl hl.1 rfl (Nat.le_of_ble_eq_true rfl) dd_Mo_in_39 (by decide) (by decide) (fun v M1 H locs hp hM hS => ?_)
      obtain ⟨rfl, hq⟩ := hp
      have hq := hq.symm
      subst hq
      refine W.eq (g2 := F0 m 42 ls []) rfl ?_
      refine lv_aload_n hx hb dd_Mo_in_42 rfl (lv_at hl 1 rfl) ?_
      refine lv_dup hx hb dd_Mo_in_43 rfl ?_
      refine gf_Mo_291 E hM wm ((mo_at (by decide)).trans (congrArg some hf50)) dd_Mo_in_44 ?_
      refine lv_iconst (v := nI 1) hx hb dd_Mo_in_47 (by decide) ?_
      refine lv_iadd hx hb dd_Mo_in_48 ?_
      refine mw_topi (y := nI (a0 + 1)) (nI_add _ _) ?_
      refine pf_Mo_291 E hM hS wm (by rw [mo_len]; decide) dd_Mo_in_49 (fun H locs hM hS => ?_)
      rw [mo_set (by decide)] at hM
      obtain ⟨F1, hF1⟩ : ∃ F9 : Nat → Value, F9 = va_up F 50 (.int (nI (a0 + 1))) := ⟨_, rfl⟩
      rw [← hF1] at hM
      have hf3 := mo_n hF1 hf3 (by decide)
      have hf51 := mo_n hF1 hf51 (by decide)
      have hf50 := mo_s hF1
      have hM : mw_at D mg_cl z (va_up M mm (some (.inr (13, mo_l F1)))) H := hM
      obtain ⟨M1, hM1⟩ : ∃ M9 : mw_M, M9 = va_up M mm (some (.inr (13, mo_l F1))) := ⟨_, rfl⟩
      rw [← hM1] at hM
      have wm := mw_us hM1
      have hF := mw_fu hM1 hF (rfl)
      refine lv_iload_n hx hb dd_Mo_in_52 rfl (lv_at hl 0 rfl) ?_
      refine mr_i E hr hk hM hS (by decide) (by decide) ?_ dd_Mo_in_53
      exact ⟨rfl, by rw [← hF1]; exact wm, hF⟩
  ·
    rw [nI_leI (by omega) (by omega)] at h8
    omega
