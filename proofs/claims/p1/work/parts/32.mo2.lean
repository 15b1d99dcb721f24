/-! the reference's small calls -/
def mo_out (v lo hi : Int32) : Bool := decide (v < lo) || decide (hi < v)
theorem mo_out_has {n : Nat} {i : Int32} (hn : n < 2 ^ 30) : mo_out i (nI 0) (nI n - nI 1) = !xi_has n i := by
  unfold mo_out xi_has
  rw [Bool.not_and]
  congr 1
  · rw [← decide_not]
    refine decide_eq_decide.mpr ?_
    rw [Int32.lt_iff_toInt_lt, nI_toInt (by decide)]
    omega
  · rw [← decide_not]
    refine decide_eq_decide.mpr ?_
    rw [Int32.lt_iff_toInt_lt, pk_sub_toInt (by omega) (by decide)]
    omega
theorem mo_out_c {n : Nat} {i : Int32} (hn : n < 2 ^ 30) : mo_out i (nI 0) (nI n) = !xi_has (n + 1) i := by
  unfold mo_out xi_has
  rw [Bool.not_and]
  congr 1
  · rw [← decide_not]
    refine decide_eq_decide.mpr ?_
    rw [Int32.lt_iff_toInt_lt, nI_toInt (by decide)]
    omega
  · rw [← decide_not]
    refine decide_eq_decide.mpr ?_
    rw [Int32.lt_iff_toInt_lt, nI_toInt (by omega)]
    omega
theorem cc_Mo_outside (l : Launch) (D : va_G) (z : Nat) (M : mw_M) (v0 lo hi : Int32)  : mw_C l yy_Mo_outside bb_Mo_outside 3 (Option.some Jvm.ClassFile.FieldType.boolean) 0 0 0 0 D z M [.int (v0), .int (lo), .int (hi)] (fun v M' => v = some (.int (zI (mo_out v0 lo hi))) ∧ M' = M) := by
  refine mw_of (by decide) (Nat.le_of_ble_eq_true rfl) ?_
  intro p e s m below meth c ls E hr hk hnm hM hl
  have hx := E.x
  have hb := E.b
  have E : mw_E p m c bb_Mo_outside 3 s _ D z "IdentityIssuerModel" := E
  have hl : lv_has ls 3 [(0, .int (v0)), (1, .int (lo)), (2, .int (hi))] := hl
  have hS : va_S (mw_A z) s.heap s.heap [] := va_S.rf
  refine lv_iload_n hx hb dd_Mo_outside_0 rfl (lv_at hl 0 rfl) ?_
  refine lv_iload_n hx hb dd_Mo_outside_1 rfl (lv_at hl 1 rfl) ?_
  refine lv_icmp_lt (tgt := 10) hx hb dd_Mo_outside_2 (by decide) (fun h2 => ?_) (fun h2 => ?_)
  ·
    refine lv_iconst (v := nI 1) hx hb dd_Mo_outside_10 (by decide) ?_
    refine lv_goto (tgt := 15) hx hb dd_Mo_outside_11 (by decide) ?_
    refine mr_z E hr hk hM hS (by decide) (by decide) (rfl) ?_ dd_Mo_outside_15
    exact ⟨by rw [zI_t (by rw [mo_out, decide_eq_true h2]; rfl)]; rfl, rfl⟩
  ·
    refine lv_iload_n hx hb dd_Mo_outside_5 rfl (lv_at hl 0 rfl) ?_
    refine lv_iload_n hx hb dd_Mo_outside_6 rfl (lv_at hl 2 rfl) ?_
    refine lv_icmp_le (tgt := 14) hx hb dd_Mo_outside_7 (by decide) (fun h7 => ?_) (fun h7 => ?_)
    ·
      refine lv_iconst (v := nI 0) hx hb dd_Mo_outside_14 (by decide) ?_
      refine mr_z E hr hk hM hS (by decide) (by decide) (rfl) ?_ dd_Mo_outside_15
      exact ⟨by rw [zI_f (by rw [mo_out, decide_eq_false h2, decide_eq_false (Int32.not_lt.mpr h7)]; rfl)]; rfl, rfl⟩
    ·
      refine lv_iconst (v := nI 1) hx hb dd_Mo_outside_10 (by decide) ?_
      refine lv_goto (tgt := 15) hx hb dd_Mo_outside_11 (by decide) ?_
      refine mr_z E hr hk hM hS (by decide) (by decide) (rfl) ?_ dd_Mo_outside_15
      exact ⟨by rw [zI_t (by rw [mo_out, decide_eq_true (Int32.not_le.mp h7), Bool.or_true])]; rfl, rfl⟩
theorem cc_Mo_attest_m (l : Launch) (D : va_G) (z : Nat) (M : mw_M) (mm : Nat) (F : Nat → Value) (k : Nat) (i s0 : Int32) (wm : M mm = some (.inr (13, mo_l F))) (hf4 : F 4 = .int (nI k)) (hn : k < 2 ^ 30) (hm : xi_has k i = false) : mw_C l yy_Mo_attest bb_Mo_attest 4 (Option.some Jvm.ClassFile.FieldType.int) 1 22 0 0 D z M [.ref mm, .int (i), .int (s0)] (fun v M' => v = some (.int (-1001)) ∧ M' = M) := by
  refine mw_of (by decide) (Nat.le_of_ble_eq_true rfl) ?_
  intro p e s m below meth c ls E hr hk hnm hM hl
  have hx := E.x
  have hb := E.b
  have E : mw_E p m c bb_Mo_attest 4 s _ D z "IdentityIssuerModel" := E
  have hl : lv_has ls 4 [(0, .ref mm), (1, .int (i)), (2, .int (s0))] := hl
  have hS : va_S (mw_A z) s.heap s.heap [] := va_S.rf
  refine lv_iload_n hx hb dd_Mo_attest_0 rfl (lv_at hl 1 rfl) ?_
  refine lv_iconst (v := nI 0) hx hb dd_Mo_attest_1 (by decide) ?_
  refine lv_aload_n hx hb dd_Mo_attest_2 rfl (lv_at hl 0 rfl) ?_
  refine gf_Mo_150 E hM wm ((mo_at (by decide)).trans (congrArg some hf4)) dd_Mo_attest_3 ?_
  refine lv_iconst (v := nI 1) hx hb dd_Mo_attest_6 (by decide) ?_
  refine lv_isub hx hb dd_Mo_attest_7 ?_
  refine mw_S (As := [.int (i), .int (nI 0), .int ((nI k) - (nI 1))]) (rest := []) E (cc_Mo_outside l D z (M) (i) (nI 0) (nI k - nI 1)) ky_Mo_outside kv_Mo_outside tw_Mo_118 hM hS rfl hl.1 rfl (Nat.le_of_ble_eq_true rfl) dd_Mo_attest_8 (by decide) (by decide) (fun v M1 H locs hp hM hS => ?_)
  obtain ⟨rfl, hq⟩ := hp
  have hq := hq.symm
  subst hq
  rw [mo_out_has (by omega)]
  refine W.eq (g2 := F0 m 11 ls [.int (zI (!xi_has k i))]) rfl ?_
  refine lv_if_eq (tgt := 18) hx hb dd_Mo_attest_11 (by decide) (fun h11 => ?_) (fun h11 => ?_)
  ·
    exact absurd (zI_0.mp h11) (by rw [hm]; decide)
  ·
    refine lv_sipush (v := -1001) hx hb dd_Mo_attest_14 (by decide) ?_
    refine mr_i E hr hk hM hS (by decide) (by decide) ?_ dd_Mo_attest_17
    exact ⟨rfl, rfl⟩
theorem cc_Mo_sync_m (l : Launch) (D : va_G) (z : Nat) (M : mw_M) (mm : Nat) (F : Nat → Value) (k : Nat) (i : Int32) (wm : M mm = some (.inr (13, mo_l F))) (hf23 : F 23 = .int (nI k)) (hn : k < 2 ^ 30) (hm : xi_has k i = false) : mw_C l yy_Mo_sync bb_Mo_sync 5 (Option.some Jvm.ClassFile.FieldType.int) 1 22 0 0 D z M [.ref mm, .int (i)] (fun v M' => v = some (.int (-1001)) ∧ M' = M) := by
  refine mw_of (by decide) (Nat.le_of_ble_eq_true rfl) ?_
  intro p e s m below meth c ls E hr hk hnm hM hl
  have hx := E.x
  have hb := E.b
  have E : mw_E p m c bb_Mo_sync 5 s _ D z "IdentityIssuerModel" := E
  have hl : lv_has ls 5 [(0, .ref mm), (1, .int (i))] := hl
  have hS : va_S (mw_A z) s.heap s.heap [] := va_S.rf
  refine lv_iload_n hx hb dd_Mo_sync_0 rfl (lv_at hl 1 rfl) ?_
  refine lv_iconst (v := nI 0) hx hb dd_Mo_sync_1 (by decide) ?_
  refine lv_aload_n hx hb dd_Mo_sync_2 rfl (lv_at hl 0 rfl) ?_
  refine gf_Mo_173 E hM wm ((mo_at (by decide)).trans (congrArg some hf23)) dd_Mo_sync_3 ?_
  refine lv_iconst (v := nI 1) hx hb dd_Mo_sync_6 (by decide) ?_
  refine lv_isub hx hb dd_Mo_sync_7 ?_
  refine mw_S (As := [.int (i), .int (nI 0), .int ((nI k) - (nI 1))]) (rest := []) E (cc_Mo_outside l D z (M) (i) (nI 0) (nI k - nI 1)) ky_Mo_outside kv_Mo_outside tw_Mo_118 hM hS rfl hl.1 rfl (Nat.le_of_ble_eq_true rfl) dd_Mo_sync_8 (by decide) (by decide) (fun v M1 H locs hp hM hS => ?_)
  obtain ⟨rfl, hq⟩ := hp
  have hq := hq.symm
  subst hq
  rw [mo_out_has (by omega)]
  refine W.eq (g2 := F0 m 11 ls [.int (zI (!xi_has k i))]) rfl ?_
  refine lv_if_eq (tgt := 18) hx hb dd_Mo_sync_11 (by decide) (fun h11 => ?_) (fun h11 => ?_)
  ·
    exact absurd (zI_0.mp h11) (by rw [hm]; decide)
  ·
    refine lv_sipush (v := -1001) hx hb dd_Mo_sync_14 (by decide) ?_
    refine mr_i E hr hk hM hS (by decide) (by decide) ?_ dd_Mo_sync_17
    exact ⟨rfl, rfl⟩
theorem cc_Mo_fetch_m (l : Launch) (D : va_G) (z : Nat) (M : mw_M) (mm : Nat) (F : Nat → Value) (k : Nat) (i s0 : Int32) (wm : M mm = some (.inr (13, mo_l F))) (hf23 : F 23 = .int (nI k)) (hn : k < 2 ^ 30) (hm : xi_has k i = false) : mw_C l yy_Mo_fetch bb_Mo_fetch 3 (Option.some Jvm.ClassFile.FieldType.int) 1 22 0 0 D z M [.ref mm, .int (i), .int (s0)] (fun v M' => v = some (.int (-1001)) ∧ M' = M) := by
  refine mw_of (by decide) (Nat.le_of_ble_eq_true rfl) ?_
  intro p e s m below meth c ls E hr hk hnm hM hl
  have hx := E.x
  have hb := E.b
  have E : mw_E p m c bb_Mo_fetch 3 s _ D z "IdentityIssuerModel" := E
  have hl : lv_has ls 3 [(0, .ref mm), (1, .int (i)), (2, .int (s0))] := hl
  have hS : va_S (mw_A z) s.heap s.heap [] := va_S.rf
  refine lv_iload_n hx hb dd_Mo_fetch_0 rfl (lv_at hl 1 rfl) ?_
  refine lv_iconst (v := nI 0) hx hb dd_Mo_fetch_1 (by decide) ?_
  refine lv_aload_n hx hb dd_Mo_fetch_2 rfl (lv_at hl 0 rfl) ?_
  refine gf_Mo_173 E hM wm ((mo_at (by decide)).trans (congrArg some hf23)) dd_Mo_fetch_3 ?_
  refine lv_iconst (v := nI 1) hx hb dd_Mo_fetch_6 (by decide) ?_
  refine lv_isub hx hb dd_Mo_fetch_7 ?_
  refine mw_S (As := [.int (i), .int (nI 0), .int ((nI k) - (nI 1))]) (rest := []) E (cc_Mo_outside l D z (M) (i) (nI 0) (nI k - nI 1)) ky_Mo_outside kv_Mo_outside tw_Mo_118 hM hS rfl hl.1 rfl (Nat.le_of_ble_eq_true rfl) dd_Mo_fetch_8 (by decide) (by decide) (fun v M1 H locs hp hM hS => ?_)
  obtain ⟨rfl, hq⟩ := hp
  have hq := hq.symm
  subst hq
  rw [mo_out_has (by omega)]
  refine W.eq (g2 := F0 m 11 ls [.int (zI (!xi_has k i))]) rfl ?_
  refine lv_if_eq (tgt := 18) hx hb dd_Mo_fetch_11 (by decide) (fun h11 => ?_) (fun h11 => ?_)
  ·
    exact absurd (zI_0.mp h11) (by rw [hm]; decide)
  ·
    refine lv_sipush (v := -1001) hx hb dd_Mo_fetch_14 (by decide) ?_
    refine mr_i E hr hk hM hS (by decide) (by decide) ?_ dd_Mo_fetch_17
    exact ⟨rfl, rfl⟩
theorem cc_Mo_watch_m (l : Launch) (D : va_G) (z : Nat) (M : mw_M) (mm : Nat) (F : Nat → Value) (k : Nat) (i s0 : Int32) (wm : M mm = some (.inr (13, mo_l F))) (hf23 : F 23 = .int (nI k)) (hn : k < 2 ^ 30) (hm : xi_has k i = false) : mw_C l yy_Mo_watch bb_Mo_watch 3 (Option.some Jvm.ClassFile.FieldType.int) 1 22 0 0 D z M [.ref mm, .int (i), .int (s0)] (fun v M' => v = some (.int (-1001)) ∧ M' = M) := by
  refine mw_of (by decide) (Nat.le_of_ble_eq_true rfl) ?_
  intro p e s m below meth c ls E hr hk hnm hM hl
  have hx := E.x
  have hb := E.b
  have E : mw_E p m c bb_Mo_watch 3 s _ D z "IdentityIssuerModel" := E
  have hl : lv_has ls 3 [(0, .ref mm), (1, .int (i)), (2, .int (s0))] := hl
  have hS : va_S (mw_A z) s.heap s.heap [] := va_S.rf
  refine lv_iload_n hx hb dd_Mo_watch_0 rfl (lv_at hl 1 rfl) ?_
  refine lv_iconst (v := nI 0) hx hb dd_Mo_watch_1 (by decide) ?_
  refine lv_aload_n hx hb dd_Mo_watch_2 rfl (lv_at hl 0 rfl) ?_
  refine gf_Mo_173 E hM wm ((mo_at (by decide)).trans (congrArg some hf23)) dd_Mo_watch_3 ?_
  refine lv_iconst (v := nI 1) hx hb dd_Mo_watch_6 (by decide) ?_
  refine lv_isub hx hb dd_Mo_watch_7 ?_
  refine mw_S (As := [.int (i), .int (nI 0), .int ((nI k) - (nI 1))]) (rest := []) E (cc_Mo_outside l D z (M) (i) (nI 0) (nI k - nI 1)) ky_Mo_outside kv_Mo_outside tw_Mo_118 hM hS rfl hl.1 rfl (Nat.le_of_ble_eq_true rfl) dd_Mo_watch_8 (by decide) (by decide) (fun v M1 H locs hp hM hS => ?_)
  obtain ⟨rfl, hq⟩ := hp
  have hq := hq.symm
  subst hq
  rw [mo_out_has (by omega)]
  refine W.eq (g2 := F0 m 11 ls [.int (zI (!xi_has k i))]) rfl ?_
  refine lv_if_eq (tgt := 18) hx hb dd_Mo_watch_11 (by decide) (fun h11 => ?_) (fun h11 => ?_)
  ·
    exact absurd (zI_0.mp h11) (by rw [hm]; decide)
  ·
    refine lv_sipush (v := -1001) hx hb dd_Mo_watch_14 (by decide) ?_
    refine mr_i E hr hk hM hS (by decide) (by decide) ?_ dd_Mo_watch_17
    exact ⟨rfl, rfl⟩
theorem cc_Mo_poll_m (l : Launch) (D : va_G) (z : Nat) (M : mw_M) (mm : Nat) (F : Nat → Value) (k : Nat) (i : Int32) (wm : M mm = some (.inr (13, mo_l F))) (hf33 : F 33 = .int (nI k)) (hn : k < 2 ^ 30) (hm : xi_has k i = false) : mw_C l yy_Mo_poll bb_Mo_poll 5 (Option.some Jvm.ClassFile.FieldType.int) 1 22 0 0 D z M [.ref mm, .int (i)] (fun v M' => v = some (.int (-1001)) ∧ M' = M) := by
  refine mw_of (by decide) (Nat.le_of_ble_eq_true rfl) ?_
  intro p e s m below meth c ls E hr hk hnm hM hl
  have hx := E.x
  have hb := E.b
  have E : mw_E p m c bb_Mo_poll 5 s _ D z "IdentityIssuerModel" := E
  have hl : lv_has ls 5 [(0, .ref mm), (1, .int (i))] := hl
  have hS : va_S (mw_A z) s.heap s.heap [] := va_S.rf
  refine lv_iload_n hx hb dd_Mo_poll_0 rfl (lv_at hl 1 rfl) ?_
  refine lv_iconst (v := nI 0) hx hb dd_Mo_poll_1 (by decide) ?_
  refine lv_aload_n hx hb dd_Mo_poll_2 rfl (lv_at hl 0 rfl) ?_
  refine gf_Mo_226 E hM wm ((mo_at (by decide)).trans (congrArg some hf33)) dd_Mo_poll_3 ?_
  refine lv_iconst (v := nI 1) hx hb dd_Mo_poll_6 (by decide) ?_
  refine lv_isub hx hb dd_Mo_poll_7 ?_
  refine mw_S (As := [.int (i), .int (nI 0), .int ((nI k) - (nI 1))]) (rest := []) E (cc_Mo_outside l D z (M) (i) (nI 0) (nI k - nI 1)) ky_Mo_outside kv_Mo_outside tw_Mo_118 hM hS rfl hl.1 rfl (Nat.le_of_ble_eq_true rfl) dd_Mo_poll_8 (by decide) (by decide) (fun v M1 H locs hp hM hS => ?_)
  obtain ⟨rfl, hq⟩ := hp
  have hq := hq.symm
  subst hq
  rw [mo_out_has (by omega)]
  refine W.eq (g2 := F0 m 11 ls [.int (zI (!xi_has k i))]) rfl ?_
  refine lv_if_eq (tgt := 18) hx hb dd_Mo_poll_11 (by decide) (fun h11 => ?_) (fun h11 => ?_)
  ·
    exact absurd (zI_0.mp h11) (by rw [hm]; decide)
  ·
    refine lv_sipush (v := -1001) hx hb dd_Mo_poll_14 (by decide) ?_
    refine mr_i E hr hk hM hS (by decide) (by decide) ?_ dd_Mo_poll_17
    exact ⟨rfl, rfl⟩
theorem cc_Mo_written_m (l : Launch) (D : va_G) (z : Nat) (M : mw_M) (mm : Nat) (F : Nat → Value) (k : Nat) (i s0 : Int32) (wm : M mm = some (.inr (13, mo_l F))) (hf41 : F 41 = .int (nI k)) (hn : k < 2 ^ 30) (hm : xi_has k i = false) : mw_C l yy_Mo_written bb_Mo_written 3 (Option.some Jvm.ClassFile.FieldType.int) 1 22 0 0 D z M [.ref mm, .int (i), .int (s0)] (fun v M' => v = some (.int (-1001)) ∧ M' = M) := by
  refine mw_of (by decide) (Nat.le_of_ble_eq_true rfl) ?_
  intro p e s m below meth c ls E hr hk hnm hM hl
  have hx := E.x
  have hb := E.b
  have E : mw_E p m c bb_Mo_written 3 s _ D z "IdentityIssuerModel" := E
  have hl : lv_has ls 3 [(0, .ref mm), (1, .int (i)), (2, .int (s0))] := hl
  have hS : va_S (mw_A z) s.heap s.heap [] := va_S.rf
  refine lv_iload_n hx hb dd_Mo_written_0 rfl (lv_at hl 1 rfl) ?_
  refine lv_iconst (v := nI 0) hx hb dd_Mo_written_1 (by decide) ?_
  refine lv_aload_n hx hb dd_Mo_written_2 rfl (lv_at hl 0 rfl) ?_
  refine gf_Mo_208 E hM wm ((mo_at (by decide)).trans (congrArg some hf41)) dd_Mo_written_3 ?_
  refine lv_iconst (v := nI 1) hx hb dd_Mo_written_6 (by decide) ?_
  refine lv_isub hx hb dd_Mo_written_7 ?_
  refine mw_S (As := [.int (i), .int (nI 0), .int ((nI k) - (nI 1))]) (rest := []) E (cc_Mo_outside l D z (M) (i) (nI 0) (nI k - nI 1)) ky_Mo_outside kv_Mo_outside tw_Mo_118 hM hS rfl hl.1 rfl (Nat.le_of_ble_eq_true rfl) dd_Mo_written_8 (by decide) (by decide) (fun v M1 H locs hp hM hS => ?_)
  obtain ⟨rfl, hq⟩ := hp
  have hq := hq.symm
  subst hq
  rw [mo_out_has (by omega)]
  refine W.eq (g2 := F0 m 11 ls [.int (zI (!xi_has k i))]) rfl ?_
  refine lv_if_eq (tgt := 18) hx hb dd_Mo_written_11 (by decide) (fun h11 => ?_) (fun h11 => ?_)
  ·
    exact absurd (zI_0.mp h11) (by rw [hm]; decide)
  ·
    refine lv_sipush (v := -1001) hx hb dd_Mo_written_14 (by decide) ?_
    refine mr_i E hr hk hM hS (by decide) (by decide) ?_ dd_Mo_written_17
    exact ⟨rfl, rfl⟩
theorem cc_Mo_svid_m (l : Launch) (D : va_G) (z : Nat) (M : mw_M) (mm : Nat) (F : Nat → Value) (k : Nat) (i s0 : Int32) (wm : M mm = some (.inr (13, mo_l F))) (hf41 : F 41 = .int (nI k)) (hn : k < 2 ^ 30) (hm : xi_has k i = false) : mw_C l yy_Mo_svid bb_Mo_svid 3 (Option.some Jvm.ClassFile.FieldType.int) 1 22 0 0 D z M [.ref mm, .int (i), .int (s0)] (fun v M' => v = some (.int (-1001)) ∧ M' = M) := by
  refine mw_of (by decide) (Nat.le_of_ble_eq_true rfl) ?_
  intro p e s m below meth c ls E hr hk hnm hM hl
  have hx := E.x
  have hb := E.b
  have E : mw_E p m c bb_Mo_svid 3 s _ D z "IdentityIssuerModel" := E
  have hl : lv_has ls 3 [(0, .ref mm), (1, .int (i)), (2, .int (s0))] := hl
  have hS : va_S (mw_A z) s.heap s.heap [] := va_S.rf
  refine lv_iload_n hx hb dd_Mo_svid_0 rfl (lv_at hl 1 rfl) ?_
  refine lv_iconst (v := nI 0) hx hb dd_Mo_svid_1 (by decide) ?_
  refine lv_aload_n hx hb dd_Mo_svid_2 rfl (lv_at hl 0 rfl) ?_
  refine gf_Mo_208 E hM wm ((mo_at (by decide)).trans (congrArg some hf41)) dd_Mo_svid_3 ?_
  refine lv_iconst (v := nI 1) hx hb dd_Mo_svid_6 (by decide) ?_
  refine lv_isub hx hb dd_Mo_svid_7 ?_
  refine mw_S (As := [.int (i), .int (nI 0), .int ((nI k) - (nI 1))]) (rest := []) E (cc_Mo_outside l D z (M) (i) (nI 0) (nI k - nI 1)) ky_Mo_outside kv_Mo_outside tw_Mo_118 hM hS rfl hl.1 rfl (Nat.le_of_ble_eq_true rfl) dd_Mo_svid_8 (by decide) (by decide) (fun v M1 H locs hp hM hS => ?_)
  obtain ⟨rfl, hq⟩ := hp
  have hq := hq.symm
  subst hq
  rw [mo_out_has (by omega)]
  refine W.eq (g2 := F0 m 11 ls [.int (zI (!xi_has k i))]) rfl ?_
  refine lv_if_ne (tgt := 23) hx hb dd_Mo_svid_11 (by decide) (fun h11 => ?_) (fun h11 => ?_)
  ·
    refine lv_sipush (v := -1001) hx hb dd_Mo_svid_23 (by decide) ?_
    refine lv_goto (tgt := 39) hx hb dd_Mo_svid_26 (by decide) ?_
    refine mr_i E hr hk hM hS (by decide) (by decide) ?_ dd_Mo_svid_39
    exact ⟨rfl, rfl⟩
  ·
    exact absurd (zI_0.mp h11) (by rw [hm]; decide)
theorem cc_Mo_entry_m (l : Launch) (D : va_G) (z : Nat) (M : mw_M) (mm : Nat) (F : Nat → Value) (k : Nat) (i j s0 t0 f0 : Int32) (wm : M mm = some (.inr (13, mo_l F))) (hf4 : F 4 = .int (nI k)) (hn : k < 2 ^ 30) (hm : xi_has k i = false ∨ xi_has k j = false) : mw_C l yy_Mo_entry bb_Mo_entry 8 (Option.some Jvm.ClassFile.FieldType.int) 1 22 0 0 D z M [.ref mm, .int (i), .int (j), .int (s0), .int (t0), .int (f0)] (fun v M' => v = some (.int (-1001)) ∧ M' = M) := by
  refine mw_of (by decide) (Nat.le_of_ble_eq_true rfl) ?_
  intro p e s m below meth c ls E hr hk hnm hM hl
  have hx := E.x
  have hb := E.b
  have E : mw_E p m c bb_Mo_entry 8 s _ D z "IdentityIssuerModel" := E
  have hl : lv_has ls 8 [(0, .ref mm), (1, .int (i)), (2, .int (j)), (3, .int (s0)), (4, .int (t0)), (5, .int (f0))] := hl
  have hS : va_S (mw_A z) s.heap s.heap [] := va_S.rf
  refine lv_iload_n hx hb dd_Mo_entry_0 rfl (lv_at hl 1 rfl) ?_
  refine lv_iconst (v := nI 0) hx hb dd_Mo_entry_1 (by decide) ?_
  refine lv_aload_n hx hb dd_Mo_entry_2 rfl (lv_at hl 0 rfl) ?_
  refine gf_Mo_150 E hM wm ((mo_at (by decide)).trans (congrArg some hf4)) dd_Mo_entry_3 ?_
  refine lv_iconst (v := nI 1) hx hb dd_Mo_entry_6 (by decide) ?_
  refine lv_isub hx hb dd_Mo_entry_7 ?_
  refine mw_S (As := [.int (i), .int (nI 0), .int ((nI k) - (nI 1))]) (rest := []) E (cc_Mo_outside l D z (M) (i) (nI 0) (nI k - nI 1)) ky_Mo_outside kv_Mo_outside tw_Mo_118 hM hS rfl hl.1 rfl (Nat.le_of_ble_eq_true rfl) dd_Mo_entry_8 (by decide) (by decide) (fun v M1 H locs hp hM hS => ?_)
  obtain ⟨rfl, hq⟩ := hp
  have hq := hq.symm
  subst hq
  rw [mo_out_has (by omega)]
  refine W.eq (g2 := F0 m 11 ls [.int (zI (!xi_has k i))]) rfl ?_
  refine lv_if_ne (tgt := 28) hx hb dd_Mo_entry_11 (by decide) (fun h11 => ?_) (fun h11 => ?_)
  ·
    refine lv_sipush (v := -1001) hx hb dd_Mo_entry_28 (by decide) ?_
    refine mr_i E hr hk hM hS (by decide) (by decide) ?_ dd_Mo_entry_31
    exact ⟨rfl, rfl⟩
  ·
    refine lv_iload_n hx hb dd_Mo_entry_14 rfl (lv_at hl 2 rfl) ?_
    refine lv_iconst (v := nI 0) hx hb dd_Mo_entry_15 (by decide) ?_
    refine lv_aload_n hx hb dd_Mo_entry_16 rfl (lv_at hl 0 rfl) ?_
    refine gf_Mo_150 E hM wm ((mo_at (by decide)).trans (congrArg some hf4)) dd_Mo_entry_17 ?_
    refine lv_iconst (v := nI 1) hx hb dd_Mo_entry_20 (by decide) ?_
    refine lv_isub hx hb dd_Mo_entry_21 ?_
    refine mw_S (As := [.int (j), .int (nI 0), .int ((nI k) - (nI 1))]) (rest := []) E (cc_Mo_outside l D z (M) (j) (nI 0) (nI k - nI 1)) ky_Mo_outside kv_Mo_outside tw_Mo_118 hM hS rfl hl.1 rfl (Nat.le_of_ble_eq_true rfl) dd_Mo_entry_22 (by decide) (by decide) (fun v M1 H locs hp hM hS => ?_)
    obtain ⟨rfl, hq⟩ := hp
    have hq := hq.symm
    subst hq
    rw [mo_out_has (by omega)]
    refine W.eq (g2 := F0 m 25 ls [.int (zI (!xi_has k j))]) rfl ?_
    refine lv_if_eq (tgt := 32) hx hb dd_Mo_entry_25 (by decide) (fun h25 => ?_) (fun h25 => ?_)
    ·
      exact absurd hm (fun q => q.elim (fun q => absurd (zI_0.mp h11) (by rw [q]; decide)) (fun q => absurd (zI_0.mp h25) (by rw [q]; decide)))
    ·
      refine lv_sipush (v := -1001) hx hb dd_Mo_entry_28 (by decide) ?_
      refine mr_i E hr hk hM hS (by decide) (by decide) ?_ dd_Mo_entry_31
      exact ⟨rfl, rfl⟩
theorem cc_Mo_remove_m (l : Launch) (D : va_G) (z : Nat) (M : mw_M) (mm : Nat) (F : Nat → Value) (k : Nat) (i : Int32) (wm : M mm = some (.inr (13, mo_l F))) (hf15 : F 15 = .int (nI k)) (hn : k < 2 ^ 30) (hm : xi_has k i = false) : mw_C l yy_Mo_remove bb_Mo_remove 2 (Option.some Jvm.ClassFile.FieldType.boolean) 1 22 0 0 D z M [.ref mm, .int (i)] (fun v M' => v = some (.int 0) ∧ M' = M) := by
  refine mw_of (by decide) (Nat.le_of_ble_eq_true rfl) ?_
  intro p e s m below meth c ls E hr hk hnm hM hl
  have hx := E.x
  have hb := E.b
  have E : mw_E p m c bb_Mo_remove 2 s _ D z "IdentityIssuerModel" := E
  have hl : lv_has ls 2 [(0, .ref mm), (1, .int (i))] := hl
  have hS : va_S (mw_A z) s.heap s.heap [] := va_S.rf
  refine lv_iload_n hx hb dd_Mo_remove_0 rfl (lv_at hl 1 rfl) ?_
  refine lv_iconst (v := nI 0) hx hb dd_Mo_remove_1 (by decide) ?_
  refine lv_aload_n hx hb dd_Mo_remove_2 rfl (lv_at hl 0 rfl) ?_
  refine gf_Mo_167 E hM wm ((mo_at (by decide)).trans (congrArg some hf15)) dd_Mo_remove_3 ?_
  refine lv_iconst (v := nI 1) hx hb dd_Mo_remove_6 (by decide) ?_
  refine lv_isub hx hb dd_Mo_remove_7 ?_
  refine mw_S (As := [.int (i), .int (nI 0), .int ((nI k) - (nI 1))]) (rest := []) E (cc_Mo_outside l D z (M) (i) (nI 0) (nI k - nI 1)) ky_Mo_outside kv_Mo_outside tw_Mo_118 hM hS rfl hl.1 rfl (Nat.le_of_ble_eq_true rfl) dd_Mo_remove_8 (by decide) (by decide) (fun v M1 H locs hp hM hS => ?_)
  obtain ⟨rfl, hq⟩ := hp
  have hq := hq.symm
  subst hq
  rw [mo_out_has (by omega)]
  refine W.eq (g2 := F0 m 11 ls [.int (zI (!xi_has k i))]) rfl ?_
  refine lv_if_ne (tgt := 23) hx hb dd_Mo_remove_11 (by decide) (fun h11 => ?_) (fun h11 => ?_)
  ·
    refine lv_iconst (v := nI 0) hx hb dd_Mo_remove_23 (by decide) ?_
    refine mr_z E hr hk hM hS (by decide) (by decide) (rfl) ?_ dd_Mo_remove_24
    exact ⟨rfl, rfl⟩
  ·
    exact absurd (zI_0.mp h11) (by rw [hm]; decide)
theorem cc_Mo_friends (l : Launch) (D : va_G) (z : Nat) (M : mw_M) (mm : Nat) (F : Nat → Value) (x0 : Int32) (wm : M mm = some (.inr (13, mo_l F))) (hf45 : F 45 = .int (x0)) : mw_C l yy_Mo_friends bb_Mo_friends 1 (Option.some Jvm.ClassFile.FieldType.int) 0 0 0 0 D z M [.ref mm] (fun v M' => v = some (.int x0) ∧ M' = M) := by
  refine mw_of (by decide) (Nat.le_of_ble_eq_true rfl) ?_
  intro p e s m below meth c ls E hr hk hnm hM hl
  have hx := E.x
  have hb := E.b
  have E : mw_E p m c bb_Mo_friends 1 s _ D z "IdentityIssuerModel" := E
  have hl : lv_has ls 1 [(0, .ref mm)] := hl
  have hS : va_S (mw_A z) s.heap s.heap [] := va_S.rf
  refine lv_aload_n hx hb dd_Mo_friends_0 rfl (lv_at hl 0 rfl) ?_
  refine gf_Mo_217 E hM wm ((mo_at (by decide)).trans (congrArg some hf45)) dd_Mo_friends_1 ?_
  refine mr_i E hr hk hM hS (by decide) (by decide) ?_ dd_Mo_friends_4
  exact ⟨rfl, rfl⟩
theorem cc_Mo_key (l : Launch) (D : va_G) (z : Nat) (M : mw_M) (mm : Nat) (F : Nat → Value) (r k : Nat) (f : Nat → Int32) (i : Int32) (wm : M mm = some (.inr (13, mo_l F))) (hf43 : F 43 = .int (nI k)) (hf44 : F 44 = .ref r) (wr : M r = some (.inl (D.1 100, 4, .inl f))) (hn : k ≤ 4) : mw_C l yy_Mo_key bb_Mo_key 2 (Option.some Jvm.ClassFile.FieldType.int) 1 22 0 0 D z M [.ref mm, .int (i)] (fun v M' => v = some (.int (if xi_has k i = true then f i.toNatClampNeg else -1001)) ∧ M' = M) := by
  refine mw_of (by decide) (Nat.le_of_ble_eq_true rfl) ?_
  intro p e s m below meth c ls E hr hk hnm hM hl
  have hx := E.x
  have hb := E.b
  have E : mw_E p m c bb_Mo_key 2 s _ D z "IdentityIssuerModel" := E
  have hl : lv_has ls 2 [(0, .ref mm), (1, .int (i))] := hl
  have hS : va_S (mw_A z) s.heap s.heap [] := va_S.rf
  refine lv_iload_n hx hb dd_Mo_key_0 rfl (lv_at hl 1 rfl) ?_
  refine lv_iconst (v := nI 0) hx hb dd_Mo_key_1 (by decide) ?_
  refine lv_aload_n hx hb dd_Mo_key_2 rfl (lv_at hl 0 rfl) ?_
  refine gf_Mo_211 E hM wm ((mo_at (by decide)).trans (congrArg some hf43)) dd_Mo_key_3 ?_
  refine lv_iconst (v := nI 1) hx hb dd_Mo_key_6 (by decide) ?_
  refine lv_isub hx hb dd_Mo_key_7 ?_
  refine mw_S (As := [.int (i), .int (nI 0), .int ((nI k) - (nI 1))]) (rest := []) E (cc_Mo_outside l D z (M) (i) (nI 0) (nI k - nI 1)) ky_Mo_outside kv_Mo_outside tw_Mo_118 hM hS rfl hl.1 rfl (Nat.le_of_ble_eq_true rfl) dd_Mo_key_8 (by decide) (by decide) (fun v M1 H locs hp hM hS => ?_)
  obtain ⟨rfl, hq⟩ := hp
  have hq := hq.symm
  subst hq
  rw [mo_out_has (by omega)]
  refine W.eq (g2 := F0 m 11 ls [.int (zI (!xi_has k i))]) rfl ?_
  refine lv_if_eq (tgt := 20) hx hb dd_Mo_key_11 (by decide) (fun h11 => ?_) (fun h11 => ?_)
  ·
    have h11 : xi_has k i = true := by have := zI_0.mp h11; cases hq : xi_has k i <;> rw [hq] at this <;> first | rfl | exact absurd this (by decide)
    obtain ⟨j, hj, rfl⟩ := xi_has_of h11
    refine lv_aload_n hx hb dd_Mo_key_20 rfl (lv_at hl 0 rfl) ?_
    refine gf_Mo_99 E hM wm ((mo_at (by decide)).trans (congrArg some hf44)) dd_Mo_key_21 ?_
    refine lv_iload_n hx hb dd_Mo_key_24 rfl (lv_at hl 1 rfl) ?_
    refine mw_iald hx hb E.K hM 0 wr rfl (vp_in_nI (by omega) (by omega)) dd_Mo_key_25 ?_
    refine mw_topi (y := f j) (by rw [nI_clamp (by omega)]) ?_
    refine mr_i E hr hk hM hS (by decide) (by decide) ?_ dd_Mo_key_26
    exact ⟨by rw [if_pos h11, nI_clamp (by omega)], rfl⟩
  ·
    have h11 : xi_has k i = false := by cases hq : xi_has k i <;> first | rfl | exact absurd (by rw [hq]; rfl) h11
    refine lv_sipush (v := -1001) hx hb dd_Mo_key_14 (by decide) ?_
    refine lv_goto (tgt := 26) hx hb dd_Mo_key_17 (by decide) ?_
    refine mr_i E hr hk hM hS (by decide) (by decide) ?_ dd_Mo_key_26
    exact ⟨by rw [if_neg (by rw [h11]; decide)], rfl⟩
theorem cc_Mo_tick_y (l : Launch) (D : va_G) (z : Nat) (M : mw_M) (mm : Nat) (F : Nat → Value) (cl j : Nat) (wm : M mm = some (.inr (13, mo_l F))) (hf1 : F 1 = .int (nI cl)) (hj1 : 1 ≤ j) (hj2 : j ≤ 64) : mw_C l yy_Mo_tick bb_Mo_tick 2 (Option.some Jvm.ClassFile.FieldType.int) 1 22 0 0 D z M [.ref mm, .int (nI j)] (fun v M' => v = some (.int (nI (cl + j))) ∧ M' mm = some (.inr (13, mo_l (va_up F 1 (.int (nI (cl + j)))))) ∧ mw_fr (fun q => q = mm) M M') := by
  refine mw_of (by decide) (Nat.le_of_ble_eq_true rfl) ?_
  intro p e s m below meth c ls E hr hk hnm hM hl
  have hx := E.x
  have hb := E.b
  have E : mw_E p m c bb_Mo_tick 2 s _ D z "IdentityIssuerModel" := E
  have hl : lv_has ls 2 [(0, .ref mm), (1, .int (nI j))] := hl
  have hS : va_S (mw_A z) s.heap s.heap [] := va_S.rf
  have hF : mw_fr (fun q => q = mm) M M := mw_fr.rf
  refine lv_iload_n hx hb dd_Mo_tick_0 rfl (lv_at hl 1 rfl) ?_
  refine lv_iconst (v := nI 1) hx hb dd_Mo_tick_1 (by decide) ?_
  refine lv_bipush (v := nI 64) hx hb dd_Mo_tick_2 (by decide) ?_
  refine mw_S (As := [.int (nI j), .int (nI 1), .int (nI 64)]) (rest := []) E (cc_Mo_outside l D z (M) (nI j) (nI 1) (nI 64)) ky_Mo_outside kv_Mo_outside tw_Mo_118 hM hS rfl hl.1 rfl (Nat.le_of_ble_eq_true rfl) dd_Mo_tick_4 (by decide) (by decide) (fun v M1 H locs hp hM hS => ?_)
  obtain ⟨rfl, hq⟩ := hp
  have hq := hq.symm
  subst hq
  refine W.eq (g2 := F0 m 7 ls [.int (zI (mo_out (nI j) (nI 1) (nI 64)))]) rfl ?_
  refine lv_if_eq (tgt := 14) hx hb dd_Mo_tick_7 (by decide) (fun h7 => ?_) (fun h7 => ?_)
  ·
    refine lv_aload_n hx hb dd_Mo_tick_14 rfl (lv_at hl 0 rfl) ?_
    refine lv_dup hx hb dd_Mo_tick_15 rfl ?_
    refine gf_Mo_180 E hM wm ((mo_at (by decide)).trans (congrArg some hf1)) dd_Mo_tick_16 ?_
    refine lv_iload_n hx hb dd_Mo_tick_19 rfl (lv_at hl 1 rfl) ?_
    refine lv_iadd hx hb dd_Mo_tick_20 ?_
    refine mw_topi (y := nI (cl + j)) (nI_add _ _) ?_
    refine pf_Mo_180 E hM hS wm (by rw [mo_len]; decide) dd_Mo_tick_21 (fun H locs hM hS => ?_)
    rw [mo_set (by decide)] at hM
    obtain ⟨F1, hF1⟩ : ∃ F9 : Nat → Value, F9 = va_up F 1 (.int (nI (cl + j))) := ⟨_, rfl⟩
    rw [← hF1] at hM
    have hf1 := mo_s hF1
    have hM : mw_at D mg_cl z (va_up M mm (some (.inr (13, mo_l F1)))) H := hM
    obtain ⟨M1, hM1⟩ : ∃ M9 : mw_M, M9 = va_up M mm (some (.inr (13, mo_l F1))) := ⟨_, rfl⟩
    rw [← hM1] at hM
    have wm := mw_us hM1
    have hF := mw_fu hM1 hF (rfl)
    refine lv_aload_n hx hb dd_Mo_tick_24 rfl (lv_at hl 0 rfl) ?_
    refine gf_Mo_180 E hM wm ((mo_at (by decide)).trans (congrArg some hf1)) dd_Mo_tick_25 ?_
    refine mr_i E hr hk hM hS (by decide) (by decide) ?_ dd_Mo_tick_28
    exact ⟨rfl, by rw [← hF1]; exact wm, hF⟩
  ·
    exact absurd (zI_f (by rw [mo_out, decide_eq_false (nI_nlt (by omega) (by omega)), decide_eq_false (nI_nlt (by omega) (by decide))]; rfl)) h7
theorem cc_Mo_tick_n (l : Launch) (D : va_G) (z : Nat) (M : mw_M) (mm : Nat) (i : Int32) (hm : i < nI 1 ∨ nI 64 < i) : mw_C l yy_Mo_tick bb_Mo_tick 2 (Option.some Jvm.ClassFile.FieldType.int) 1 22 0 0 D z M [.ref mm, .int (i)] (fun v M' => v = some (.int (-1002)) ∧ M' = M) := by
  refine mw_of (by decide) (Nat.le_of_ble_eq_true rfl) ?_
  intro p e s m below meth c ls E hr hk hnm hM hl
  have hx := E.x
  have hb := E.b
  have E : mw_E p m c bb_Mo_tick 2 s _ D z "IdentityIssuerModel" := E
  have hl : lv_has ls 2 [(0, .ref mm), (1, .int (i))] := hl
  have hS : va_S (mw_A z) s.heap s.heap [] := va_S.rf
  refine lv_iload_n hx hb dd_Mo_tick_0 rfl (lv_at hl 1 rfl) ?_
  refine lv_iconst (v := nI 1) hx hb dd_Mo_tick_1 (by decide) ?_
  refine lv_bipush (v := nI 64) hx hb dd_Mo_tick_2 (by decide) ?_
  refine mw_S (As := [.int (i), .int (nI 1), .int (nI 64)]) (rest := []) E (cc_Mo_outside l D z (M) (i) (nI 1) (nI 64)) ky_Mo_outside kv_Mo_outside tw_Mo_118 hM hS rfl hl.1 rfl (Nat.le_of_ble_eq_true rfl) dd_Mo_tick_4 (by decide) (by decide) (fun v M1 H locs hp hM hS => ?_)
  obtain ⟨rfl, hq⟩ := hp
  have hq := hq.symm
  subst hq
  refine W.eq (g2 := F0 m 7 ls [.int (zI (mo_out (i) (nI 1) (nI 64)))]) rfl ?_
  refine lv_if_eq (tgt := 14) hx hb dd_Mo_tick_7 (by decide) (fun h7 => ?_) (fun h7 => ?_)
  ·
    exact absurd (zI_0.mp h7) (by rw [mo_out]; rcases hm with q | q <;> rw [decide_eq_true q] <;> simp)
  ·
    refine lv_sipush (v := -1002) hx hb dd_Mo_tick_10 (by decide) ?_
    refine mr_i E hr hk hM hS (by decide) (by decide) ?_ dd_Mo_tick_13
    exact ⟨rfl, rfl⟩
def mo_good (kc lf : Nat) (g : Nat → Nat) (key : Int32) (cl : Nat) : Bool := decide (0 ≤ key.toInt) && decide (key.toInt < (kc : Int)) && decide (cl < g key.toInt.toNat + lf)
theorem mo_goodN {kc lf : Nat} {g : Nat → Nat} {j cl : Nat} (hj : j < 2 ^ 31) : mo_good kc lf g (nI j) cl = (decide (j < kc) && decide (cl < g j + lf)) := by
  unfold mo_good
  rw [nI_toInt hj, Int.toNat_natCast, decide_eq_true (by omega : (0 : Int) ≤ (j : Int)), Bool.true_and]
  congr 1
  exact decide_eq_decide.mpr (by omega)
theorem cc_Mo_isGood (l : Launch) (D : va_G) (z : Nat) (M : mw_M) (mm : Nat) (F : Nat → Value) (r lf kc cl : Nat) (ac pr : Int32) (f : Nat → Int32) (g : Nat → Nat) (key : Int32) (wm : M mm = some (.inr (13, mo_l F))) (hf0 : F 0 = .int (nI lf)) (hf1 : F 1 = .int (nI cl)) (hf9 : F 9 = .int (nI kc)) (hf10 : F 10 = .ref r) (hf11 : F 11 = .int (ac)) (hf12 : F 12 = .int (pr)) (wr : M r = some (.inl (D.1 100, 600, .inl f))) (hg : ∀ j, j < kc → f j = nI (g j) ∧ g j < 2 ^ 20) (hlf : lf < 2 ^ 20) (hkc : kc ≤ 600) (hcl : cl < 2 ^ 20) : mw_C l yy_Mo_isGood bb_Mo_isGood 2 (Option.some Jvm.ClassFile.FieldType.boolean) 0 0 0 0 D z M [.ref mm, .int (key)] (fun v M' => v = some (.int (zI (mo_good kc lf g key cl))) ∧ M' = M) := by
  refine mw_of (by decide) (Nat.le_of_ble_eq_true rfl) ?_
  intro p e s m below meth c ls E hr hk hnm hM hl
  have hx := E.x
  have hb := E.b
  have E : mw_E p m c bb_Mo_isGood 2 s _ D z "IdentityIssuerModel" := E
  have hl : lv_has ls 2 [(0, .ref mm), (1, .int (key))] := hl
  have hS : va_S (mw_A z) s.heap s.heap [] := va_S.rf
  refine lv_iload_n hx hb dd_Mo_isGood_0 rfl (lv_at hl 1 rfl) ?_
  refine lv_if_lt (tgt := 34) hx hb dd_Mo_isGood_1 (by decide) (fun h1 => ?_) (fun h1 => ?_)
  ·
    refine lv_iconst (v := nI 0) hx hb dd_Mo_isGood_34 (by decide) ?_
    refine mr_z E hr hk hM hS (by decide) (by decide) (rfl) ?_ dd_Mo_isGood_35
    rw [Int32.lt_iff_toInt_lt, Int32.toInt_zero] at h1
    exact ⟨by rw [zI_f (by simp only [mo_good, Bool.and_eq_false_iff, decide_eq_false_iff_not]; omega)]; rfl, rfl⟩
  ·
    refine lv_iload_n hx hb dd_Mo_isGood_4 rfl (lv_at hl 1 rfl) ?_
    refine lv_aload_n hx hb dd_Mo_isGood_5 rfl (lv_at hl 0 rfl) ?_
    refine gf_Mo_112 E hM wm ((mo_at (by decide)).trans (congrArg some hf9)) dd_Mo_isGood_6 ?_
    refine lv_icmp_ge (tgt := 34) hx hb dd_Mo_isGood_9 (by decide) (fun h9 => ?_) (fun h9 => ?_)
    ·
      refine lv_iconst (v := nI 0) hx hb dd_Mo_isGood_34 (by decide) ?_
      refine mr_z E hr hk hM hS (by decide) (by decide) (rfl) ?_ dd_Mo_isGood_35
      rw [Int32.le_iff_toInt_le, nI_toInt (by omega)] at h9
      exact ⟨by rw [zI_f (by simp only [mo_good, Bool.and_eq_false_iff, decide_eq_false_iff_not]; omega)]; rfl, rfl⟩
    ·
      obtain ⟨j, hj, rfl⟩ := mi_nat (by omega) h1 h9
      have hgj := (hg j hj).2
      refine lv_aload_n hx hb dd_Mo_isGood_12 rfl (lv_at hl 0 rfl) ?_
      refine gf_Mo_180 E hM wm ((mo_at (by decide)).trans (congrArg some hf1)) dd_Mo_isGood_13 ?_
      refine lv_aload_n hx hb dd_Mo_isGood_16 rfl (lv_at hl 0 rfl) ?_
      refine gf_Mo_22 E hM wm ((mo_at (by decide)).trans (congrArg some hf10)) dd_Mo_isGood_17 ?_
      refine lv_iload_n hx hb dd_Mo_isGood_20 rfl (lv_at hl 1 rfl) ?_
      refine mw_iald hx hb E.K hM 0 wr rfl (vp_in_nI (by omega) (by omega)) dd_Mo_isGood_21 ?_
      refine mw_topi (y := f j) (by rw [nI_clamp (by omega)]) ?_
      refine mw_topi (y := nI (g j)) ((hg j hj).1) ?_
      refine lv_aload_n hx hb dd_Mo_isGood_22 rfl (lv_at hl 0 rfl) ?_
      refine gf_Mo_108 E hM wm ((mo_at (by decide)).trans (congrArg some hf0)) dd_Mo_isGood_23 ?_
      refine lv_iadd hx hb dd_Mo_isGood_26 ?_
      refine mw_topi (y := nI ((g j) + lf)) (nI_add _ _) ?_
      refine lv_icmp_ge (tgt := 34) hx hb dd_Mo_isGood_27 (by decide) (fun h27 => ?_) (fun h27 => ?_)
      ·
        rw [nI_leI (by omega) (by omega)] at h27
        refine lv_iconst (v := nI 0) hx hb dd_Mo_isGood_34 (by decide) ?_
        refine mr_z E hr hk hM hS (by decide) (by decide) (rfl) ?_ dd_Mo_isGood_35
        exact ⟨by rw [mo_goodN (by omega), zI_f (by simp only [Bool.and_eq_false_iff, decide_eq_false_iff_not]; omega)]; rfl, rfl⟩
      ·
        rw [nI_leI (by omega) (by omega)] at h27
        refine lv_iconst (v := nI 1) hx hb dd_Mo_isGood_30 (by decide) ?_
        refine lv_goto (tgt := 35) hx hb dd_Mo_isGood_31 (by decide) ?_
        refine mr_z E hr hk hM hS (by decide) (by decide) (rfl) ?_ dd_Mo_isGood_35
        exact ⟨by rw [mo_goodN (by omega), zI_t (by simp only [Bool.and_eq_true, decide_eq_true_eq]; omega)]; rfl, rfl⟩
theorem cc_Mo_activate (l : Launch) (D : va_G) (z : Nat) (M : mw_M) (mm : Nat) (F : Nat → Value) (r lf kc cl : Nat) (ac pr : Int32) (f : Nat → Int32) (g : Nat → Nat) (wm : M mm = some (.inr (13, mo_l F))) (hf0 : F 0 = .int (nI lf)) (hf1 : F 1 = .int (nI cl)) (hf9 : F 9 = .int (nI kc)) (hf10 : F 10 = .ref r) (hf11 : F 11 = .int (ac)) (hf12 : F 12 = .int (pr)) (wr : M r = some (.inl (D.1 100, 600, .inl f))) (hg : ∀ j, j < kc → f j = nI (g j) ∧ g j < 2 ^ 20) (hlf : lf < 2 ^ 20) (hkc : kc ≤ 600) (hcl : cl < 2 ^ 20) : mw_C l yy_Mo_activate bb_Mo_activate 1 (Option.some Jvm.ClassFile.FieldType.boolean) 1 21 0 0 D z M [.ref mm] (fun v M' => v = some (.int (zI (mo_good kc lf g pr cl))) ∧ M' mm = some (.inr (13, mo_l (if mo_good kc lf g pr cl = true then va_up (va_up F 11 (.int pr)) 12 (.int (-1)) else F))) ∧ mw_fr (fun q => q = mm) M M') := by
  refine mw_of (by decide) (Nat.le_of_ble_eq_true rfl) ?_
  intro p e s m below meth c ls E hr hk hnm hM hl
  have hx := E.x
  have hb := E.b
  have E : mw_E p m c bb_Mo_activate 1 s _ D z "IdentityIssuerModel" := E
  have hl : lv_has ls 1 [(0, .ref mm)] := hl
  have hS : va_S (mw_A z) s.heap s.heap [] := va_S.rf
  have hF : mw_fr (fun q => q = mm) M M := mw_fr.rf
  refine lv_aload_n hx hb dd_Mo_activate_0 rfl (lv_at hl 0 rfl) ?_
  refine lv_aload_n hx hb dd_Mo_activate_1 rfl (lv_at hl 0 rfl) ?_
  refine gf_Mo_115 E hM wm ((mo_at (by decide)).trans (congrArg some hf12)) dd_Mo_activate_2 ?_
  refine mw_V (As := [.int (pr)]) (rest := []) E (cc_Mo_isGood l D z M mm F r lf kc cl ac pr f g pr wm hf0 hf1 hf9 hf10 hf11 hf12 wr hg hlf hkc hcl) ky_Mo_isGood kv_Mo_isGood tw_Mo_198 hM hS wm rfl rfl rfl hl.1 rfl (Nat.le_of_ble_eq_true rfl) dd_Mo_activate_5 (by decide) (by decide) (fun v M1 H locs hp hM hS => ?_)
  obtain ⟨rfl, hq⟩ := hp
  have hq := hq.symm
  subst hq
  refine W.eq (g2 := F0 m 8 ls [.int (zI (mo_good kc lf g pr cl))]) rfl ?_
  refine lv_if_ne (tgt := 13) hx hb dd_Mo_activate_8 (by decide) (fun h8 => ?_) (fun h8 => ?_)
  ·
    have h8 : mo_good kc lf g pr cl = true := Bool.of_not_eq_false (fun q => h8 (zI_0.mpr q))
    refine lv_aload_n hx hb dd_Mo_activate_13 rfl (lv_at hl 0 rfl) ?_
    refine lv_aload_n hx hb dd_Mo_activate_14 rfl (lv_at hl 0 rfl) ?_
    refine gf_Mo_115 E hM wm ((mo_at (by decide)).trans (congrArg some hf12)) dd_Mo_activate_15 ?_
    refine pf_Mo_183 E hM hS wm (by rw [mo_len]; decide) dd_Mo_activate_18 (fun H locs hM hS => ?_)
    rw [mo_set (by decide)] at hM
    obtain ⟨F1, hF1⟩ : ∃ F9 : Nat → Value, F9 = va_up F 11 (.int (pr)) := ⟨_, rfl⟩
    rw [← hF1] at hM
    have hf0 := mo_n hF1 hf0 (by decide)
    have hf1 := mo_n hF1 hf1 (by decide)
    have hf9 := mo_n hF1 hf9 (by decide)
    have hf10 := mo_n hF1 hf10 (by decide)
    have hf12 := mo_n hF1 hf12 (by decide)
    have hf11 := mo_s hF1
    have hM : mw_at D mg_cl z (va_up M mm (some (.inr (13, mo_l F1)))) H := hM
    obtain ⟨M1, hM1⟩ : ∃ M9 : mw_M, M9 = va_up M mm (some (.inr (13, mo_l F1))) := ⟨_, rfl⟩
    rw [← hM1] at hM
    have wr := mw_uu hM1 wr (mw_ne wr wm (fun q => by cases q))
    have wm := mw_us hM1
    have hF := mw_fu hM1 hF (rfl)
    refine lv_aload_n hx hb dd_Mo_activate_21 rfl (lv_at hl 0 rfl) ?_
    refine lv_iconst (v := -1) hx hb dd_Mo_activate_22 (by decide) ?_
    refine pf_Mo_115 E hM hS wm (by rw [mo_len]; decide) dd_Mo_activate_23 (fun H locs hM hS => ?_)
    rw [mo_set (by decide)] at hM
    obtain ⟨F2, hF2⟩ : ∃ F9 : Nat → Value, F9 = va_up F1 12 (.int (-1)) := ⟨_, rfl⟩
    rw [← hF2] at hM
    have hf0 := mo_n hF2 hf0 (by decide)
    have hf1 := mo_n hF2 hf1 (by decide)
    have hf9 := mo_n hF2 hf9 (by decide)
    have hf10 := mo_n hF2 hf10 (by decide)
    have hf11 := mo_n hF2 hf11 (by decide)
    have hf12 := mo_s hF2
    have hM : mw_at D mg_cl z (va_up M1 mm (some (.inr (13, mo_l F2)))) H := hM
    obtain ⟨M1, hM1⟩ : ∃ M9 : mw_M, M9 = va_up M1 mm (some (.inr (13, mo_l F2))) := ⟨_, rfl⟩
    rw [← hM1] at hM
    have wr := mw_uu hM1 wr (mw_ne wr wm (fun q => by cases q))
    have wm := mw_us hM1
    have hF := mw_fu hM1 hF (rfl)
    refine lv_iconst (v := nI 1) hx hb dd_Mo_activate_26 (by decide) ?_
    refine mr_z E hr hk hM hS (by decide) (by decide) (rfl) ?_ dd_Mo_activate_27
    exact ⟨by rw [zI_t h8]; rfl, by rw [if_pos h8, ← hF1, ← hF2]; exact wm, hF⟩
  ·
    have h8 := zI_0.mp h8
    refine lv_iconst (v := nI 0) hx hb dd_Mo_activate_11 (by decide) ?_
    refine mr_z E hr hk hM hS (by decide) (by decide) (rfl) ?_ dd_Mo_activate_12
    exact ⟨by rw [zI_f h8]; rfl, by rw [if_neg (by rw [h8]; decide)]; exact wm, hF⟩
theorem cc_Mo_foreign (l : Launch) (D : va_G) (z : Nat) (M : mw_M) (mm : Nat) (F : Nat → Value) (fo i : Int32) (b0 : Bool) (wm : M mm = some (.inr (13, mo_l F))) (hf22 : F 22 = .int (fo)) : mw_C l yy_Mo_foreign bb_Mo_foreign 3 (Option.some Jvm.ClassFile.FieldType.boolean) 1 22 0 0 D z M [.ref mm, .int (i), .int (zI b0)] (fun v M' => (xi_has 4 i = false ∨ (fo >>> (i &&& 31)) &&& nI 1 = zI b0 → v = some (.int 0) ∧ M' = M) ∧ (xi_has 4 i = true ∧ ¬ (fo >>> (i &&& 31)) &&& nI 1 = zI b0 → v = some (.int 1) ∧ M' mm = some (.inr (13, mo_l (va_up F 22 (.int (fo ^^^ (nI 1 <<< (i &&& 31)))))))) ∧ mw_fr (fun q => q = mm) M M') := by
  refine mw_of (by decide) (Nat.le_of_ble_eq_true rfl) ?_
  intro p e s m below meth c ls E hr hk hnm hM hl
  have hx := E.x
  have hb := E.b
  have E : mw_E p m c bb_Mo_foreign 3 s _ D z "IdentityIssuerModel" := E
  have hl : lv_has ls 3 [(0, .ref mm), (1, .int (i)), (2, .int (zI b0))] := hl
  have hS : va_S (mw_A z) s.heap s.heap [] := va_S.rf
  have hF : mw_fr (fun q => q = mm) M M := mw_fr.rf
  refine lv_iload_n hx hb dd_Mo_foreign_0 rfl (lv_at hl 1 rfl) ?_
  refine lv_iconst (v := nI 0) hx hb dd_Mo_foreign_1 (by decide) ?_
  refine lv_iconst (v := nI 3) hx hb dd_Mo_foreign_2 (by decide) ?_
  refine mw_S (As := [.int (i), .int (nI 0), .int (nI 3)]) (rest := []) E (cc_Mo_outside l D z (M) (i) (nI 0) (nI 3)) ky_Mo_outside kv_Mo_outside tw_Mo_118 hM hS rfl hl.1 rfl (Nat.le_of_ble_eq_true rfl) dd_Mo_foreign_3 (by decide) (by decide) (fun v M1 H locs hp hM hS => ?_)
  obtain ⟨rfl, hq⟩ := hp
  have hq := hq.symm
  subst hq
  rw [mo_out_c (by decide)]
  refine W.eq (g2 := F0 m 6 ls [.int (zI (!xi_has 4 i))]) rfl ?_
  refine lv_if_ne (tgt := 29) hx hb dd_Mo_foreign_6 (by decide) (fun h6 => ?_) (fun h6 => ?_)
  ·
    have h6 : xi_has 4 i = false := by cases hq : xi_has 4 i <;> first | rfl | exact absurd (by rw [hq]; rfl) h6
    refine lv_iconst (v := nI 0) hx hb dd_Mo_foreign_29 (by decide) ?_
    refine mr_z E hr hk hM hS (by decide) (by decide) (rfl) ?_ dd_Mo_foreign_30
    exact ⟨fun _ => ⟨rfl, rfl⟩, fun q => absurd (q.1.symm.trans h6) (by decide), hF⟩
  ·
    have h6 : xi_has 4 i = true := by cases hq : xi_has 4 i <;> first | rfl | (rw [hq] at h6; exact absurd h6 (by decide))
    refine lv_aload_n hx hb dd_Mo_foreign_9 rfl (lv_at hl 0 rfl) ?_
    refine gf_Mo_170 E hM wm ((mo_at (by decide)).trans (congrArg some hf22)) dd_Mo_foreign_10 ?_
    refine lv_iload_n hx hb dd_Mo_foreign_13 rfl (lv_at hl 1 rfl) ?_
    refine lv_ishr hx hb dd_Mo_foreign_14 ?_
    refine lv_iconst (v := nI 1) hx hb dd_Mo_foreign_15 (by decide) ?_
    refine lv_iand hx hb dd_Mo_foreign_16 ?_
    refine lv_iload_n hx hb dd_Mo_foreign_17 rfl (lv_at hl 2 rfl) ?_
    refine lv_if_eq (tgt := 25) hx hb dd_Mo_foreign_18 (by decide) (fun h18 => ?_) (fun h18 => ?_)
    ·
      have hb0 : zI b0 = nI 0 := h18
      refine lv_iconst (v := nI 0) hx hb dd_Mo_foreign_25 (by decide) ?_
      refine lv_icmp_ne (tgt := 31) hx hb dd_Mo_foreign_26 (by decide) (fun h26 => ?_) (fun h26 => ?_)
      ·
        refine lv_aload_n hx hb dd_Mo_foreign_31 rfl (lv_at hl 0 rfl) ?_
        refine lv_aload_n hx hb dd_Mo_foreign_32 rfl (lv_at hl 0 rfl) ?_
        refine gf_Mo_170 E hM wm ((mo_at (by decide)).trans (congrArg some hf22)) dd_Mo_foreign_33 ?_
        refine lv_iconst (v := nI 1) hx hb dd_Mo_foreign_36 (by decide) ?_
        refine lv_iload_n hx hb dd_Mo_foreign_37 rfl (lv_at hl 1 rfl) ?_
        refine lv_ishl hx hb dd_Mo_foreign_38 ?_
        refine lv_ixor hx hb dd_Mo_foreign_39 ?_
        refine pf_Mo_170 E hM hS wm (by rw [mo_len]; decide) dd_Mo_foreign_40 (fun H locs hM hS => ?_)
        rw [mo_set (by decide)] at hM
        obtain ⟨F1, hF1⟩ : ∃ F9 : Nat → Value, F9 = va_up F 22 (.int (fo ^^^ ((nI 1) <<< (i &&& 31)))) := ⟨_, rfl⟩
        rw [← hF1] at hM
        have hf22 := mo_s hF1
        have hM : mw_at D mg_cl z (va_up M mm (some (.inr (13, mo_l F1)))) H := hM
        obtain ⟨M1, hM1⟩ : ∃ M9 : mw_M, M9 = va_up M mm (some (.inr (13, mo_l F1))) := ⟨_, rfl⟩
        rw [← hM1] at hM
        have wm := mw_us hM1
        have hF := mw_fu hM1 hF (rfl)
        refine lv_iconst (v := nI 1) hx hb dd_Mo_foreign_43 (by decide) ?_
        refine mr_z E hr hk hM hS (by decide) (by decide) (rfl) ?_ dd_Mo_foreign_44
        exact ⟨fun q => q.elim (fun q => absurd (q.symm.trans h6) (by decide)) (fun q => absurd (q.trans hb0) h26), fun _ => ⟨rfl, by rw [← hF1]; exact wm⟩, hF⟩
      ·
        refine lv_iconst (v := nI 0) hx hb dd_Mo_foreign_29 (by decide) ?_
        refine mr_z E hr hk hM hS (by decide) (by decide) (rfl) ?_ dd_Mo_foreign_30
        exact ⟨fun _ => ⟨rfl, rfl⟩, fun q => absurd (h26.trans hb0.symm) q.2, hF⟩
    ·
      have hb0 : zI b0 = nI 1 := zI_t (Bool.of_not_eq_false (fun q => h18 (zI_0.mpr q)))
      refine lv_iconst (v := nI 1) hx hb dd_Mo_foreign_21 (by decide) ?_
      refine lv_goto (tgt := 26) hx hb dd_Mo_foreign_22 (by decide) ?_
      refine lv_icmp_ne (tgt := 31) hx hb dd_Mo_foreign_26 (by decide) (fun h26 => ?_) (fun h26 => ?_)
      ·
        refine lv_aload_n hx hb dd_Mo_foreign_31 rfl (lv_at hl 0 rfl) ?_
        refine lv_aload_n hx hb dd_Mo_foreign_32 rfl (lv_at hl 0 rfl) ?_
        refine gf_Mo_170 E hM wm ((mo_at (by decide)).trans (congrArg some hf22)) dd_Mo_foreign_33 ?_
        refine lv_iconst (v := nI 1) hx hb dd_Mo_foreign_36 (by decide) ?_
        refine lv_iload_n hx hb dd_Mo_foreign_37 rfl (lv_at hl 1 rfl) ?_
        refine lv_ishl hx hb dd_Mo_foreign_38 ?_
        refine lv_ixor hx hb dd_Mo_foreign_39 ?_
        refine pf_Mo_170 E hM hS wm (by rw [mo_len]; decide) dd_Mo_foreign_40 (fun H locs hM hS => ?_)
        rw [mo_set (by decide)] at hM
        obtain ⟨F2, hF2⟩ : ∃ F9 : Nat → Value, F9 = va_up F 22 (.int (fo ^^^ ((nI 1) <<< (i &&& 31)))) := ⟨_, rfl⟩
        rw [← hF2] at hM
        have hf22 := mo_s hF2
        have hM : mw_at D mg_cl z (va_up M mm (some (.inr (13, mo_l F2)))) H := hM
        obtain ⟨M1, hM1⟩ : ∃ M9 : mw_M, M9 = va_up M mm (some (.inr (13, mo_l F2))) := ⟨_, rfl⟩
        rw [← hM1] at hM
        have wm := mw_us hM1
        have hF := mw_fu hM1 hF (rfl)
        refine lv_iconst (v := nI 1) hx hb dd_Mo_foreign_43 (by decide) ?_
        refine mr_z E hr hk hM hS (by decide) (by decide) (rfl) ?_ dd_Mo_foreign_44
        exact ⟨fun q => q.elim (fun q => absurd (q.symm.trans h6) (by decide)) (fun q => absurd (q.trans hb0) h26), fun _ => ⟨rfl, by rw [← hF2]; exact wm⟩, hF⟩
      ·
        refine lv_iconst (v := nI 0) hx hb dd_Mo_foreign_29 (by decide) ?_
        refine mr_z E hr hk hM hS (by decide) (by decide) (rfl) ?_ dd_Mo_foreign_30
        exact ⟨fun _ => ⟨rfl, rfl⟩, fun q => absurd (h26.trans hb0.symm) q.2, hF⟩
