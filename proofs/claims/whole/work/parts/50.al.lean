/-! ArrayList: get, add where there is room, clear -/
theorem cc_Pr_checkIndex (l : Launch) (D : va_G) (z : Nat) (M : mw_M) (i k : Nat) (hi : i < k) (hkk : k < 2 ^ 31) : mw_C l yy_Pr_checkIndex bb_Pr_checkIndex 3 (Option.some Jvm.ClassFile.FieldType.int) 0 0 0 0 D z M [.int (nI i), .int (nI k), .null] (fun v M' => v = some (.int (nI i)) ∧ M' = M) := by
  refine mw_of (by decide) (Nat.le_of_ble_eq_true rfl) ?_
  intro p e s m below meth c ls E hr hk hnm hM hl
  have hx := E.x
  have hb := E.b
  have E : mw_E p m c bb_Pr_checkIndex 3 s _ D z "jdk/internal/util/Preconditions" := E
  have hl : lv_has ls 3 [(0, .int (nI i)), (1, .int (nI k)), (2, .null)] := hl
  have hS : va_S (mw_A z) s.heap s.heap [] := va_S.rf
  refine lv_iload_n hx hb dd_Pr_checkIndex_0 rfl (lv_at hl 0 rfl) ?_
  refine lv_if_lt (tgt := 9) hx hb dd_Pr_checkIndex_1 (by decide) (fun h1 => ?_) (fun h1 => ?_)
  ·
    exact absurd h1 (nI_pos (by omega))
  ·
    refine lv_iload_n hx hb dd_Pr_checkIndex_4 rfl (lv_at hl 0 rfl) ?_
    refine lv_iload_n hx hb dd_Pr_checkIndex_5 rfl (lv_at hl 1 rfl) ?_
    refine lv_icmp_lt (tgt := 16) hx hb dd_Pr_checkIndex_6 (by decide) (fun h6 => ?_) (fun h6 => ?_)
    ·
      rw [nI_ltI (by omega) (by omega)] at h6
      refine lv_iload_n hx hb dd_Pr_checkIndex_16 rfl (lv_at hl 0 rfl) ?_
      refine mr_i E hr hk hM hS (by decide) (by decide) ?_ dd_Pr_checkIndex_17
      exact ⟨rfl, rfl⟩
    ·
      rw [nI_ltI (by omega) (by omega)] at h6
      omega
theorem cc_Oj_checkIndex (l : Launch) (D : va_G) (z : Nat) (M : mw_M) (i k : Nat) (hi : i < k) (hkk : k < 2 ^ 31) : mw_C l yy_Oj_checkIndex bb_Oj_checkIndex 2 (Option.some Jvm.ClassFile.FieldType.int) 1 22 0 0 D z M [.int (nI i), .int (nI k)] (fun v M' => v = some (.int (nI i)) ∧ M' = M) := by
  refine mw_of (by decide) (Nat.le_of_ble_eq_true rfl) ?_
  intro p e s m below meth c ls E hr hk hnm hM hl
  have hx := E.x
  have hb := E.b
  have E : mw_E p m c bb_Oj_checkIndex 2 s _ D z "java/util/Objects" := E
  have hl : lv_has ls 2 [(0, .int (nI i)), (1, .int (nI k))] := hl
  have hS : va_S (mw_A z) s.heap s.heap [] := va_S.rf
  refine lv_iload_n hx hb dd_Oj_checkIndex_0 rfl (lv_at hl 0 rfl) ?_
  refine lv_iload_n hx hb dd_Oj_checkIndex_1 rfl (lv_at hl 1 rfl) ?_
  refine lv_null hx hb dd_Oj_checkIndex_2 ?_
  refine mw_S (As := [.int (nI i), .int (nI k), .null]) (rest := []) E (cc_Pr_checkIndex l D z (M) i k hi hkk) ky_Pr_checkIndex kv_Pr_checkIndex tw_Oj_105 hM hS rfl hl.1 rfl (Nat.le_of_ble_eq_true rfl) dd_Oj_checkIndex_3 (by decide) (by decide) (fun v M1 H locs hp hM hS => ?_)
  obtain ⟨rfl, hq⟩ := hp
  have hq := hq.symm
  subst hq
  refine W.eq (g2 := F0 m 6 ls [.int (nI i)]) rfl ?_
  refine mr_i E hr hk hM hS (by decide) (by decide) ?_ dd_Oj_checkIndex_6
  exact ⟨rfl, rfl⟩
theorem cc_AL_elementData (l : Launch) (D : va_G) (z : Nat) (M : mw_M) (a r k cap : Nat) (mo : Int32) (g : Nat → Option Nat) (i x : Nat) (wa : M a = some (.inr (4, [.ref r, .int (nI k), .int mo]))) (wr : M r = some (.inl (D.1 103, cap, .inr (.inr (.inr (.inr g)))))) (hkc : k ≤ cap) (hcap : cap < 2 ^ 20) (hi : i < k) (hx0 : g i = some x) : mw_C l yy_AL_elementData bb_AL_elementData 2 (Option.some (Jvm.ClassFile.FieldType.object "java/lang/Object")) 0 0 0 0 D z M [.ref a, .int (nI i)] (fun v M' => v = some (.ref x) ∧ M' = M) := by
  refine mw_of (by decide) (Nat.le_of_ble_eq_true rfl) ?_
  intro p e s m below meth c ls E hr hk hnm hM hl
  have hx := E.x
  have hb := E.b
  have E : mw_E p m c bb_AL_elementData 2 s _ D z "java/util/ArrayList" := E
  have hl : lv_has ls 2 [(0, .ref a), (1, .int (nI i))] := hl
  have hS : va_S (mw_A z) s.heap s.heap [] := va_S.rf
  refine lv_aload_n hx hb dd_AL_elementData_0 rfl (lv_at hl 0 rfl) ?_
  refine gf_AL_9 E hM wa rfl dd_AL_elementData_1 ?_
  refine lv_iload_n hx hb dd_AL_elementData_4 rfl (lv_at hl 1 rfl) ?_
  refine mw_aldq hx hb E.K hM 3 wr rfl (vp_in_nI (by omega) (by omega)) dd_AL_elementData_5 ?_
  rw [nI_clamp (by omega)]
  rw [hx0]
  refine W.eq (g2 := F0 m 6 ls [.ref x]) rfl ?_
  refine mr_a E hr hk (Or.inl ⟨_, rfl⟩) (Or.inr ⟨_, rfl⟩) hM hS (by decide) (by decide) ?_ dd_AL_elementData_6
  exact ⟨rfl, rfl⟩
theorem cc_AL_get (l : Launch) (D : va_G) (z : Nat) (M : mw_M) (a r k cap : Nat) (mo : Int32) (g : Nat → Option Nat) (i x : Nat) (wa : M a = some (.inr (4, [.ref r, .int (nI k), .int mo]))) (wr : M r = some (.inl (D.1 103, cap, .inr (.inr (.inr (.inr g)))))) (hkc : k ≤ cap) (hcap : cap < 2 ^ 20) (hi : i < k) (hx0 : g i = some x) : mw_C l yy_AL_get bb_AL_get 2 (Option.some (Jvm.ClassFile.FieldType.object "java/lang/Object")) 2 43 0 0 D z M [.ref a, .int (nI i)] (fun v M' => v = some (.ref x) ∧ M' = M) := by
  refine mw_of (by decide) (Nat.le_of_ble_eq_true rfl) ?_
  intro p e s m below meth c ls E hr hk hnm hM hl
  have hx := E.x
  have hb := E.b
  have E : mw_E p m c bb_AL_get 2 s _ D z "java/util/ArrayList" := E
  have hl : lv_has ls 2 [(0, .ref a), (1, .int (nI i))] := hl
  have hS : va_S (mw_A z) s.heap s.heap [] := va_S.rf
  refine lv_iload_n hx hb dd_AL_get_0 rfl (lv_at hl 1 rfl) ?_
  refine lv_aload_n hx hb dd_AL_get_1 rfl (lv_at hl 0 rfl) ?_
  refine gf_AL_48 E hM wa rfl dd_AL_get_2 ?_
  refine mw_S (As := [.int (nI i), .int (nI k)]) (rest := []) E (cc_Oj_checkIndex l D z (M) i k hi (by omega)) ky_Oj_checkIndex kv_Oj_checkIndex tw_AL_118 hM hS rfl hl.1 rfl (Nat.le_of_ble_eq_true rfl) dd_AL_get_5 (by decide) (by decide) (fun v M1 H locs hp hM hS => ?_)
  obtain ⟨rfl, hq⟩ := hp
  have hq := hq.symm
  subst hq
  refine W.eq (g2 := F0 m 8 ls [.int (nI i)]) rfl ?_
  refine lv_pop hx hb dd_AL_get_8 rfl ?_
  refine lv_aload_n hx hb dd_AL_get_9 rfl (lv_at hl 0 rfl) ?_
  refine lv_iload_n hx hb dd_AL_get_10 rfl (lv_at hl 1 rfl) ?_
  refine mw_V (As := [.int (nI i)]) (rest := []) E (cc_AL_elementData l D z (M) a r k cap mo g i x wa wr hkc hcap hi hx0) ky_AL_elementData kv_AL_elementData tw_AL_123 hM hS wa rfl rfl rfl hl.1 rfl (Nat.le_of_ble_eq_true rfl) dd_AL_get_11 (by decide) (by decide) (fun v M1 H locs hp hM hS => ?_)
  obtain ⟨rfl, hq⟩ := hp
  have hq := hq.symm
  subst hq
  refine W.eq (g2 := F0 m 14 ls [.ref x]) rfl ?_
  refine mr_a E hr hk (Or.inl ⟨_, rfl⟩) (Or.inr ⟨_, rfl⟩) hM hS (by decide) (by decide) ?_ dd_AL_get_14
  exact ⟨rfl, rfl⟩
theorem cc_AL_add2_r (l : Launch) (D : va_G) (z : Nat) (M : mw_M) (a r k cap : Nat) (mo : Int32) (g : Nat → Option Nat) (y ci : Nat) (rr : vw_C) (vs : List Value) (wa : M a = some (.inr (4, [.ref r, .int (nI k), .int mo]))) (wr : M r = some (.inl (D.1 103, cap, .inr (.inr (.inr (.inr g)))))) (hkc : k < cap) (hcap : cap < 2 ^ 20) (wy : M y = some (.inr (ci, vs))) (hci : mg_cl[ci]? = some rr) (hcs : (rr.1, "java/lang/Object") ∈ lw_cN) (hya : y ≠ a) : mw_C l yy_AL_add2 bb_AL_add2 4 (Option.none : Option Jvm.ClassFile.FieldType) 0 0 0 0 D z M [.ref a, .ref y, .ref r, .int (nI k)] (fun v M' => v = none ∧ M' a = some (.inr (4, [.ref r, .int (nI (k + 1)), .int mo])) ∧ M' r = some (.inl (D.1 103, cap, .inr (.inr (.inr (.inr (va_up g k (some y))))))) ∧ mw_fr (fun q => q = a ∨ q = r) M M') := by
  refine mw_of (by decide) (Nat.le_of_ble_eq_true rfl) ?_
  intro p e s m below meth c ls E hr hk hnm hM hl
  have hx := E.x
  have hb := E.b
  have E : mw_E p m c bb_AL_add2 4 s _ D z "java/util/ArrayList" := E
  have hl : lv_has ls 4 [(0, .ref a), (1, .ref y), (2, .ref r), (3, .int (nI k))] := hl
  have hS : va_S (mw_A z) s.heap s.heap [] := va_S.rf
  have hF : mw_fr (fun q => q = a ∨ q = r) M M := mw_fr.rf
  refine lv_iload_n hx hb dd_AL_add2_0 rfl (lv_at hl 3 rfl) ?_
  refine lv_aload_n hx hb dd_AL_add2_1 rfl (lv_at hl 2 rfl) ?_
  refine mw_alen (v := nI cap) hx hb E.K hM 3 wr rfl rfl dd_AL_add2_2 ?_
  refine lv_icmp_ne (tgt := 11) hx hb dd_AL_add2_3 (by decide) (fun h3 => ?_) (fun h3 => ?_)
  ·
    rw [nI_eq (by omega) (by omega)] at h3
    refine lv_aload_n hx hb dd_AL_add2_11 rfl (lv_at hl 2 rfl) ?_
    refine lv_iload_n hx hb dd_AL_add2_12 rfl (lv_at hl 3 rfl) ?_
    refine lv_aload_n hx hb dd_AL_add2_13 rfl (lv_at hl 1 rfl) ?_
    refine mw_astq hx hb E.K hM E.zz hS 3 wr rfl (E.N.2.2.1 (rr.1, "java/lang/Object") hcs) wy hci (vp_in_nI (by omega) (by omega)) dd_AL_add2_14 (fun H locs hM hS => ?_)
    rw [nI_clamp (by omega)] at hM
    have hM : mw_at D mg_cl z (va_up M r (some (.inl (D.1 103, cap, .inr (.inr (.inr (.inr (va_up g k (some y))))))))) H := hM
    obtain ⟨M1, hM1⟩ : ∃ M9 : mw_M, M9 = va_up M r (some (.inl (D.1 103, cap, .inr (.inr (.inr (.inr (va_up g k (some y)))))))) := ⟨_, rfl⟩
    rw [← hM1] at hM
    have wa := mw_uu hM1 wa (mw_ne wa wr (fun q => by cases q))
    have wr := mw_us hM1
    have hF := mw_fu hM1 hF (Or.inr rfl)
    refine lv_aload_n hx hb dd_AL_add2_15 rfl (lv_at hl 0 rfl) ?_
    refine lv_iload_n hx hb dd_AL_add2_16 rfl (lv_at hl 3 rfl) ?_
    refine lv_iconst (v := nI 1) hx hb dd_AL_add2_17 (by decide) ?_
    refine lv_iadd hx hb dd_AL_add2_18 ?_
    refine mw_topi (y := nI (k + 1)) (nI_add _ _) ?_
    refine pf_AL_48 E hM hS wa (Nat.le_of_ble_eq_true rfl) dd_AL_add2_19 (fun H locs hM hS => ?_)
    have hM : mw_at D mg_cl z (va_up M1 a (some (.inr (4, [.ref r, .int (nI (k + 1)), .int (mo)])))) H := hM
    obtain ⟨M1, hM1⟩ : ∃ M9 : mw_M, M9 = va_up M1 a (some (.inr (4, [.ref r, .int (nI (k + 1)), .int (mo)]))) := ⟨_, rfl⟩
    rw [← hM1] at hM
    have wr := mw_uu hM1 wr (mw_ne wr wa (fun q => by cases q))
    have wa := mw_us hM1
    have hF := mw_fu hM1 hF (Or.inl rfl)
    refine mr_v E hr hk hM hS (by decide) (by decide) ?_ dd_AL_add2_22
    exact ⟨rfl, wa, wr, hF⟩
  ·
    rw [nI_eq (by omega) (by omega)] at h3
    omega
theorem cc_AL_add_r (l : Launch) (D : va_G) (z : Nat) (M : mw_M) (a r k cap : Nat) (mo : Int32) (g : Nat → Option Nat) (y ci : Nat) (rr : vw_C) (vs : List Value) (wa : M a = some (.inr (4, [.ref r, .int (nI k), .int mo]))) (wr : M r = some (.inl (D.1 103, cap, .inr (.inr (.inr (.inr g)))))) (hkc : k < cap) (hcap : cap < 2 ^ 20) (wy : M y = some (.inr (ci, vs))) (hci : mg_cl[ci]? = some rr) (hcs : (rr.1, "java/lang/Object") ∈ lw_cN) (hya : y ≠ a) : mw_C l yy_AL_add bb_AL_add 2 (Option.some Jvm.ClassFile.FieldType.boolean) 1 23 0 0 D z M [.ref a, .ref y] (fun v M' => v = some (.int 1) ∧ M' a = some (.inr (4, [.ref r, .int (nI (k + 1)), .int (mo + nI 1)])) ∧ M' r = some (.inl (D.1 103, cap, .inr (.inr (.inr (.inr (va_up g k (some y))))))) ∧ mw_fr (fun q => q = a ∨ q = r) M M') := by
  refine mw_of (by decide) (Nat.le_of_ble_eq_true rfl) ?_
  intro p e s m below meth c ls E hr hk hnm hM hl
  have hx := E.x
  have hb := E.b
  have E : mw_E p m c bb_AL_add 2 s _ D z "java/util/ArrayList" := E
  have hl : lv_has ls 2 [(0, .ref a), (1, .ref y)] := hl
  have hS : va_S (mw_A z) s.heap s.heap [] := va_S.rf
  have hF : mw_fr (fun q => q = a ∨ q = r) M M := mw_fr.rf
  refine lv_aload_n hx hb dd_AL_add_0 rfl (lv_at hl 0 rfl) ?_
  refine lv_dup hx hb dd_AL_add_1 rfl ?_
  refine gf_AL_63 E hM wa rfl dd_AL_add_2 ?_
  refine lv_iconst (v := nI 1) hx hb dd_AL_add_5 (by decide) ?_
  refine lv_iadd hx hb dd_AL_add_6 ?_
  refine pf_AL_63 E hM hS wa (Nat.le_of_ble_eq_true rfl) dd_AL_add_7 (fun H locs hM hS => ?_)
  have hM : mw_at D mg_cl z (va_up M a (some (.inr (4, [.ref r, .int (nI k), .int (mo + (nI 1))])))) H := hM
  obtain ⟨M1, hM1⟩ : ∃ M9 : mw_M, M9 = va_up M a (some (.inr (4, [.ref r, .int (nI k), .int (mo + (nI 1))]))) := ⟨_, rfl⟩
  rw [← hM1] at hM
  have wr := mw_uu hM1 wr (mw_ne wr wa (fun q => by cases q))
  have wa := mw_us hM1
  have hF := mw_fu hM1 hF (Or.inl rfl)
  refine lv_aload_n hx hb dd_AL_add_10 rfl (lv_at hl 0 rfl) ?_
  refine lv_aload_n hx hb dd_AL_add_11 rfl (lv_at hl 1 rfl) ?_
  refine lv_aload_n hx hb dd_AL_add_12 rfl (lv_at hl 0 rfl) ?_
  refine gf_AL_9 E hM wa rfl dd_AL_add_13 ?_
  refine lv_aload_n hx hb dd_AL_add_16 rfl (lv_at hl 0 rfl) ?_
  refine gf_AL_48 E hM wa rfl dd_AL_add_17 ?_
  have wy := mw_uu hM1 wy hya
  refine mw_V (As := [.ref y, .ref r, .int (nI k)]) (rest := []) E (cc_AL_add2_r l D z M1 a r k cap (mo + nI 1) g y ci rr vs wa wr hkc hcap wy hci hcs hya) ky_AL_add2 kv_AL_add2 tw_AL_131 hM hS wa rfl rfl rfl hl.1 rfl (Nat.le_of_ble_eq_true rfl) dd_AL_add_20 (by decide) (by decide) (fun v M1 H locs hp hM hS => ?_)
  obtain ⟨rfl, wa, wr, hF2⟩ := hp
  have hF := hF.trans hF2
  refine W.eq (g2 := F0 m 23 ls []) rfl ?_
  refine lv_iconst (v := nI 1) hx hb dd_AL_add_23 (by decide) ?_
  refine mr_z E hr hk hM hS (by decide) (by decide) (rfl) ?_ dd_AL_add_24
  exact ⟨rfl, wa, wr, hF⟩
theorem cc_AL_clear (l : Launch) (D : va_G) (z : Nat) (M : mw_M) (a r k cap : Nat) (mo : Int32) (g : Nat → Option Nat) (wa : M a = some (.inr (4, [.ref r, .int (nI k), .int mo]))) (wr : M r = some (.inl (D.1 103, cap, .inr (.inr (.inr (.inr g)))))) (hkc : k ≤ cap) (hcap : cap < 2 ^ 20) : mw_C l yy_AL_clear bb_AL_clear 4 (Option.none : Option Jvm.ClassFile.FieldType) 0 0 0 0 D z M [.ref a] (fun v M' => v = none ∧ M' a = some (.inr (4, [.ref r, .int (nI 0), .int (mo + nI 1)])) ∧ (∃ g2, M' r = some (.inl (D.1 103, cap, .inr (.inr (.inr (.inr g2)))))) ∧ mw_fr (fun q => q = a ∨ q = r) M M') := by
  refine mw_of (by decide) (Nat.le_of_ble_eq_true rfl) ?_
  intro p e s m below meth c ls E hr hk hnm hM hl
  have hx := E.x
  have hb := E.b
  have E : mw_E p m c bb_AL_clear 4 s _ D z "java/util/ArrayList" := E
  have hl : lv_has ls 4 [(0, .ref a)] := hl
  have hS : va_S (mw_A z) s.heap s.heap [] := va_S.rf
  have hF : mw_fr (fun q => q = a ∨ q = r) M M := mw_fr.rf
  refine lv_aload_n hx hb dd_AL_clear_0 rfl (lv_at hl 0 rfl) ?_
  refine lv_dup hx hb dd_AL_clear_1 rfl ?_
  refine gf_AL_63 E hM wa rfl dd_AL_clear_2 ?_
  refine lv_iconst (v := nI 1) hx hb dd_AL_clear_5 (by decide) ?_
  refine lv_iadd hx hb dd_AL_clear_6 ?_
  refine pf_AL_63 E hM hS wa (Nat.le_of_ble_eq_true rfl) dd_AL_clear_7 (fun H locs hM hS => ?_)
  have hM : mw_at D mg_cl z (va_up M a (some (.inr (4, [.ref r, .int (nI k), .int (mo + (nI 1))])))) H := hM
  obtain ⟨M1, hM1⟩ : ∃ M9 : mw_M, M9 = va_up M a (some (.inr (4, [.ref r, .int (nI k), .int (mo + (nI 1))]))) := ⟨_, rfl⟩
  rw [← hM1] at hM
  have wr := mw_uu hM1 wr (mw_ne wr wa (fun q => by cases q))
  have wa := mw_us hM1
  have hF := mw_fu hM1 hF (Or.inl rfl)
  refine lv_aload_n hx hb dd_AL_clear_10 rfl (lv_at hl 0 rfl) ?_
  refine gf_AL_9 E hM wa rfl dd_AL_clear_11 ?_
  refine lv_astore_n (lv' := [(1, .ref r), (0, .ref a)]) hx hb dd_AL_clear_14 rfl hl (by decide) rfl (fun ls hl => ?_)
  refine lv_aload_n hx hb dd_AL_clear_15 rfl (lv_at hl 1 rfl) ?_
  refine gf_AL_48 E hM wa rfl dd_AL_clear_16 ?_
  refine lv_istore_n (lv' := [(2, .int (nI k)), (1, .ref r), (0, .ref a)]) hx hb dd_AL_clear_19 rfl hl (by decide) rfl (fun ls hl => ?_)
  refine lv_aload_n hx hb dd_AL_clear_20 rfl (lv_at hl 2 rfl) ?_
  refine lv_iconst (v := nI 0) hx hb dd_AL_clear_21 (by decide) ?_
  refine lv_dup_x1 hx hb dd_AL_clear_22 rfl rfl ?_
  refine pf_AL_48 E hM hS wa (Nat.le_of_ble_eq_true rfl) dd_AL_clear_23 (fun H locs hM hS => ?_)
  have hM : mw_at D mg_cl z (va_up M1 a (some (.inr (4, [.ref r, .int (nI 0), .int (mo + (nI 1))])))) H := hM
  obtain ⟨M1, hM1⟩ : ∃ M9 : mw_M, M9 = va_up M1 a (some (.inr (4, [.ref r, .int (nI 0), .int (mo + (nI 1))]))) := ⟨_, rfl⟩
  rw [← hM1] at hM
  have wr := mw_uu hM1 wr (mw_ne wr wa (fun q => by cases q))
  have wa := mw_us hM1
  have hF := mw_fu hM1 hF (Or.inl rfl)
  refine lv_istore_n (lv' := [(3, .int (nI 0)), (2, .int (nI k)), (1, .ref r), (0, .ref a)]) hx hb dd_AL_clear_26 rfl hl (by decide) rfl (fun ls hl => ?_)
  have loop27 : ∀ (d : Nat) (i : Nat) (g1 : Nat → Option Nat) (M1 : mw_M) (H : Heap) (locs : List Loc) (ls : Array Slot), i + d = k → M1 a = some (.inr (4, [.ref r, .int (nI 0), .int (mo + nI 1)])) → M1 r = some (.inl (D.1 103, cap, .inr (.inr (.inr (.inr g1))))) → mw_fr (fun q => q = a ∨ q = r) M M1 → mw_at D mg_cl z M1 H → va_S (mw_A z) s.heap H locs → lv_has ls 4 [(3, .int (nI i)), (2, .int (nI k)), (1, .ref r), (0, .ref a)] → W p l e ({ frames := 0, cells := 0, slots := 0, locals := 0 } : Room) s m ([.ref a] : List Value).toArray below meth c H locs (0) (0) (MQ below (mw_Q D z (fun v M' => v = none ∧ M' a = some (.inr (4, [.ref r, .int (nI 0), .int (mo + nI 1)])) ∧ (∃ g2, M' r = some (.inl (D.1 103, cap, .inr (.inr (.inr (.inr g2)))))) ∧ mw_fr (fun q => q = a ∨ q = r) M M')) ([.ref a] : List Value).toArray s 0 0 (mw_A z)) (F0 m 27 ls []) := by
    intro d
    induction d with
    | zero =>
      intro i g1 M1 H locs ls hi wa wr hF hM hS hl
      refine lv_iload_n hx hb dd_AL_clear_27 rfl (lv_at hl 0 rfl) ?_
      refine lv_iload_n hx hb dd_AL_clear_28 rfl (lv_at hl 1 rfl) ?_
      refine lv_icmp_ge (tgt := 42) hx hb dd_AL_clear_29 (by decide) (fun h29 => ?_) (fun h29 => ?_)
      ·
        rw [nI_leI (by omega) (by omega)] at h29
        refine mr_v E hr hk hM hS (by decide) (by decide) ?_ dd_AL_clear_42
        exact ⟨rfl, wa, ⟨_, wr⟩, hF⟩
      ·
        rw [nI_leI (by omega) (by omega)] at h29
        omega
    | succ d ih =>
      intro i g1 M1 H locs ls hi wa wr hF hM hS hl
      refine lv_iload_n hx hb dd_AL_clear_27 rfl (lv_at hl 0 rfl) ?_
      refine lv_iload_n hx hb dd_AL_clear_28 rfl (lv_at hl 1 rfl) ?_
      refine lv_icmp_ge (tgt := 42) hx hb dd_AL_clear_29 (by decide) (fun h29 => ?_) (fun h29 => ?_)
      ·
        rw [nI_leI (by omega) (by omega)] at h29
        omega
      ·
        rw [nI_leI (by omega) (by omega)] at h29
        refine lv_aload_n hx hb dd_AL_clear_32 rfl (lv_at hl 2 rfl) ?_
        refine lv_iload_n hx hb dd_AL_clear_33 rfl (lv_at hl 0 rfl) ?_
        refine lv_null hx hb dd_AL_clear_34 ?_
        refine mw_astqN hx hb E.K hM E.zz hS 3 wr rfl (vp_in_nI (by omega) (by omega)) dd_AL_clear_35 (fun H locs hM hS => ?_)
        rw [nI_clamp (by omega)] at hM
        have hM : mw_at D mg_cl z (va_up M1 r (some (.inl (D.1 103, cap, .inr (.inr (.inr (.inr (va_up g1 i none)))))))) H := hM
        obtain ⟨M1, hM1⟩ : ∃ M9 : mw_M, M9 = va_up M1 r (some (.inl (D.1 103, cap, .inr (.inr (.inr (.inr (va_up g1 i none))))))) := ⟨_, rfl⟩
        rw [← hM1] at hM
        have wa := mw_uu hM1 wa (mw_ne wa wr (fun q => by cases q))
        have wr := mw_us hM1
        have hF := mw_fu hM1 hF (Or.inr rfl)
        refine lv_iinc (k := 0) (v := nI (i + 1)) (lv' := [(3, .int (nI (i + 1))), (2, .int (nI k)), (1, .ref r), (0, .ref a)]) hx hb dd_AL_clear_36 hl rfl (nI_1 _) (by decide) rfl (fun ls hl => ?_)
        refine lv_goto (tgt := 27) hx hb dd_AL_clear_39 (by decide) ?_
        exact ih (i + 1) (va_up g1 i none) M1 H locs ls (by omega) wa wr hF hM hS (lv_sub hl [0, 1, 2, 3] rfl)
  exact loop27 k 0 g M1 H locs ls (by omega) wa wr hF hM hS (lv_sub hl [0, 1, 2, 3] rfl)
theorem cc_AL_clear_0 (l : Launch) (D : va_G) (z : Nat) (M : mw_M) (a : Nat) (mo : Int32) (wa : M a = some (.inr (4, [.ref (D.2 200 0), .int (nI 0), .int mo]))) : mw_C l yy_AL_clear bb_AL_clear 4 (Option.none : Option Jvm.ClassFile.FieldType) 0 0 0 0 D z M [.ref a] (fun v M' => v = none ∧ M' a = some (.inr (4, [.ref (D.2 200 0), .int (nI 0), .int (mo + nI 1)])) ∧ mw_fr (fun q => q = a) M M') := by
  refine mw_of (by decide) (Nat.le_of_ble_eq_true rfl) ?_
  intro p e s m below meth c ls E hr hk hnm hM hl
  have hx := E.x
  have hb := E.b
  have E : mw_E p m c bb_AL_clear 4 s _ D z "java/util/ArrayList" := E
  have hl : lv_has ls 4 [(0, .ref a)] := hl
  have hS : va_S (mw_A z) s.heap s.heap [] := va_S.rf
  have hF : mw_fr (fun q => q = a) M M := mw_fr.rf
  refine lv_aload_n hx hb dd_AL_clear_0 rfl (lv_at hl 0 rfl) ?_
  refine lv_dup hx hb dd_AL_clear_1 rfl ?_
  refine gf_AL_63 E hM wa rfl dd_AL_clear_2 ?_
  refine lv_iconst (v := nI 1) hx hb dd_AL_clear_5 (by decide) ?_
  refine lv_iadd hx hb dd_AL_clear_6 ?_
  refine pf_AL_63 E hM hS wa (Nat.le_of_ble_eq_true rfl) dd_AL_clear_7 (fun H locs hM hS => ?_)
  have hM : mw_at D mg_cl z (va_up M a (some (.inr (4, [.ref ((D.2 200 0)), .int (nI 0), .int (mo + (nI 1))])))) H := hM
  obtain ⟨M1, hM1⟩ : ∃ M9 : mw_M, M9 = va_up M a (some (.inr (4, [.ref ((D.2 200 0)), .int (nI 0), .int (mo + (nI 1))]))) := ⟨_, rfl⟩
  rw [← hM1] at hM
  have wa := mw_us hM1
  have hF := mw_fu hM1 hF (rfl)
  refine lv_aload_n hx hb dd_AL_clear_10 rfl (lv_at hl 0 rfl) ?_
  refine gf_AL_9 E hM wa rfl dd_AL_clear_11 ?_
  refine lv_astore_n (lv' := [(1, .ref ((D.2 200 0))), (0, .ref a)]) hx hb dd_AL_clear_14 rfl hl (by decide) rfl (fun ls hl => ?_)
  refine lv_aload_n hx hb dd_AL_clear_15 rfl (lv_at hl 1 rfl) ?_
  refine gf_AL_48 E hM wa rfl dd_AL_clear_16 ?_
  refine lv_istore_n (lv' := [(2, .int (nI 0)), (1, .ref ((D.2 200 0))), (0, .ref a)]) hx hb dd_AL_clear_19 rfl hl (by decide) rfl (fun ls hl => ?_)
  refine lv_aload_n hx hb dd_AL_clear_20 rfl (lv_at hl 2 rfl) ?_
  refine lv_iconst (v := nI 0) hx hb dd_AL_clear_21 (by decide) ?_
  refine lv_dup_x1 hx hb dd_AL_clear_22 rfl rfl ?_
  refine pf_AL_48 E hM hS wa (Nat.le_of_ble_eq_true rfl) dd_AL_clear_23 (fun H locs hM hS => ?_)
  have hM : mw_at D mg_cl z (va_up M1 a (some (.inr (4, [.ref ((D.2 200 0)), .int (nI 0), .int (mo + (nI 1))])))) H := hM
  obtain ⟨M1, hM1⟩ : ∃ M9 : mw_M, M9 = va_up M1 a (some (.inr (4, [.ref ((D.2 200 0)), .int (nI 0), .int (mo + (nI 1))]))) := ⟨_, rfl⟩
  rw [← hM1] at hM
  have wa := mw_us hM1
  have hF := mw_fu hM1 hF (rfl)
  refine lv_istore_n (lv' := [(3, .int (nI 0)), (2, .int (nI 0)), (1, .ref ((D.2 200 0))), (0, .ref a)]) hx hb dd_AL_clear_26 rfl hl (by decide) rfl (fun ls hl => ?_)
  refine lv_iload_n hx hb dd_AL_clear_27 rfl (lv_at hl 0 rfl) ?_
  refine lv_iload_n hx hb dd_AL_clear_28 rfl (lv_at hl 1 rfl) ?_
  refine lv_icmp_ge (tgt := 42) hx hb dd_AL_clear_29 (by decide) (fun h29 => ?_) (fun h29 => ?_)
  ·
    rw [nI_leI (by omega) (by omega)] at h29
    refine mr_v E hr hk hM hS (by decide) (by decide) ?_ dd_AL_clear_42
    exact ⟨rfl, wa, hF⟩
  ·
    rw [nI_leI (by omega) (by omega)] at h29
    omega
