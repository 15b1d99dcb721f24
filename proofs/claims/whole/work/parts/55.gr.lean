/-! ArrayList: from ten places to fifteen -/
theorem kw_gci : Cond.instanceMethod (⟨"java/lang/Object", "getClass", "()Ljava/lang/Class;"⟩ : MethodName) ∈ lw_gt := lw_in 515 (by decide +kernel) (by decide +kernel)
theorem kw_gcn : Cond.native (⟨"java/lang/Object", "getClass", "()Ljava/lang/Class;"⟩ : MethodName) ∈ lw_gt := lw_in 531 (by decide +kernel) (by decide +kernel)
theorem kw_gcs : Cond.selects "[Ljava/lang/Object;" (⟨"java/lang/Object", "getClass", "()Ljava/lang/Class;"⟩ : MethodName) (⟨"java/lang/Object", "getClass", "()Ljava/lang/Class;"⟩ : MethodName) ∈ lw_gt := lw_in 1358 (by decide +kernel) (by decide +kernel)
theorem el_un {M M1 : mw_M} {a : Nat} {x : va_E} {f : Nat → Option Nat} {k : Nat} (h : M1 = va_up M a (some x)) (hq : M a = none) (hel : el_ok M f k) : el_ok M1 f k := fun i hi y hy => by
  obtain ⟨ci, vs, rr, w, h1, h2⟩ := hel i hi y hy
  exact ⟨ci, vs, rr, mw_un h hq w, h1, h2⟩
theorem cc_AS_newLength (l : Launch) (D : va_G) (z : Nat) (M : mw_M)   : mw_C l yy_AS_newLength bb_AS_newLength 4 (Option.some Jvm.ClassFile.FieldType.int) 1 21 0 0 D z M [.int (nI 10), .int (nI 1), .int (nI 5)] (fun v M' => v = some (.int (nI 15)) ∧ M' = M) := by
  refine mw_of (by decide) (Nat.le_of_ble_eq_true rfl) ?_
  intro p e s m below meth c ls E hr hk hnm hM hl
  have hx := E.x
  have hb := E.b
  have E : mw_E p m c bb_AS_newLength 4 s _ D z "jdk/internal/util/ArraysSupport" := E
  have hl : lv_has ls 4 [(0, .int (nI 10)), (1, .int (nI 1)), (2, .int (nI 5))] := hl
  have hS : va_S (mw_A z) s.heap s.heap [] := va_S.rf
  refine lv_iload_n hx hb dd_AS_newLength_0 rfl (lv_at hl 0 rfl) ?_
  refine lv_iload_n hx hb dd_AS_newLength_1 rfl (lv_at hl 1 rfl) ?_
  refine lv_iload_n hx hb dd_AS_newLength_2 rfl (lv_at hl 2 rfl) ?_
  refine va_mmax hx hb (E.ml.trans hl.1.symm) E.o (E.t _ tw_AS_194) (E.t _ kv_Ma_max) (E.t _ tw_ini_Ma) (E.t _ ky_Ma_max.1) (Nat.le_of_ble_eq_true rfl) (Nat.le_of_ble_eq_true rfl) (by decide) (by decide) dd_AS_newLength_3 ?_
  refine mw_topi (y := nI 5) (by decide) ?_
  refine lv_iadd hx hb dd_AS_newLength_6 ?_
  refine mw_topi (y := nI (10 + 5)) (nI_add _ _) ?_
  refine lv_istore_n (lv' := [(3, .int (nI (10 + 5))), (0, .int (nI 10)), (1, .int (nI 1)), (2, .int (nI 5))]) hx hb dd_AS_newLength_7 rfl hl (by decide) rfl (fun ls hl => ?_)
  refine lv_iconst (v := nI 0) hx hb dd_AS_newLength_8 (by decide) ?_
  refine lv_iload_n hx hb dd_AS_newLength_9 rfl (lv_at hl 0 rfl) ?_
  refine lv_icmp_ge (tgt := 21) hx hb dd_AS_newLength_10 (by decide) (fun h10 => ?_) (fun h10 => ?_)
  ·
    rw [nI_leI (by omega) (by omega)] at h10
    omega
  ·
    rw [nI_leI (by omega) (by omega)] at h10
    refine lv_iload_n hx hb dd_AS_newLength_13 rfl (lv_at hl 0 rfl) ?_
    refine lv_ldc (v := 2147483639) hx hb E.o (E.t _ tw_AS_200) dd_AS_newLength_14 ?_
    refine mw_topi (y := nI 2147483639) (by decide) ?_
    refine lv_icmp_gt (tgt := 21) hx hb dd_AS_newLength_16 (by decide) (fun h16 => ?_) (fun h16 => ?_)
    ·
      rw [nI_ltI (by omega) (by omega)] at h16
      omega
    ·
      rw [nI_ltI (by omega) (by omega)] at h16
      refine lv_iload_n hx hb dd_AS_newLength_19 rfl (lv_at hl 0 rfl) ?_
      refine mr_i E hr hk hM hS (by decide) (by decide) ?_ dd_AS_newLength_20
      exact ⟨rfl, rfl⟩
theorem cc_Ar_copyOf2 (l : Launch) (D : va_G) (z : Nat) (M : mw_M) (r : Nat) (L0 : List Nat) (g : Nat → Option Nat) (hA : mn_l L0 M) (wr : M r = some (.inl (D.1 103, 10, .inr (.inr (.inr (.inr g)))))) (hel : el_ok M g 10) : mw_C l yy_Ar_copyOf2 bb_Ar_copyOf2 4 (Option.some (Jvm.ClassFile.FieldType.array (Jvm.ClassFile.FieldType.object "java/lang/Object"))) 1 26 1 15 D z M [.ref r, .int (nI 15), .ref ((D.2 200 6))] (fun v M' => ∃ q, v = some (.ref q) ∧ M' q = some (.inl (D.1 103, 15, .inr (.inr (.inr (.inr (va_cpy g (fun _ => none) 0 0 10)))))) ∧ mn_l (q :: L0) M' ∧ mw_fr (fun q => q ∉ L0) M M') := by
  refine mw_of (by decide) (Nat.le_of_ble_eq_true rfl) ?_
  intro p e s m below meth c ls E hr hk hnm hM hl
  have hx := E.x
  have hb := E.b
  have E : mw_E p m c bb_Ar_copyOf2 4 s _ D z "java/util/Arrays" := E
  have hl : lv_has ls 4 [(0, .ref r), (1, .int (nI 15)), (2, .ref ((D.2 200 6)))] := hl
  have hS : va_S (mw_A z) s.heap s.heap [] := va_S.rf
  have hF : mw_fr (fun q => q ∉ L0) M M := mw_fr.rf
  refine lv_aload_n hx hb dd_Ar_copyOf2_0 rfl (lv_at hl 2 rfl) ?_
  refine va_ldcM hx hb E.o (E.t _ tw_Ar_110) E.N.2.2.2.2.2.2.1 dd_Ar_copyOf2_1 ?_
  refine lv_acmp_ne (rx := some ((D.2 200 6))) (ry := some ((D.2 200 6))) (tgt := 13) hx hb dd_Ar_copyOf2_3 (by decide) (fun h => absurd rfl h) (fun _ => ?_)
  refine lv_iload_n hx hb dd_Ar_copyOf2_6 rfl (lv_at hl 1 rfl) ?_
  have wr0 := wr
  refine mw_newq (C := "java/lang/Object") hx hb E.o (E.t _ tw_Ar_2) E.N.2.2.2.1 E.K hM E.zz hS 3 rfl (N' := 15) (by decide) (by decide) (by decide) (by decide) (by decide) dd_Ar_copyOf2_7 (fun q7 H hq7 hM hS => ?_)
  have hM : mw_at D mg_cl z (va_up M q7 (some (.inl (D.1 103, 15, .inr (.inr (.inr (.inr (fun _ => none)))))))) H := hM
  obtain ⟨M1, hM1⟩ : ∃ M9 : mw_M, M9 = va_up M q7 (some (.inl (D.1 103, 15, .inr (.inr (.inr (.inr (fun _ => none))))))) := ⟨_, rfl⟩
  rw [← hM1] at hM
  have wr := mw_un hM1 hq7 wr
  have w_q7 := mw_us hM1
  have hF := mw_fn hM1 hq7 hF
  have hA := mn_nn hM1 hq7 hA
  refine lv_goto (tgt := 24) hx hb dd_Ar_copyOf2_10 (by decide) ?_
  refine lv_astore_n (lv' := [(3, .ref q7), (0, .ref r), (1, .int (nI 15)), (2, .ref ((D.2 200 6)))]) hx hb dd_Ar_copyOf2_24 rfl hl (by decide) rfl (fun ls hl => ?_)
  refine lv_aload_n hx hb dd_Ar_copyOf2_25 rfl (lv_at hl 1 rfl) ?_
  refine lv_iconst (v := nI 0) hx hb dd_Ar_copyOf2_26 (by decide) ?_
  refine lv_aload_n hx hb dd_Ar_copyOf2_27 rfl (lv_at hl 0 rfl) ?_
  refine lv_iconst (v := nI 0) hx hb dd_Ar_copyOf2_28 (by decide) ?_
  refine lv_aload_n hx hb dd_Ar_copyOf2_29 rfl (lv_at hl 1 rfl) ?_
  refine mw_alen (v := nI 10) hx hb E.K hM 3 wr rfl rfl dd_Ar_copyOf2_30 ?_
  refine lv_iload_n hx hb dd_Ar_copyOf2_31 rfl (lv_at hl 2 rfl) ?_
  refine va_mmin hx hb (E.ml.trans hl.1.symm) E.o (E.t _ tw_Ar_304) (E.t _ kv_Ma_min) (E.t _ tw_ini_Ma) (E.t _ ky_Ma_min.1) (Nat.le_of_ble_eq_true rfl) (Nat.le_of_ble_eq_true rfl) (by decide) (by decide) dd_Ar_copyOf2_32 ?_
  refine mw_topi (y := nI 10) (by decide) ?_
  have hel := el_un hM1 hq7 hel
  refine mw_copy (sp := 0) (dp := 0) (n := 10) E hl.1 tw_Ar_150 hM hS wr w_q7 (by omega) (by omega) (by omega) (by omega) hel (Nat.le_of_ble_eq_true rfl) (by decide) dd_Ar_copyOf2_35 (fun H locs hM hS => ?_)
  have hM : mw_at D mg_cl z (va_up M1 q7 (some (.inl (D.1 103, 15, .inr (.inr (.inr (.inr (va_cpy g (fun _ => none) 0 0 10)))))))) H := hM
  obtain ⟨M1, hM1⟩ : ∃ M9 : mw_M, M9 = va_up M1 q7 (some (.inl (D.1 103, 15, .inr (.inr (.inr (.inr (va_cpy g (fun _ => none) 0 0 10))))))) := ⟨_, rfl⟩
  rw [← hM1] at hM
  have wr := mw_uu hM1 wr (mw_neN wr0 hq7)
  have w_q7 := mw_us hM1
  have hA := mn_uu hM1 hA
  have hF := mw_fu hM1 hF (mn_out (pre := q7 :: ([])) hA 0 rfl)
  refine lv_aload_n hx hb dd_Ar_copyOf2_38 rfl (lv_at hl 0 rfl) ?_
  refine mr_a E hr hk (Or.inr ⟨_, rfl⟩) (Or.inr ⟨_, rfl⟩) hM hS (by decide) (by decide) ?_ dd_Ar_copyOf2_39
  exact ⟨q7, rfl, w_q7, hA, hF⟩
theorem cc_Ar_copyOf (l : Launch) (D : va_G) (z : Nat) (M : mw_M) (r : Nat) (L0 : List Nat) (g : Nat → Option Nat) (hA : mn_l L0 M) (wr : M r = some (.inl (D.1 103, 10, .inr (.inr (.inr (.inr g)))))) (hel : el_ok M g 10) : mw_C l yy_Ar_copyOf bb_Ar_copyOf 2 (Option.some (Jvm.ClassFile.FieldType.array (Jvm.ClassFile.FieldType.object "java/lang/Object"))) 2 49 1 15 D z M [.ref r, .int (nI 15)] (fun v M' => ∃ q, v = some (.ref q) ∧ M' q = some (.inl (D.1 103, 15, .inr (.inr (.inr (.inr (va_cpy g (fun _ => none) 0 0 10)))))) ∧ mn_l (q :: L0) M' ∧ mw_fr (fun q => q ∉ L0) M M') := by
  refine mw_of (by decide) (Nat.le_of_ble_eq_true rfl) ?_
  intro p e s m below meth c ls E hr hk hnm hM hl
  have hx := E.x
  have hb := E.b
  have E : mw_E p m c bb_Ar_copyOf 2 s _ D z "java/util/Arrays" := E
  have hl : lv_has ls 2 [(0, .ref r), (1, .int (nI 15))] := hl
  have hS : va_S (mw_A z) s.heap s.heap [] := va_S.rf
  have hF : mw_fr (fun q => q ∉ L0) M M := mw_fr.rf
  refine lv_aload_n hx hb dd_Ar_copyOf_0 rfl (lv_at hl 0 rfl) ?_
  refine lv_iload_n hx hb dd_Ar_copyOf_1 rfl (lv_at hl 1 rfl) ?_
  refine lv_aload_n hx hb dd_Ar_copyOf_2 rfl (lv_at hl 0 rfl) ?_
  refine va_getC hx hb (E.ml.trans hl.1.symm) E.o (E.t _ tw_Ar_86) (va_Dc.use E.N.2.2.2.2.2.2.2) (E.t _ kw_gcs) (E.t _ kw_gci) (E.t _ kw_gcn) E.N.2.2.2.2.2.2.1 (mw_recvA E hM wr) (Nat.le_of_ble_eq_true rfl) (Nat.le_of_ble_eq_true rfl) dd_Ar_copyOf_3 ?_
  refine mw_S (As := [.ref r, .int (nI 15), .ref ((D.2 200 6))]) (rest := []) E (cc_Ar_copyOf2 l D z (M) r (L0) g hA wr hel) ky_Ar_copyOf2 kv_Ar_copyOf2 tw_Ar_300 hM hS rfl hl.1 rfl (Nat.le_of_ble_eq_true rfl) dd_Ar_copyOf_6 (by decide) (by decide) (fun v M1 H locs hp hM hS => ?_)
  obtain ⟨q, rfl, wq, hA, hF2⟩ := hp
  have hF := hF.trans hF2
  refine W.eq (g2 := F0 m 9 ls [.ref q]) rfl ?_
  refine mr_a E hr hk (Or.inr ⟨_, rfl⟩) (Or.inr ⟨_, rfl⟩) hM hS (by decide) (by decide) ?_ dd_Ar_copyOf_9
  exact ⟨q, rfl, wq, hA, hF⟩
theorem cc_AL_grow2_10 (l : Launch) (D : va_G) (z : Nat) (M : mw_M) (a r : Nat) (L0 : List Nat) (mo : Int32) (g : Nat → Option Nat) (hA : mn_l (a :: L0) M) (wa : M a = some (.inr (4, [.ref r, .int (nI 10), .int mo]))) (wr : M r = some (.inl (D.1 103, 10, .inr (.inr (.inr (.inr g)))))) (hel : el_ok M g 10) : mw_C l yy_AL_grow2 bb_AL_grow2 4 (Option.some (Jvm.ClassFile.FieldType.array (Jvm.ClassFile.FieldType.object "java/lang/Object"))) 3 70 1 15 D z M [.ref a, .int (nI 11)] (fun v M' => ∃ q, v = some (.ref q) ∧ M' a = some (.inr (4, [.ref q, .int (nI 10), .int mo])) ∧ M' q = some (.inl (D.1 103, 15, .inr (.inr (.inr (.inr (va_cpy g (fun _ => none) 0 0 10)))))) ∧ mn_l (q :: (a :: L0)) M' ∧ mw_fr (fun q => q ∉ L0) M M') := by
  refine mw_of (by decide) (Nat.le_of_ble_eq_true rfl) ?_
  intro p e s m below meth c ls E hr hk hnm hM hl
  have hx := E.x
  have hb := E.b
  have E : mw_E p m c bb_AL_grow2 4 s _ D z "java/util/ArrayList" := E
  have hl : lv_has ls 4 [(0, .ref a), (1, .int (nI 11))] := hl
  have hS : va_S (mw_A z) s.heap s.heap [] := va_S.rf
  have hF : mw_fr (fun q => q ∉ L0) M M := mw_fr.rf
  refine lv_aload_n hx hb dd_AL_grow2_0 rfl (lv_at hl 0 rfl) ?_
  refine gf_AL_9 E hM wa rfl dd_AL_grow2_1 ?_
  refine mw_alen (v := nI 10) hx hb E.K hM 3 wr rfl rfl dd_AL_grow2_4 ?_
  refine lv_istore_n (lv' := [(2, .int (nI 10)), (0, .ref a), (1, .int (nI 11))]) hx hb dd_AL_grow2_5 rfl hl (by decide) rfl (fun ls hl => ?_)
  refine lv_iload_n hx hb dd_AL_grow2_6 rfl (lv_at hl 0 rfl) ?_
  refine lv_if_gt (tgt := 20) hx hb dd_AL_grow2_7 (by decide) (fun h7 => ?_) (fun h7 => ?_)
  ·
    refine lv_iload_n hx hb dd_AL_grow2_20 rfl (lv_at hl 0 rfl) ?_
    refine lv_iload_n hx hb dd_AL_grow2_21 rfl (lv_at hl 2 rfl) ?_
    refine lv_iload_n hx hb dd_AL_grow2_22 rfl (lv_at hl 0 rfl) ?_
    refine lv_isub hx hb dd_AL_grow2_23 ?_
    refine mw_topi (y := nI 1) (by decide) ?_
    refine lv_iload_n hx hb dd_AL_grow2_24 rfl (lv_at hl 0 rfl) ?_
    refine lv_iconst (v := nI 1) hx hb dd_AL_grow2_25 (by decide) ?_
    refine lv_ishr hx hb dd_AL_grow2_26 ?_
    refine mw_topi (y := nI 5) (by decide) ?_
    refine mw_S (As := [.int (nI 10), .int (nI 1), .int (nI 5)]) (rest := []) E (cc_AS_newLength l D z (M)) ky_AS_newLength kv_AS_newLength tw_AL_73 hM hS rfl hl.1 rfl (Nat.le_of_ble_eq_true rfl) dd_AL_grow2_27 (by decide) (by decide) (fun v M1 H locs hp hM hS => ?_)
    obtain ⟨rfl, hq⟩ := hp
    have hq := hq.symm
    subst hq
    refine W.eq (g2 := F0 m 30 ls [.int (nI 15)]) rfl ?_
    refine lv_istore_n (lv' := [(3, .int (nI 15)), (2, .int (nI 10)), (0, .ref a), (1, .int (nI 11))]) hx hb dd_AL_grow2_30 rfl hl (by decide) rfl (fun ls hl => ?_)
    refine lv_aload_n hx hb dd_AL_grow2_31 rfl (lv_at hl 2 rfl) ?_
    refine lv_aload_n hx hb dd_AL_grow2_32 rfl (lv_at hl 2 rfl) ?_
    refine gf_AL_9 E hM wa rfl dd_AL_grow2_33 ?_
    refine lv_iload_n hx hb dd_AL_grow2_36 rfl (lv_at hl 0 rfl) ?_
    refine mw_S (As := [.ref r, .int (nI 15)]) (rest := [.ref a]) E (cc_Ar_copyOf l D z (M) r (a :: L0) g hA wr hel) ky_Ar_copyOf kv_Ar_copyOf tw_AL_66 hM hS rfl hl.1 rfl (Nat.le_of_ble_eq_true rfl) dd_AL_grow2_37 (by decide) (by decide) (fun v M1 H locs hp hM hS => ?_)
    obtain ⟨q, rfl, wq, hA, hF2⟩ := hp
    have wa := hF2.at wa (mn_in 0 rfl)
    have hF := hF.trans (hF2.mono (fun q h => mn_suf (pre := [a]) q h))
    refine W.eq (g2 := F0 m 40 ls [.ref q, .ref a]) rfl ?_
    refine lv_dup_x1 hx hb dd_AL_grow2_40 rfl rfl ?_
    refine pf_AL_9 E hM hS wa (Nat.le_of_ble_eq_true rfl) dd_AL_grow2_41 (fun H locs hM hS => ?_)
    have hM : mw_at D mg_cl z (va_up M1 a (some (.inr (4, [.ref q, .int (nI 10), .int (mo)])))) H := hM
    obtain ⟨M1, hM1⟩ : ∃ M9 : mw_M, M9 = va_up M1 a (some (.inr (4, [.ref q, .int (nI 10), .int (mo)]))) := ⟨_, rfl⟩
    rw [← hM1] at hM
    have wq := mw_uu hM1 wq (mw_ne wq wa (fun q => by cases q))
    have wa := mw_us hM1
    have hA := mn_uu hM1 hA
    have hF := mw_fu hM1 hF (mn_out (pre := q :: (a :: ([]))) hA 1 rfl)
    refine mr_a E hr hk (Or.inr ⟨_, rfl⟩) (Or.inr ⟨_, rfl⟩) hM hS (by decide) (by decide) ?_ dd_AL_grow2_44
    exact ⟨q, rfl, wa, wq, hA, hF⟩
  ·
    exact absurd (by decide) h7
theorem cc_AL_grow_10 (l : Launch) (D : va_G) (z : Nat) (M : mw_M) (a r : Nat) (L0 : List Nat) (mo : Int32) (g : Nat → Option Nat) (hA : mn_l (a :: L0) M) (wa : M a = some (.inr (4, [.ref r, .int (nI 10), .int mo]))) (wr : M r = some (.inl (D.1 103, 10, .inr (.inr (.inr (.inr g)))))) (hel : el_ok M g 10) : mw_C l yy_AL_grow bb_AL_grow 1 (Option.some (Jvm.ClassFile.FieldType.array (Jvm.ClassFile.FieldType.object "java/lang/Object"))) 4 93 1 15 D z M [.ref a] (fun v M' => ∃ q, v = some (.ref q) ∧ M' a = some (.inr (4, [.ref q, .int (nI 10), .int mo])) ∧ M' q = some (.inl (D.1 103, 15, .inr (.inr (.inr (.inr (va_cpy g (fun _ => none) 0 0 10)))))) ∧ mn_l (q :: (a :: L0)) M' ∧ mw_fr (fun q => q ∉ L0) M M') := by
  refine mw_of (by decide) (Nat.le_of_ble_eq_true rfl) ?_
  intro p e s m below meth c ls E hr hk hnm hM hl
  have hx := E.x
  have hb := E.b
  have E : mw_E p m c bb_AL_grow 1 s _ D z "java/util/ArrayList" := E
  have hl : lv_has ls 1 [(0, .ref a)] := hl
  have hS : va_S (mw_A z) s.heap s.heap [] := va_S.rf
  have hF : mw_fr (fun q => q ∉ L0) M M := mw_fr.rf
  refine lv_aload_n hx hb dd_AL_grow_0 rfl (lv_at hl 0 rfl) ?_
  refine lv_aload_n hx hb dd_AL_grow_1 rfl (lv_at hl 0 rfl) ?_
  refine gf_AL_48 E hM wa rfl dd_AL_grow_2 ?_
  refine lv_iconst (v := nI 1) hx hb dd_AL_grow_5 (by decide) ?_
  refine lv_iadd hx hb dd_AL_grow_6 ?_
  refine mw_topi (y := nI (10 + 1)) (nI_add _ _) ?_
  refine mw_topi (y := nI 11) (by decide) ?_
  refine mw_V (As := [.int (nI 11)]) (rest := []) E (cc_AL_grow2_10 l D z (M) a r L0 (mo) g hA wa wr hel) ky_AL_grow2 kv_AL_grow2 tw_AL_69 hM hS wa rfl rfl rfl hl.1 rfl (Nat.le_of_ble_eq_true rfl) dd_AL_grow_7 (by decide) (by decide) (fun v M1 H locs hp hM hS => ?_)
  obtain ⟨q, rfl, wa, wq, hA, hF2⟩ := hp
  have hF := hF.trans hF2
  refine W.eq (g2 := F0 m 10 ls [.ref q]) rfl ?_
  refine mr_a E hr hk (Or.inr ⟨_, rfl⟩) (Or.inr ⟨_, rfl⟩) hM hS (by decide) (by decide) ?_ dd_AL_grow_10
  exact ⟨q, rfl, wa, wq, hA, hF⟩
theorem cc_AL_add2_10 (l : Launch) (D : va_G) (z : Nat) (M : mw_M) (a r : Nat) (L0 : List Nat) (mo : Int32) (g : Nat → Option Nat) (y ci : Nat) (rr : vw_C) (vs : List Value) (hA : mn_l (a :: L0) M) (wa : M a = some (.inr (4, [.ref r, .int (nI 10), .int mo]))) (wr : M r = some (.inl (D.1 103, 10, .inr (.inr (.inr (.inr g)))))) (hel : el_ok M g 10) (wy : M y = some (.inr (ci, vs))) (hci : mg_cl[ci]? = some rr) (hcs : (rr.1, "java/lang/Object") ∈ lw_cN) (hyl : y ∈ L0) : mw_C l yy_AL_add2 bb_AL_add2 4 (Option.none : Option Jvm.ClassFile.FieldType) 5 113 1 15 D z M [.ref a, .ref y, .ref r, .int (nI 10)] (fun v M' => v = none ∧ ∃ q, M' a = some (.inr (4, [.ref q, .int (nI 11), .int (mo)])) ∧ M' q = some (.inl (D.1 103, 15, .inr (.inr (.inr (.inr (va_up (va_cpy g (fun _ => none) 0 0 10) 10 (some y))))))) ∧ mn_l (q :: (a :: L0)) M' ∧ mw_fr (fun q => q ∉ L0) M M') := by
  refine mw_of (by decide) (Nat.le_of_ble_eq_true rfl) ?_
  intro p e s m below meth c ls E hr hk hnm hM hl
  have hx := E.x
  have hb := E.b
  have E : mw_E p m c bb_AL_add2 4 s _ D z "java/util/ArrayList" := E
  have hl : lv_has ls 4 [(0, .ref a), (1, .ref y), (2, .ref r), (3, .int (nI 10))] := hl
  have hS : va_S (mw_A z) s.heap s.heap [] := va_S.rf
  have hF : mw_fr (fun q => q ∉ L0) M M := mw_fr.rf
  refine lv_iload_n hx hb dd_AL_add2_0 rfl (lv_at hl 3 rfl) ?_
  refine lv_aload_n hx hb dd_AL_add2_1 rfl (lv_at hl 2 rfl) ?_
  refine mw_alen (v := nI 10) hx hb E.K hM 3 wr rfl rfl dd_AL_add2_2 ?_
  refine lv_icmp_ne (tgt := 11) hx hb dd_AL_add2_3 (by decide) (fun h3 => ?_) (fun h3 => ?_)
  ·
    rw [nI_eq (by omega) (by omega)] at h3
    exact absurd rfl h3
  ·
    rw [nI_eq (by omega) (by omega)] at h3
    refine lv_aload_n hx hb dd_AL_add2_6 rfl (lv_at hl 0 rfl) ?_
    refine mw_V (As := []) (rest := []) E (cc_AL_grow_10 l D z (M) a r L0 (mo) g hA wa wr hel) ky_AL_grow kv_AL_grow tw_AL_129 hM hS wa rfl rfl rfl hl.1 rfl (Nat.le_of_ble_eq_true rfl) dd_AL_add2_7 (by decide) (by decide) (fun v M1 H locs hp hM hS => ?_)
    obtain ⟨q, rfl, wa, wq, hA, hF2⟩ := hp
    have hF := hF.trans hF2
    refine W.eq (g2 := F0 m 10 ls [.ref q]) rfl ?_
    refine lv_astore_n (lv' := [(2, .ref q), (0, .ref a), (1, .ref y), (3, .int (nI 10))]) hx hb dd_AL_add2_10 rfl hl (by decide) rfl (fun ls hl => ?_)
    have wy := hF2.at wy (fun h => h hyl)
    refine lv_aload_n hx hb dd_AL_add2_11 rfl (lv_at hl 0 rfl) ?_
    refine lv_iload_n hx hb dd_AL_add2_12 rfl (lv_at hl 3 rfl) ?_
    refine lv_aload_n hx hb dd_AL_add2_13 rfl (lv_at hl 2 rfl) ?_
    refine mw_astq hx hb E.K hM E.zz hS 3 wq rfl (E.N.2.2.1 (rr.1, "java/lang/Object") hcs) wy hci (vp_in_nI (by decide) (by decide)) dd_AL_add2_14 (fun H locs hM hS => ?_)
    rw [nI_clamp (by decide)] at hM
    have hM : mw_at D mg_cl z (va_up M1 q (some (.inl (D.1 103, 15, .inr (.inr (.inr (.inr (va_up (va_cpy g (fun _ => none) 0 0 10) 10 (some y))))))))) H := hM
    obtain ⟨M1, hM1⟩ : ∃ M9 : mw_M, M9 = va_up M1 q (some (.inl (D.1 103, 15, .inr (.inr (.inr (.inr (va_up (va_cpy g (fun _ => none) 0 0 10) 10 (some y)))))))) := ⟨_, rfl⟩
    rw [← hM1] at hM
    have wa := mw_uu hM1 wa (mw_ne wa wq (fun q => by cases q))
    have wq := mw_us hM1
    have hA := mn_uu hM1 hA
    have hF := mw_fu hM1 hF (mn_out (pre := q :: (a :: ([]))) hA 0 rfl)
    refine lv_aload_n hx hb dd_AL_add2_15 rfl (lv_at hl 1 rfl) ?_
    refine lv_iload_n hx hb dd_AL_add2_16 rfl (lv_at hl 3 rfl) ?_
    refine lv_iconst (v := nI 1) hx hb dd_AL_add2_17 (by decide) ?_
    refine lv_iadd hx hb dd_AL_add2_18 ?_
    refine mw_topi (y := nI (10 + 1)) (nI_add _ _) ?_
    refine mw_topi (y := nI 11) (by decide) ?_
    refine pf_AL_48 E hM hS wa (Nat.le_of_ble_eq_true rfl) dd_AL_add2_19 (fun H locs hM hS => ?_)
    have hM : mw_at D mg_cl z (va_up M1 a (some (.inr (4, [.ref q, .int (nI 11), .int (mo)])))) H := hM
    obtain ⟨M1, hM1⟩ : ∃ M9 : mw_M, M9 = va_up M1 a (some (.inr (4, [.ref q, .int (nI 11), .int (mo)]))) := ⟨_, rfl⟩
    rw [← hM1] at hM
    have wq := mw_uu hM1 wq (mw_ne wq wa (fun q => by cases q))
    have wa := mw_us hM1
    have hA := mn_uu hM1 hA
    have hF := mw_fu hM1 hF (mn_out (pre := q :: (a :: ([]))) hA 1 rfl)
    refine mr_v E hr hk hM hS (by decide) (by decide) ?_ dd_AL_add2_22
    exact ⟨rfl, q, wa, wq, hA, hF⟩
theorem cc_AL_add_10 (l : Launch) (D : va_G) (z : Nat) (M : mw_M) (a r : Nat) (L0 : List Nat) (mo : Int32) (g : Nat → Option Nat) (y ci : Nat) (rr : vw_C) (vs : List Value) (hA : mn_l (a :: L0) M) (wa : M a = some (.inr (4, [.ref r, .int (nI 10), .int mo]))) (wr : M r = some (.inl (D.1 103, 10, .inr (.inr (.inr (.inr g)))))) (hel : el_ok M g 10) (wy : M y = some (.inr (ci, vs))) (hci : mg_cl[ci]? = some rr) (hcs : (rr.1, "java/lang/Object") ∈ lw_cN) (hyl : y ∈ L0) (hna : ∀ j : Nat, g j ≠ some a) : mw_C l yy_AL_add bb_AL_add 2 (Option.some Jvm.ClassFile.FieldType.boolean) 6 136 1 15 D z M [.ref a, .ref y] (fun v M' => v = some (.int 1) ∧ ∃ q, M' a = some (.inr (4, [.ref q, .int (nI 11), .int (mo + nI 1)])) ∧ M' q = some (.inl (D.1 103, 15, .inr (.inr (.inr (.inr (va_up (va_cpy g (fun _ => none) 0 0 10) 10 (some y))))))) ∧ mn_l (q :: (a :: L0)) M' ∧ mw_fr (fun q => q ∉ L0) M M') := by
  refine mw_of (by decide) (Nat.le_of_ble_eq_true rfl) ?_
  intro p e s m below meth c ls E hr hk hnm hM hl
  have hx := E.x
  have hb := E.b
  have E : mw_E p m c bb_AL_add 2 s _ D z "java/util/ArrayList" := E
  have hl : lv_has ls 2 [(0, .ref a), (1, .ref y)] := hl
  have hS : va_S (mw_A z) s.heap s.heap [] := va_S.rf
  have hF : mw_fr (fun q => q ∉ L0) M M := mw_fr.rf
  refine lv_aload_n hx hb dd_AL_add_0 rfl (lv_at hl 0 rfl) ?_
  refine lv_dup hx hb dd_AL_add_1 rfl ?_
  refine gf_AL_63 E hM wa rfl dd_AL_add_2 ?_
  refine lv_iconst (v := nI 1) hx hb dd_AL_add_5 (by decide) ?_
  refine lv_iadd hx hb dd_AL_add_6 ?_
  refine pf_AL_63 E hM hS wa (Nat.le_of_ble_eq_true rfl) dd_AL_add_7 (fun H locs hM hS => ?_)
  have hM : mw_at D mg_cl z (va_up M a (some (.inr (4, [.ref r, .int (nI 10), .int (mo + (nI 1))])))) H := hM
  obtain ⟨M1, hM1⟩ : ∃ M9 : mw_M, M9 = va_up M a (some (.inr (4, [.ref r, .int (nI 10), .int (mo + (nI 1))]))) := ⟨_, rfl⟩
  rw [← hM1] at hM
  have wr := mw_uu hM1 wr (mw_ne wr wa (fun q => by cases q))
  have wa := mw_us hM1
  have hA := mn_uu hM1 hA
  have hF := mw_fu hM1 hF (mn_out (pre := a :: ([])) hA 0 rfl)
  refine lv_aload_n hx hb dd_AL_add_10 rfl (lv_at hl 0 rfl) ?_
  refine lv_aload_n hx hb dd_AL_add_11 rfl (lv_at hl 1 rfl) ?_
  refine lv_aload_n hx hb dd_AL_add_12 rfl (lv_at hl 0 rfl) ?_
  refine gf_AL_9 E hM wa rfl dd_AL_add_13 ?_
  refine lv_aload_n hx hb dd_AL_add_16 rfl (lv_at hl 0 rfl) ?_
  refine gf_AL_48 E hM wa rfl dd_AL_add_17 ?_
  have wy := mw_uu hM1 wy (fun q => absurd (q ▸ hyl) (mn_out (pre := [a]) hA 0 rfl))
  have hel := el_uu hM1 hel hna
  refine mw_V (As := [.ref y, .ref r, .int (nI 10)]) (rest := []) E (cc_AL_add2_10 l D z M1 a r L0 (mo + nI 1) g y ci rr vs hA wa wr hel wy hci hcs hyl) ky_AL_add2 kv_AL_add2 tw_AL_131 hM hS wa rfl rfl rfl hl.1 rfl (Nat.le_of_ble_eq_true rfl) dd_AL_add_20 (by decide) (by decide) (fun v M1 H locs hp hM hS => ?_)
  obtain ⟨rfl, q, wa, wq, hA, hF2⟩ := hp
  have hF := hF.trans hF2
  refine W.eq (g2 := F0 m 23 ls []) rfl ?_
  refine lv_iconst (v := nI 1) hx hb dd_AL_add_23 (by decide) ?_
  refine mr_z E hr hk hM hS (by decide) (by decide) (rfl) ?_ dd_AL_add_24
  exact ⟨rfl, q, wa, wq, hA, hF⟩
