/-! ArrayList: the first of all makes ten places -/
theorem cc_AL_grow2_0 (l : Launch) (D : va_G) (z : Nat) (M : mw_M) (a : Nat) (L0 : List Nat) (mo : Int32) (hA : mn_l (a :: L0) M) (wa : M a = some (.inr (4, [.ref (D.2 200 0), .int (nI 0), .int mo]))) : mw_C l yy_AL_grow2 bb_AL_grow2 4 (Option.some (Jvm.ClassFile.FieldType.array (Jvm.ClassFile.FieldType.object "java/lang/Object"))) 1 21 1 10 D z M [.ref a, .int (nI 1)] (fun v M' => ∃ q, v = some (.ref q) ∧ M' a = some (.inr (4, [.ref q, .int (nI 0), .int mo])) ∧ M' q = some (.inl (D.1 103, 10, .inr (.inr (.inr (.inr (fun _ => none)))))) ∧ mn_l (q :: (a :: L0)) M' ∧ mw_fr (fun q => q ∉ L0) M M') := by
  refine mw_of (by decide) (Nat.le_of_ble_eq_true rfl) ?_
  intro p e s m below meth c ls E hr hk hnm hM hl
  have hx := E.x
  have hb := E.b
  have E : mw_E p m c bb_AL_grow2 4 s _ D z "java/util/ArrayList" := E
  have hl : lv_has ls 4 [(0, .ref a), (1, .int (nI 1))] := hl
  have hS : va_S (mw_A z) s.heap s.heap [] := va_S.rf
  have hF : mw_fr (fun q => q ∉ L0) M M := mw_fr.rf
  refine lv_aload_n hx hb dd_AL_grow2_0 rfl (lv_at hl 0 rfl) ?_
  refine gf_AL_9 E hM wa rfl dd_AL_grow2_1 ?_
  refine va_tlen (v := nI 0) hx hb E.Z.1.2 hS rfl dd_AL_grow2_4 ?_
  refine lv_istore_n (lv' := [(2, .int (nI 0)), (0, .ref a), (1, .int (nI 1))]) hx hb dd_AL_grow2_5 rfl hl (by decide) rfl (fun ls hl => ?_)
  refine lv_iload_n hx hb dd_AL_grow2_6 rfl (lv_at hl 0 rfl) ?_
  refine lv_if_gt (tgt := 20) hx hb dd_AL_grow2_7 (by decide) (fun h7 => ?_) (fun h7 => ?_)
  ·
    exact absurd h7 (by decide)
  ·
    refine lv_aload_n hx hb dd_AL_grow2_10 rfl (lv_at hl 1 rfl) ?_
    refine gf_AL_9 E hM wa rfl dd_AL_grow2_11 ?_
    refine va_gets hx hb E.Z.1.1 hS E.o (E.t _ tw_AL_39) (fun _ h => h) dd_AL_grow2_14 ?_
    refine lv_acmp_eq (rx := some ((D.2 200 0))) (ry := some ((D.2 200 0))) (tgt := 45) hx hb dd_AL_grow2_17 (by decide) (fun _ => ?_) (fun h => absurd rfl h)
    refine lv_aload_n hx hb dd_AL_grow2_45 rfl (lv_at hl 1 rfl) ?_
    refine lv_bipush (v := nI 10) hx hb dd_AL_grow2_46 (by decide) ?_
    refine lv_iload_n hx hb dd_AL_grow2_48 rfl (lv_at hl 2 rfl) ?_
    refine va_mmax hx hb (E.ml.trans hl.1.symm) E.o (E.t _ tw_AL_79) (E.t _ kv_Ma_max) (E.t _ tw_ini_Ma) (E.t _ ky_Ma_max.1) (Nat.le_of_ble_eq_true rfl) (Nat.le_of_ble_eq_true rfl) (by decide) (by decide) dd_AL_grow2_49 ?_
    refine mw_topi (y := nI 10) (by decide) ?_
    refine mw_newq (C := "java/lang/Object") hx hb E.o (E.t _ tw_AL_7) E.N.2.2.2.1 E.K hM E.zz hS 3 rfl (N' := 10) (by decide) (by decide) (by decide) (by decide) (by decide) dd_AL_grow2_52 (fun q52 H hq52 hM hS => ?_)
    have hM : mw_at D mg_cl z (va_up M q52 (some (.inl (D.1 103, 10, .inr (.inr (.inr (.inr (fun _ => none)))))))) H := hM
    obtain ⟨M1, hM1⟩ : ∃ M9 : mw_M, M9 = va_up M q52 (some (.inl (D.1 103, 10, .inr (.inr (.inr (.inr (fun _ => none))))))) := ⟨_, rfl⟩
    rw [← hM1] at hM
    have wa := mw_un hM1 hq52 wa
    have w_q52 := mw_us hM1
    have hF := mw_fn hM1 hq52 hF
    have hA := mn_nn hM1 hq52 hA
    refine lv_dup_x1 hx hb dd_AL_grow2_55 rfl rfl ?_
    refine pf_AL_9 E hM hS wa (Nat.le_of_ble_eq_true rfl) dd_AL_grow2_56 (fun H locs hM hS => ?_)
    have hM : mw_at D mg_cl z (va_up M1 a (some (.inr (4, [.ref q52, .int (nI 0), .int (mo)])))) H := hM
    obtain ⟨M1, hM1⟩ : ∃ M9 : mw_M, M9 = va_up M1 a (some (.inr (4, [.ref q52, .int (nI 0), .int (mo)]))) := ⟨_, rfl⟩
    rw [← hM1] at hM
    have w_q52 := mw_uu hM1 w_q52 (mw_ne w_q52 wa (fun q => by cases q))
    have wa := mw_us hM1
    have hA := mn_uu hM1 hA
    have hF := mw_fu hM1 hF (mn_out (pre := q52 :: (a :: ([]))) hA 1 rfl)
    refine mr_a E hr hk (Or.inr ⟨_, rfl⟩) (Or.inr ⟨_, rfl⟩) hM hS (by decide) (by decide) ?_ dd_AL_grow2_59
    exact ⟨q52, rfl, wa, w_q52, hA, hF⟩
theorem cc_AL_grow_0 (l : Launch) (D : va_G) (z : Nat) (M : mw_M) (a : Nat) (L0 : List Nat) (mo : Int32) (hA : mn_l (a :: L0) M) (wa : M a = some (.inr (4, [.ref (D.2 200 0), .int (nI 0), .int mo]))) : mw_C l yy_AL_grow bb_AL_grow 1 (Option.some (Jvm.ClassFile.FieldType.array (Jvm.ClassFile.FieldType.object "java/lang/Object"))) 2 44 1 10 D z M [.ref a] (fun v M' => ∃ q, v = some (.ref q) ∧ M' a = some (.inr (4, [.ref q, .int (nI 0), .int mo])) ∧ M' q = some (.inl (D.1 103, 10, .inr (.inr (.inr (.inr (fun _ => none)))))) ∧ mn_l (q :: (a :: L0)) M' ∧ mw_fr (fun q => q ∉ L0) M M') := by
  refine mw_of (by decide) (Nat.le_of_ble_eq_true rfl) ?_
  intro p e s m below meth c ls E hr hk hnm hM hl
  have hx := E.x
  have hb := E.b
  have E : mw_E p m c bb_AL_grow 1 s _ D z "java/util/ArrayList" := E
  have hl : lv_has ls 1 [(0, .ref a)] := hl
  have hS : va_S (mw_A z) s.heap s.heap [] := va_S.rf
  have hF : mw_fr (fun q => q ∉ L0) M M := mw_fr.rf
  refine lv_aload_n hx hb dd_AL_grow_0 rfl (lv_at hl 0 rfl) ?_
  refine lv_aload_n hx hb dd_AL_grow_1 rfl (lv_at hl 0 rfl) ?_
  refine gf_AL_48 E hM wa rfl dd_AL_grow_2 ?_
  refine lv_iconst (v := nI 1) hx hb dd_AL_grow_5 (by decide) ?_
  refine lv_iadd hx hb dd_AL_grow_6 ?_
  refine mw_topi (y := nI (0 + 1)) (nI_add _ _) ?_
  refine mw_topi (y := nI 1) (by decide) ?_
  refine mw_V (As := [.int (nI 1)]) (rest := []) E (cc_AL_grow2_0 l D z (M) a L0 (mo) hA wa) ky_AL_grow2 kv_AL_grow2 tw_AL_69 hM hS wa rfl rfl rfl hl.1 rfl (Nat.le_of_ble_eq_true rfl) dd_AL_grow_7 (by decide) (by decide) (fun v M1 H locs hp hM hS => ?_)
  obtain ⟨q, rfl, wa, wq, hA, hF2⟩ := hp
  have hF := hF.trans hF2
  refine W.eq (g2 := F0 m 10 ls [.ref q]) rfl ?_
  refine mr_a E hr hk (Or.inr ⟨_, rfl⟩) (Or.inr ⟨_, rfl⟩) hM hS (by decide) (by decide) ?_ dd_AL_grow_10
  exact ⟨q, rfl, wa, wq, hA, hF⟩
theorem cc_AL_add2_0 (l : Launch) (D : va_G) (z : Nat) (M : mw_M) (a : Nat) (L0 : List Nat) (mo : Int32) (y ci : Nat) (rr : vw_C) (vs : List Value) (hA : mn_l (a :: L0) M) (wa : M a = some (.inr (4, [.ref (D.2 200 0), .int (nI 0), .int mo]))) (wy : M y = some (.inr (ci, vs))) (hci : mg_cl[ci]? = some rr) (hcs : (rr.1, "java/lang/Object") ∈ lw_cN) (hyl : y ∈ L0) : mw_C l yy_AL_add2 bb_AL_add2 4 (Option.none : Option Jvm.ClassFile.FieldType) 3 64 1 10 D z M [.ref a, .ref y, .ref ((D.2 200 0)), .int (nI 0)] (fun v M' => v = none ∧ ∃ q, M' a = some (.inr (4, [.ref q, .int (nI 1), .int (mo)])) ∧ M' q = some (.inl (D.1 103, 10, .inr (.inr (.inr (.inr (va_up (fun _ => none) 0 (some y))))))) ∧ mn_l (q :: (a :: L0)) M' ∧ mw_fr (fun q => q ∉ L0) M M') := by
  refine mw_of (by decide) (Nat.le_of_ble_eq_true rfl) ?_
  intro p e s m below meth c ls E hr hk hnm hM hl
  have hx := E.x
  have hb := E.b
  have E : mw_E p m c bb_AL_add2 4 s _ D z "java/util/ArrayList" := E
  have hl : lv_has ls 4 [(0, .ref a), (1, .ref y), (2, .ref ((D.2 200 0))), (3, .int (nI 0))] := hl
  have hS : va_S (mw_A z) s.heap s.heap [] := va_S.rf
  have hF : mw_fr (fun q => q ∉ L0) M M := mw_fr.rf
  refine lv_iload_n hx hb dd_AL_add2_0 rfl (lv_at hl 3 rfl) ?_
  refine lv_aload_n hx hb dd_AL_add2_1 rfl (lv_at hl 2 rfl) ?_
  refine va_tlen (v := nI 0) hx hb E.Z.1.2 hS rfl dd_AL_add2_2 ?_
  refine lv_icmp_ne (tgt := 11) hx hb dd_AL_add2_3 (by decide) (fun h3 => ?_) (fun h3 => ?_)
  ·
    rw [nI_eq (by omega) (by omega)] at h3
    exact absurd rfl h3
  ·
    rw [nI_eq (by omega) (by omega)] at h3
    refine lv_aload_n hx hb dd_AL_add2_6 rfl (lv_at hl 0 rfl) ?_
    refine mw_V (As := []) (rest := []) E (cc_AL_grow_0 l D z (M) a L0 (mo) hA wa) ky_AL_grow kv_AL_grow tw_AL_129 hM hS wa rfl rfl rfl hl.1 rfl (Nat.le_of_ble_eq_true rfl) dd_AL_add2_7 (by decide) (by decide) (fun v M1 H locs hp hM hS => ?_)
    obtain ⟨q, rfl, wa, wq, hA, hF2⟩ := hp
    have hF := hF.trans hF2
    refine W.eq (g2 := F0 m 10 ls [.ref q]) rfl ?_
    refine lv_astore_n (lv' := [(2, .ref q), (0, .ref a), (1, .ref y), (3, .int (nI 0))]) hx hb dd_AL_add2_10 rfl hl (by decide) rfl (fun ls hl => ?_)
    have wy := hF2.at wy (fun h => h hyl)
    refine lv_aload_n hx hb dd_AL_add2_11 rfl (lv_at hl 0 rfl) ?_
    refine lv_iload_n hx hb dd_AL_add2_12 rfl (lv_at hl 3 rfl) ?_
    refine lv_aload_n hx hb dd_AL_add2_13 rfl (lv_at hl 2 rfl) ?_
    refine mw_astq hx hb E.K hM E.zz hS 3 wq rfl (E.N.2.2.1 (rr.1, "java/lang/Object") hcs) wy hci (vp_in_nI (by decide) (by decide)) dd_AL_add2_14 (fun H locs hM hS => ?_)
    rw [nI_clamp (by decide)] at hM
    have hM : mw_at D mg_cl z (va_up M1 q (some (.inl (D.1 103, 10, .inr (.inr (.inr (.inr (va_up (fun _ => none) 0 (some y))))))))) H := hM
    obtain ⟨M1, hM1⟩ : ∃ M9 : mw_M, M9 = va_up M1 q (some (.inl (D.1 103, 10, .inr (.inr (.inr (.inr (va_up (fun _ => none) 0 (some y)))))))) := ⟨_, rfl⟩
    rw [← hM1] at hM
    have wa := mw_uu hM1 wa (mw_ne wa wq (fun q => by cases q))
    have wq := mw_us hM1
    have hA := mn_uu hM1 hA
    have hF := mw_fu hM1 hF (mn_out (pre := q :: (a :: ([]))) hA 0 rfl)
    refine lv_aload_n hx hb dd_AL_add2_15 rfl (lv_at hl 1 rfl) ?_
    refine lv_iload_n hx hb dd_AL_add2_16 rfl (lv_at hl 3 rfl) ?_
    refine lv_iconst (v := nI 1) hx hb dd_AL_add2_17 (by decide) ?_
    refine lv_iadd hx hb dd_AL_add2_18 ?_
    refine mw_topi (y := nI (0 + 1)) (nI_add _ _) ?_
    refine mw_topi (y := nI 1) (by decide) ?_
    refine pf_AL_48 E hM hS wa (Nat.le_of_ble_eq_true rfl) dd_AL_add2_19 (fun H locs hM hS => ?_)
    have hM : mw_at D mg_cl z (va_up M1 a (some (.inr (4, [.ref q, .int (nI 1), .int (mo)])))) H := hM
    obtain ⟨M1, hM1⟩ : ∃ M9 : mw_M, M9 = va_up M1 a (some (.inr (4, [.ref q, .int (nI 1), .int (mo)]))) := ⟨_, rfl⟩
    rw [← hM1] at hM
    have wq := mw_uu hM1 wq (mw_ne wq wa (fun q => by cases q))
    have wa := mw_us hM1
    have hA := mn_uu hM1 hA
    have hF := mw_fu hM1 hF (mn_out (pre := q :: (a :: ([]))) hA 1 rfl)
    refine mr_v E hr hk hM hS (by decide) (by decide) ?_ dd_AL_add2_22
    exact ⟨rfl, q, wa, wq, hA, hF⟩
theorem cc_AL_add_0 (l : Launch) (D : va_G) (z : Nat) (M : mw_M) (a : Nat) (L0 : List Nat) (mo : Int32) (y ci : Nat) (rr : vw_C) (vs : List Value) (hA : mn_l (a :: L0) M) (wa : M a = some (.inr (4, [.ref (D.2 200 0), .int (nI 0), .int mo]))) (wy : M y = some (.inr (ci, vs))) (hci : mg_cl[ci]? = some rr) (hcs : (rr.1, "java/lang/Object") ∈ lw_cN) (hyl : y ∈ L0) : mw_C l yy_AL_add bb_AL_add 2 (Option.some Jvm.ClassFile.FieldType.boolean) 4 87 1 10 D z M [.ref a, .ref y] (fun v M' => v = some (.int 1) ∧ ∃ q, M' a = some (.inr (4, [.ref q, .int (nI 1), .int (mo + nI 1)])) ∧ M' q = some (.inl (D.1 103, 10, .inr (.inr (.inr (.inr (va_up (fun _ => none) 0 (some y))))))) ∧ mn_l (q :: (a :: L0)) M' ∧ mw_fr (fun q => q ∉ L0) M M') := by
  refine mw_of (by decide) (Nat.le_of_ble_eq_true rfl) ?_
  intro p e s m below meth c ls E hr hk hnm hM hl
  have hx := E.x
  have hb := E.b
  have E : mw_E p m c bb_AL_add 2 s _ D z "java/util/ArrayList" := E
  have hl : lv_has ls 2 [(0, .ref a), (1, .ref y)] := hl
  have hS : va_S (mw_A z) s.heap s.heap [] := va_S.rf
  have hF : mw_fr (fun q => q ∉ L0) M M := mw_fr.rf
  refine lv_aload_n hx hb dd_AL_add_0 rfl (lv_at hl 0 rfl) ?_
  refine lv_dup hx hb dd_AL_add_1 rfl ?_
  refine gf_AL_63 E hM wa rfl dd_AL_add_2 ?_
  refine lv_iconst (v := nI 1) hx hb dd_AL_add_5 (by decide) ?_
  refine lv_iadd hx hb dd_AL_add_6 ?_
  refine pf_AL_63 E hM hS wa (Nat.le_of_ble_eq_true rfl) dd_AL_add_7 (fun H locs hM hS => ?_)
  have hM : mw_at D mg_cl z (va_up M a (some (.inr (4, [.ref ((D.2 200 0)), .int (nI 0), .int (mo + (nI 1))])))) H := hM
  obtain ⟨M1, hM1⟩ : ∃ M9 : mw_M, M9 = va_up M a (some (.inr (4, [.ref ((D.2 200 0)), .int (nI 0), .int (mo + (nI 1))]))) := ⟨_, rfl⟩
  rw [← hM1] at hM
  have wa := mw_us hM1
  have hA := mn_uu hM1 hA
  have hF := mw_fu hM1 hF (mn_out (pre := a :: ([])) hA 0 rfl)
  refine lv_aload_n hx hb dd_AL_add_10 rfl (lv_at hl 0 rfl) ?_
  refine lv_aload_n hx hb dd_AL_add_11 rfl (lv_at hl 1 rfl) ?_
  refine lv_aload_n hx hb dd_AL_add_12 rfl (lv_at hl 0 rfl) ?_
  refine gf_AL_9 E hM wa rfl dd_AL_add_13 ?_
  refine lv_aload_n hx hb dd_AL_add_16 rfl (lv_at hl 0 rfl) ?_
  refine gf_AL_48 E hM wa rfl dd_AL_add_17 ?_
  have wy := mw_uu hM1 wy (fun q => absurd (q ▸ hyl) (mn_out (pre := [a]) hA 0 rfl))
  refine mw_V (As := [.ref y, .ref ((D.2 200 0)), .int (nI 0)]) (rest := []) E (cc_AL_add2_0 l D z M1 a L0 (mo + nI 1) y ci rr vs hA wa wy hci hcs hyl) ky_AL_add2 kv_AL_add2 tw_AL_131 hM hS wa rfl rfl rfl hl.1 rfl (Nat.le_of_ble_eq_true rfl) dd_AL_add_20 (by decide) (by decide) (fun v M1 H locs hp hM hS => ?_)
  obtain ⟨rfl, q, wa, wq, hA, hF2⟩ := hp
  have hF := hF.trans hF2
  refine W.eq (g2 := F0 m 23 ls []) rfl ?_
  refine lv_iconst (v := nI 1) hx hb dd_AL_add_23 (by decide) ?_
  refine mr_z E hr hk hM hS (by decide) (by decide) (rfl) ?_ dd_AL_add_24
  exact ⟨rfl, q, wa, wq, hA, hF⟩
