/-! the reader; of nothing -/
def rd_f (er a : Int32) : Int32 := if er = -1 then a else er
theorem rd_f0 (a : Int32) : rd_f (nI 0) a = nI 0 := if_neg (by decide)
theorem rd_f1 (a : Int32) : rd_f (-1) a = a := if_pos rfl
theorem nI_nm1 {x : Nat} (h : x < 2 ^ 31) : ¬ (-1 : Int32) = nI x := fun q => by
  have h1 := nI_toInt h
  rw [← q] at h1
  have e : (-1 : Int32).toInt = -1 := by decide
  omega
theorem by_at_0 {f : Nat → Int32} {i : Int32} : by_at f 0 i = -1 := if_neg (fun q => by omega)
theorem cc_Rd_fail (l : Launch) (D : va_G) (z : Nat) (M : mw_M) (d b pl : Nat) (er v3 v4 v5 v6 v7 v8 a0 : Int32) (wd : M d = some (.inr (6, [.ref b, .int (nI pl), .int (er), .int (v3), .int (v4), .int (v5), .int (v6), .int (v7), .int (v8)]))) : mw_C l yy_Rd_fail bb_Rd_fail 2 (Option.none : Option Jvm.ClassFile.FieldType) 0 0 0 0 D z M [.ref d, .int (a0)] (fun v M' => v = none ∧ M' d = some (.inr (6, [.ref b, .int (nI pl), .int (rd_f er a0), .int (v3), .int (v4), .int (v5), .int (v6), .int (v7), .int (v8)])) ∧ mw_fr (fun q => q = d) M M') := by
  refine mw_of (by decide) (Nat.le_of_ble_eq_true rfl) ?_
  intro p e s m below meth c ls E hr hk hnm hM hl
  have hx := E.x
  have hb := E.b
  have E : mw_E p m c bb_Rd_fail 2 s _ D z "IdentityIssuer$Reader" := E
  have hl : lv_has ls 2 [(0, .ref d), (1, .int (a0))] := hl
  have hS : va_S (mw_A z) s.heap s.heap [] := va_S.rf
  have hF : mw_fr (fun q => q = d) M M := mw_fr.rf
  refine lv_aload_n hx hb dd_Rd_fail_0 rfl (lv_at hl 0 rfl) ?_
  refine gf_Rd_22 E hM wd rfl dd_Rd_fail_1 ?_
  refine lv_iconst (v := -1) hx hb dd_Rd_fail_4 (by decide) ?_
  refine lv_icmp_ne (tgt := 13) hx hb dd_Rd_fail_5 (by decide) (fun h5 => ?_) (fun h5 => ?_)
  ·
    refine mr_v E hr hk hM hS (by decide) (by decide) ?_ dd_Rd_fail_13
    exact ⟨rfl, by rw [rd_f, if_neg h5]; exact wd, hF⟩
  ·
    refine lv_aload_n hx hb dd_Rd_fail_8 rfl (lv_at hl 0 rfl) ?_
    refine lv_iload_n hx hb dd_Rd_fail_9 rfl (lv_at hl 1 rfl) ?_
    refine pf_Rd_22 E hM hS wd (Nat.le_of_ble_eq_true rfl) dd_Rd_fail_10 (fun H locs hM hS => ?_)
    have hM : mw_at D mg_cl z (va_up M d (some (.inr (6, [.ref b, .int (nI pl), .int (a0), .int (v3), .int (v4), .int (v5), .int (v6), .int (v7), .int (v8)])))) H := hM
    obtain ⟨M1, hM1⟩ : ∃ M9 : mw_M, M9 = va_up M d (some (.inr (6, [.ref b, .int (nI pl), .int (a0), .int (v3), .int (v4), .int (v5), .int (v6), .int (v7), .int (v8)]))) := ⟨_, rfl⟩
    rw [← hM1] at hM
    have wd := mw_us hM1
    have hF := mw_fu hM1 hF (rfl)
    refine mr_v E hr hk hM hS (by decide) (by decide) ?_ dd_Rd_fail_13
    exact ⟨rfl, by rw [rd_f, if_pos h5]; exact wd, hF⟩
theorem cc_Rd_expect_0a (l : Launch) (D : va_G) (z : Nat) (M : mw_M) (d b r pl : Nat) (v3 v4 v5 v6 v7 v8 : Int32) (f : Nat → Int32) (x0 : Nat) (wd : M d = some (.inr (6, [.ref b, .int (nI pl), .int (-1), .int (v3), .int (v4), .int (v5), .int (v6), .int (v7), .int (v8)]))) (wb : M b = some (.inr (1, [.ref r, .int (nI 0)]))) (wr : M r = some (.inl (D.1 100, 100, .inl f))) (hpl : pl < 2 ^ 20) (hx0 : x0 < 2 ^ 20) : mw_C l yy_Rd_expect bb_Rd_expect 2 (Option.none : Option Jvm.ClassFile.FieldType) 1 21 0 0 D z M [.ref d, .int (nI x0)] (fun v M' => v = none ∧ M' d = some (.inr (6, [.ref b, .int (nI (pl + 1)), .int (nI pl), .int (v3), .int (v4), .int (v5), .int (v6), .int (v7), .int (v8)])) ∧ mw_fr (fun q => q = d) M M') := by
  refine mw_of (by decide) (Nat.le_of_ble_eq_true rfl) ?_
  intro p e s m below meth c ls E hr hk hnm hM hl
  have hx := E.x
  have hb := E.b
  have E : mw_E p m c bb_Rd_expect 2 s _ D z "IdentityIssuer$Reader" := E
  have hl : lv_has ls 2 [(0, .ref d), (1, .int (nI x0))] := hl
  have hS : va_S (mw_A z) s.heap s.heap [] := va_S.rf
  have hF : mw_fr (fun q => q = d) M M := mw_fr.rf
  refine lv_aload_n hx hb dd_Rd_expect_0 rfl (lv_at hl 0 rfl) ?_
  refine gf_Rd_12 E hM wd rfl dd_Rd_expect_1 ?_
  refine lv_aload_n hx hb dd_Rd_expect_4 rfl (lv_at hl 0 rfl) ?_
  refine gf_Rd_18 E hM wd rfl dd_Rd_expect_5 ?_
  refine mw_V (As := [.int (nI pl)]) (rest := []) E (cc_By_at l D z (M) b r f 0 (nI pl) wb wr (by decide)) ky_By_at kv_By_at tw_Rd_64 hM hS wb rfl rfl rfl hl.1 rfl (Nat.le_of_ble_eq_true rfl) dd_Rd_expect_8 (by decide) (by decide) (fun v M1 H locs hp hM hS => ?_)
  obtain ⟨rfl, hq⟩ := hp
  have hq := hq.symm
  subst hq
  rw [by_at_0]
  refine W.eq (g2 := F0 m 11 ls [.int (-1)]) rfl ?_
  refine lv_iload_n hx hb dd_Rd_expect_11 rfl (lv_at hl 1 rfl) ?_
  refine lv_icmp_eq (tgt := 23) hx hb dd_Rd_expect_12 (by decide) (fun h12 => ?_) (fun h12 => ?_)
  ·
    exact absurd h12 (nI_nm1 (by omega))
  ·
    refine lv_aload_n hx hb dd_Rd_expect_15 rfl (lv_at hl 0 rfl) ?_
    refine lv_aload_n hx hb dd_Rd_expect_16 rfl (lv_at hl 0 rfl) ?_
    refine gf_Rd_18 E hM wd rfl dd_Rd_expect_17 ?_
    refine mw_V (As := [.int (nI pl)]) (rest := []) E (cc_Rd_fail l D z (M) d b (pl) (-1) (v3) (v4) (v5) (v6) (v7) (v8) (nI pl) wd) ky_Rd_fail kv_Rd_fail tw_Rd_68 hM hS wd rfl rfl rfl hl.1 rfl (Nat.le_of_ble_eq_true rfl) dd_Rd_expect_20 (by decide) (by decide) (fun v M1 H locs hp hM hS => ?_)
    obtain ⟨rfl, wn, hF2⟩ := hp
    have wb := hF2.at wb (mw_ne wb wd (fun q => by cases q))
    have wr := hF2.at wr (mw_ne wr wd (fun q => by cases q))
    have wd := wn
    have hF := hF.trans hF2
    refine W.eq (g2 := F0 m 23 ls []) rfl ?_
    refine lv_aload_n hx hb dd_Rd_expect_23 rfl (lv_at hl 0 rfl) ?_
    refine lv_dup hx hb dd_Rd_expect_24 rfl ?_
    refine gf_Rd_18 E hM wd rfl dd_Rd_expect_25 ?_
    refine lv_iconst (v := nI 1) hx hb dd_Rd_expect_28 (by decide) ?_
    refine lv_iadd hx hb dd_Rd_expect_29 ?_
    refine mw_topi (y := nI (pl + 1)) (nI_add _ _) ?_
    refine pf_Rd_18 E hM hS wd (Nat.le_of_ble_eq_true rfl) dd_Rd_expect_30 (fun H locs hM hS => ?_)
    have hM : mw_at D mg_cl z (va_up M1 d (some (.inr (6, [.ref b, .int (nI (pl + 1)), .int (rd_f (-1) (nI pl)), .int (v3), .int (v4), .int (v5), .int (v6), .int (v7), .int (v8)])))) H := hM
    obtain ⟨M1, hM1⟩ : ∃ M9 : mw_M, M9 = va_up M1 d (some (.inr (6, [.ref b, .int (nI (pl + 1)), .int (rd_f (-1) (nI pl)), .int (v3), .int (v4), .int (v5), .int (v6), .int (v7), .int (v8)]))) := ⟨_, rfl⟩
    rw [← hM1] at hM
    have wb := mw_uu hM1 wb (mw_ne wb wd (fun q => by cases q))
    have wr := mw_uu hM1 wr (mw_ne wr wd (fun q => by cases q))
    have wd := mw_us hM1
    have hF := mw_fu hM1 hF (rfl)
    refine mr_v E hr hk hM hS (by decide) (by decide) ?_ dd_Rd_expect_33
    exact ⟨rfl, by rw [rd_f1] at wd; exact wd, hF⟩
theorem cc_Rd_expect_0b (l : Launch) (D : va_G) (z : Nat) (M : mw_M) (d b r pl : Nat) (v3 v4 v5 v6 v7 v8 : Int32) (f : Nat → Int32) (x0 : Nat) (wd : M d = some (.inr (6, [.ref b, .int (nI pl), .int (nI 0), .int (v3), .int (v4), .int (v5), .int (v6), .int (v7), .int (v8)]))) (wb : M b = some (.inr (1, [.ref r, .int (nI 0)]))) (wr : M r = some (.inl (D.1 100, 100, .inl f))) (hpl : pl < 2 ^ 20) (hx0 : x0 < 2 ^ 20) : mw_C l yy_Rd_expect bb_Rd_expect 2 (Option.none : Option Jvm.ClassFile.FieldType) 1 21 0 0 D z M [.ref d, .int (nI x0)] (fun v M' => v = none ∧ M' d = some (.inr (6, [.ref b, .int (nI (pl + 1)), .int (nI 0), .int (v3), .int (v4), .int (v5), .int (v6), .int (v7), .int (v8)])) ∧ mw_fr (fun q => q = d) M M') := by
  refine mw_of (by decide) (Nat.le_of_ble_eq_true rfl) ?_
  intro p e s m below meth c ls E hr hk hnm hM hl
  have hx := E.x
  have hb := E.b
  have E : mw_E p m c bb_Rd_expect 2 s _ D z "IdentityIssuer$Reader" := E
  have hl : lv_has ls 2 [(0, .ref d), (1, .int (nI x0))] := hl
  have hS : va_S (mw_A z) s.heap s.heap [] := va_S.rf
  have hF : mw_fr (fun q => q = d) M M := mw_fr.rf
  refine lv_aload_n hx hb dd_Rd_expect_0 rfl (lv_at hl 0 rfl) ?_
  refine gf_Rd_12 E hM wd rfl dd_Rd_expect_1 ?_
  refine lv_aload_n hx hb dd_Rd_expect_4 rfl (lv_at hl 0 rfl) ?_
  refine gf_Rd_18 E hM wd rfl dd_Rd_expect_5 ?_
  refine mw_V (As := [.int (nI pl)]) (rest := []) E (cc_By_at l D z (M) b r f 0 (nI pl) wb wr (by decide)) ky_By_at kv_By_at tw_Rd_64 hM hS wb rfl rfl rfl hl.1 rfl (Nat.le_of_ble_eq_true rfl) dd_Rd_expect_8 (by decide) (by decide) (fun v M1 H locs hp hM hS => ?_)
  obtain ⟨rfl, hq⟩ := hp
  have hq := hq.symm
  subst hq
  rw [by_at_0]
  refine W.eq (g2 := F0 m 11 ls [.int (-1)]) rfl ?_
  refine lv_iload_n hx hb dd_Rd_expect_11 rfl (lv_at hl 1 rfl) ?_
  refine lv_icmp_eq (tgt := 23) hx hb dd_Rd_expect_12 (by decide) (fun h12 => ?_) (fun h12 => ?_)
  ·
    exact absurd h12 (nI_nm1 (by omega))
  ·
    refine lv_aload_n hx hb dd_Rd_expect_15 rfl (lv_at hl 0 rfl) ?_
    refine lv_aload_n hx hb dd_Rd_expect_16 rfl (lv_at hl 0 rfl) ?_
    refine gf_Rd_18 E hM wd rfl dd_Rd_expect_17 ?_
    refine mw_V (As := [.int (nI pl)]) (rest := []) E (cc_Rd_fail l D z (M) d b (pl) (nI 0) (v3) (v4) (v5) (v6) (v7) (v8) (nI pl) wd) ky_Rd_fail kv_Rd_fail tw_Rd_68 hM hS wd rfl rfl rfl hl.1 rfl (Nat.le_of_ble_eq_true rfl) dd_Rd_expect_20 (by decide) (by decide) (fun v M1 H locs hp hM hS => ?_)
    obtain ⟨rfl, wn, hF2⟩ := hp
    have wb := hF2.at wb (mw_ne wb wd (fun q => by cases q))
    have wr := hF2.at wr (mw_ne wr wd (fun q => by cases q))
    have wd := wn
    have hF := hF.trans hF2
    rw [rd_f0] at wd
    refine W.eq (g2 := F0 m 23 ls []) rfl ?_
    refine lv_aload_n hx hb dd_Rd_expect_23 rfl (lv_at hl 0 rfl) ?_
    refine lv_dup hx hb dd_Rd_expect_24 rfl ?_
    refine gf_Rd_18 E hM wd rfl dd_Rd_expect_25 ?_
    refine lv_iconst (v := nI 1) hx hb dd_Rd_expect_28 (by decide) ?_
    refine lv_iadd hx hb dd_Rd_expect_29 ?_
    refine mw_topi (y := nI (pl + 1)) (nI_add _ _) ?_
    refine pf_Rd_18 E hM hS wd (Nat.le_of_ble_eq_true rfl) dd_Rd_expect_30 (fun H locs hM hS => ?_)
    have hM : mw_at D mg_cl z (va_up M1 d (some (.inr (6, [.ref b, .int (nI (pl + 1)), .int (nI 0), .int (v3), .int (v4), .int (v5), .int (v6), .int (v7), .int (v8)])))) H := hM
    obtain ⟨M1, hM1⟩ : ∃ M9 : mw_M, M9 = va_up M1 d (some (.inr (6, [.ref b, .int (nI (pl + 1)), .int (nI 0), .int (v3), .int (v4), .int (v5), .int (v6), .int (v7), .int (v8)]))) := ⟨_, rfl⟩
    rw [← hM1] at hM
    have wb := mw_uu hM1 wb (mw_ne wb wd (fun q => by cases q))
    have wr := mw_uu hM1 wr (mw_ne wr wd (fun q => by cases q))
    have wd := mw_us hM1
    have hF := mw_fu hM1 hF (rfl)
    refine mr_v E hr hk hM hS (by decide) (by decide) ?_ dd_Rd_expect_33
    exact ⟨rfl, wd, hF⟩
theorem cc_Rd_skipLength_0 (l : Launch) (D : va_G) (z : Nat) (M : mw_M) (d b r pl : Nat) (v3 v4 v5 v6 v7 v8 : Int32) (f : Nat → Int32) (wd : M d = some (.inr (6, [.ref b, .int (nI pl), .int (nI 0), .int (v3), .int (v4), .int (v5), .int (v6), .int (v7), .int (v8)]))) (wb : M b = some (.inr (1, [.ref r, .int (nI 0)]))) (wr : M r = some (.inl (D.1 100, 100, .inl f))) (hpl : pl < 2 ^ 20) : mw_C l yy_Rd_skipLength bb_Rd_skipLength 1 (Option.none : Option Jvm.ClassFile.FieldType) 1 21 0 0 D z M [.ref d] (fun v M' => v = none ∧ M' d = some (.inr (6, [.ref b, .int (nI (pl + 1)), .int (nI 0), .int (v3), .int (v4), .int (v5), .int (v6), .int (v7), .int (v8)])) ∧ mw_fr (fun q => q = d) M M') := by
  refine mw_of (by decide) (Nat.le_of_ble_eq_true rfl) ?_
  intro p e s m below meth c ls E hr hk hnm hM hl
  have hx := E.x
  have hb := E.b
  have E : mw_E p m c bb_Rd_skipLength 1 s _ D z "IdentityIssuer$Reader" := E
  have hl : lv_has ls 1 [(0, .ref d)] := hl
  have hS : va_S (mw_A z) s.heap s.heap [] := va_S.rf
  have hF : mw_fr (fun q => q = d) M M := mw_fr.rf
  refine lv_aload_n hx hb dd_Rd_skipLength_0 rfl (lv_at hl 0 rfl) ?_
  refine gf_Rd_12 E hM wd rfl dd_Rd_skipLength_1 ?_
  refine lv_aload_n hx hb dd_Rd_skipLength_4 rfl (lv_at hl 0 rfl) ?_
  refine gf_Rd_18 E hM wd rfl dd_Rd_skipLength_5 ?_
  refine mw_V (As := [.int (nI pl)]) (rest := []) E (cc_By_at l D z (M) b r f 0 (nI pl) wb wr (by decide)) ky_By_at kv_By_at tw_Rd_64 hM hS wb rfl rfl rfl hl.1 rfl (Nat.le_of_ble_eq_true rfl) dd_Rd_skipLength_8 (by decide) (by decide) (fun v M1 H locs hp hM hS => ?_)
  obtain ⟨rfl, hq⟩ := hp
  have hq := hq.symm
  subst hq
  rw [by_at_0]
  refine W.eq (g2 := F0 m 11 ls [.int (-1)]) rfl ?_
  refine lv_iconst (v := -1) hx hb dd_Rd_skipLength_11 (by decide) ?_
  refine lv_icmp_ne (tgt := 23) hx hb dd_Rd_skipLength_12 (by decide) (fun h12 => ?_) (fun h12 => ?_)
  ·
    exact absurd rfl h12
  ·
    refine lv_aload_n hx hb dd_Rd_skipLength_15 rfl (lv_at hl 0 rfl) ?_
    refine lv_aload_n hx hb dd_Rd_skipLength_16 rfl (lv_at hl 0 rfl) ?_
    refine gf_Rd_18 E hM wd rfl dd_Rd_skipLength_17 ?_
    refine mw_V (As := [.int (nI pl)]) (rest := []) E (cc_Rd_fail l D z (M) d b (pl) (nI 0) (v3) (v4) (v5) (v6) (v7) (v8) (nI pl) wd) ky_Rd_fail kv_Rd_fail tw_Rd_68 hM hS wd rfl rfl rfl hl.1 rfl (Nat.le_of_ble_eq_true rfl) dd_Rd_skipLength_20 (by decide) (by decide) (fun v M1 H locs hp hM hS => ?_)
    obtain ⟨rfl, wn, hF2⟩ := hp
    have wb := hF2.at wb (mw_ne wb wd (fun q => by cases q))
    have wr := hF2.at wr (mw_ne wr wd (fun q => by cases q))
    have wd := wn
    have hF := hF.trans hF2
    rw [rd_f0] at wd
    refine W.eq (g2 := F0 m 23 ls []) rfl ?_
    refine lv_aload_n hx hb dd_Rd_skipLength_23 rfl (lv_at hl 0 rfl) ?_
    refine lv_dup hx hb dd_Rd_skipLength_24 rfl ?_
    refine gf_Rd_18 E hM wd rfl dd_Rd_skipLength_25 ?_
    refine lv_iconst (v := nI 1) hx hb dd_Rd_skipLength_28 (by decide) ?_
    refine lv_iadd hx hb dd_Rd_skipLength_29 ?_
    refine mw_topi (y := nI (pl + 1)) (nI_add _ _) ?_
    refine pf_Rd_18 E hM hS wd (Nat.le_of_ble_eq_true rfl) dd_Rd_skipLength_30 (fun H locs hM hS => ?_)
    have hM : mw_at D mg_cl z (va_up M1 d (some (.inr (6, [.ref b, .int (nI (pl + 1)), .int (nI 0), .int (v3), .int (v4), .int (v5), .int (v6), .int (v7), .int (v8)])))) H := hM
    obtain ⟨M1, hM1⟩ : ∃ M9 : mw_M, M9 = va_up M1 d (some (.inr (6, [.ref b, .int (nI (pl + 1)), .int (nI 0), .int (v3), .int (v4), .int (v5), .int (v6), .int (v7), .int (v8)]))) := ⟨_, rfl⟩
    rw [← hM1] at hM
    have wb := mw_uu hM1 wb (mw_ne wb wd (fun q => by cases q))
    have wr := mw_uu hM1 wr (mw_ne wr wd (fun q => by cases q))
    have wd := mw_us hM1
    have hF := mw_fu hM1 hF (rfl)
    refine mr_v E hr hk hM hS (by decide) (by decide) ?_ dd_Rd_skipLength_33
    exact ⟨rfl, wd, hF⟩
theorem cc_Rd_readNumber_0 (l : Launch) (D : va_G) (z : Nat) (M : mw_M) (d b r pl : Nat) (v3 v4 v5 v6 v7 v8 : Int32) (f : Nat → Int32) (wd : M d = some (.inr (6, [.ref b, .int (nI pl), .int (nI 0), .int (v3), .int (v4), .int (v5), .int (v6), .int (v7), .int (v8)]))) (wb : M b = some (.inr (1, [.ref r, .int (nI 0)]))) (wr : M r = some (.inl (D.1 100, 100, .inl f))) (hpl : pl < 1000) : mw_C l yy_Rd_readNumber bb_Rd_readNumber 5 (Option.some Jvm.ClassFile.FieldType.int) 2 42 0 0 D z M [.ref d] (fun v M' => v = some (.int (nI 0)) ∧ M' d = some (.inr (6, [.ref b, .int (nI (pl + 1)), .int (nI 0), .int (v3), .int (v4), .int (v5), .int (v6), .int (v7), .int (v8)])) ∧ mw_fr (fun q => q = d) M M') := by
  refine mw_of (by decide) (Nat.le_of_ble_eq_true rfl) ?_
  intro p e s m below meth c ls E hr hk hnm hM hl
  have hx := E.x
  have hb := E.b
  have E : mw_E p m c bb_Rd_readNumber 5 s _ D z "IdentityIssuer$Reader" := E
  have hl : lv_has ls 5 [(0, .ref d)] := hl
  have hS : va_S (mw_A z) s.heap s.heap [] := va_S.rf
  have hF : mw_fr (fun q => q = d) M M := mw_fr.rf
  refine lv_aload_n hx hb dd_Rd_readNumber_0 rfl (lv_at hl 0 rfl) ?_
  refine lv_iconst (v := nI 2) hx hb dd_Rd_readNumber_1 (by decide) ?_
  refine mw_V (As := [.int (nI 2)]) (rest := []) E (cc_Rd_expect_0b l D z (M) d b r (pl) (v3) (v4) (v5) (v6) (v7) (v8) f 2 wd wb wr (by omega) (by decide)) ky_Rd_expect kv_Rd_expect tw_Rd_25 hM hS wd rfl rfl rfl hl.1 rfl (Nat.le_of_ble_eq_true rfl) dd_Rd_readNumber_2 (by decide) (by decide) (fun v M1 H locs hp hM hS => ?_)
  obtain ⟨rfl, wn, hF2⟩ := hp
  have wb := hF2.at wb (mw_ne wb wd (fun q => by cases q))
  have wr := hF2.at wr (mw_ne wr wd (fun q => by cases q))
  have wd := wn
  have hF := hF.trans hF2
  have wd : M1 d = some (.inr (6, [.ref b, .int (nI (pl + 1)), .int (nI 0), .int (v3), .int (v4), .int (v5), .int (v6), .int (v7), .int (v8)])) := wd
  refine W.eq (g2 := F0 m 5 ls []) rfl ?_
  refine lv_aload_n hx hb dd_Rd_readNumber_5 rfl (lv_at hl 0 rfl) ?_
  refine gf_Rd_12 E hM wd rfl dd_Rd_readNumber_6 ?_
  refine lv_aload_n hx hb dd_Rd_readNumber_9 rfl (lv_at hl 0 rfl) ?_
  refine gf_Rd_18 E hM wd rfl dd_Rd_readNumber_10 ?_
  refine mw_V (As := [.int (nI (pl + 1))]) (rest := []) E (cc_By_at l D z (M1) b r f 0 (nI (pl + 1)) wb wr (by decide)) ky_By_at kv_By_at tw_Rd_64 hM hS wb rfl rfl rfl hl.1 rfl (Nat.le_of_ble_eq_true rfl) dd_Rd_readNumber_13 (by decide) (by decide) (fun v M1 H locs hp hM hS => ?_)
  obtain ⟨rfl, hq⟩ := hp
  have hq := hq.symm
  subst hq
  rw [by_at_0]
  refine W.eq (g2 := F0 m 16 ls [.int (-1)]) rfl ?_
  refine lv_istore_n (lv' := [(1, .int (-1)), (0, .ref d)]) hx hb dd_Rd_readNumber_16 rfl hl (by decide) rfl (fun ls hl => ?_)
  refine lv_iload_n hx hb dd_Rd_readNumber_17 rfl (lv_at hl 0 rfl) ?_
  refine lv_iconst (v := nI 1) hx hb dd_Rd_readNumber_18 (by decide) ?_
  refine lv_icmp_lt (tgt := 27) hx hb dd_Rd_readNumber_19 (by decide) (fun h19 => ?_) (fun h19 => ?_)
  ·
    refine lv_aload_n hx hb dd_Rd_readNumber_27 rfl (lv_at hl 1 rfl) ?_
    refine lv_aload_n hx hb dd_Rd_readNumber_28 rfl (lv_at hl 1 rfl) ?_
    refine gf_Rd_18 E hM wd rfl dd_Rd_readNumber_29 ?_
    refine mw_V (As := [.int (nI (pl + 1))]) (rest := []) E (cc_Rd_fail l D z (M1) d b (pl + 1) (nI 0) (v3) (v4) (v5) (v6) (v7) (v8) (nI (pl + 1)) wd) ky_Rd_fail kv_Rd_fail tw_Rd_68 hM hS wd rfl rfl rfl hl.1 rfl (Nat.le_of_ble_eq_true rfl) dd_Rd_readNumber_32 (by decide) (by decide) (fun v M1 H locs hp hM hS => ?_)
    obtain ⟨rfl, wn, hF2⟩ := hp
    have wb := hF2.at wb (mw_ne wb wd (fun q => by cases q))
    have wr := hF2.at wr (mw_ne wr wd (fun q => by cases q))
    have wd := wn
    have hF := hF.trans hF2
    rw [rd_f0] at wd
    refine W.eq (g2 := F0 m 35 ls []) rfl ?_
    refine lv_iconst (v := nI 0) hx hb dd_Rd_readNumber_35 (by decide) ?_
    refine mr_i E hr hk hM hS (by decide) (by decide) ?_ dd_Rd_readNumber_36
    exact ⟨rfl, wd, hF⟩
  ·
    exact absurd (show (-1 : Int32) < nI 1 by decide) h19
theorem cc_Rd_readId_0 (l : Launch) (D : va_G) (z : Nat) (M : mw_M) (d b r pl : Nat) (v3 v4 v5 v6 v7 v8 : Int32) (f : Nat → Int32) (wd : M d = some (.inr (6, [.ref b, .int (nI pl), .int (nI 0), .int (v3), .int (v4), .int (v5), .int (v6), .int (v7), .int (v8)]))) (wb : M b = some (.inr (1, [.ref r, .int (nI 0)]))) (wr : M r = some (.inl (D.1 100, 100, .inl f))) (hpl : pl < 1000) : mw_C l yy_Rd_readId bb_Rd_readId 4 (Option.none : Option Jvm.ClassFile.FieldType) 2 42 0 0 D z M [.ref d] (fun v M' => v = none ∧ M' d = some (.inr (6, [.ref b, .int (nI (pl + 1)), .int (nI 0), .int (v3), .int (v4), .int (v5), .int (v6), .int (v7), .int (v8)])) ∧ mw_fr (fun q => q = d) M M') := by
  refine mw_of (by decide) (Nat.le_of_ble_eq_true rfl) ?_
  intro p e s m below meth c ls E hr hk hnm hM hl
  have hx := E.x
  have hb := E.b
  have E : mw_E p m c bb_Rd_readId 4 s _ D z "IdentityIssuer$Reader" := E
  have hl : lv_has ls 4 [(0, .ref d)] := hl
  have hS : va_S (mw_A z) s.heap s.heap [] := va_S.rf
  have hF : mw_fr (fun q => q = d) M M := mw_fr.rf
  refine lv_aload_n hx hb dd_Rd_readId_0 rfl (lv_at hl 0 rfl) ?_
  refine lv_sipush (v := nI 134) hx hb dd_Rd_readId_1 (by decide) ?_
  refine mw_V (As := [.int (nI 134)]) (rest := []) E (cc_Rd_expect_0b l D z (M) d b r (pl) (v3) (v4) (v5) (v6) (v7) (v8) f 134 wd wb wr (by omega) (by decide)) ky_Rd_expect kv_Rd_expect tw_Rd_25 hM hS wd rfl rfl rfl hl.1 rfl (Nat.le_of_ble_eq_true rfl) dd_Rd_readId_4 (by decide) (by decide) (fun v M1 H locs hp hM hS => ?_)
  obtain ⟨rfl, wn, hF2⟩ := hp
  have wb := hF2.at wb (mw_ne wb wd (fun q => by cases q))
  have wr := hF2.at wr (mw_ne wr wd (fun q => by cases q))
  have wd := wn
  have hF := hF.trans hF2
  have wd : M1 d = some (.inr (6, [.ref b, .int (nI (pl + 1)), .int (nI 0), .int (v3), .int (v4), .int (v5), .int (v6), .int (v7), .int (v8)])) := wd
  refine W.eq (g2 := F0 m 7 ls []) rfl ?_
  refine lv_aload_n hx hb dd_Rd_readId_7 rfl (lv_at hl 0 rfl) ?_
  refine gf_Rd_12 E hM wd rfl dd_Rd_readId_8 ?_
  refine lv_aload_n hx hb dd_Rd_readId_11 rfl (lv_at hl 0 rfl) ?_
  refine gf_Rd_18 E hM wd rfl dd_Rd_readId_12 ?_
  refine mw_V (As := [.int (nI (pl + 1))]) (rest := []) E (cc_By_at l D z (M1) b r f 0 (nI (pl + 1)) wb wr (by decide)) ky_By_at kv_By_at tw_Rd_64 hM hS wb rfl rfl rfl hl.1 rfl (Nat.le_of_ble_eq_true rfl) dd_Rd_readId_15 (by decide) (by decide) (fun v M1 H locs hp hM hS => ?_)
  obtain ⟨rfl, hq⟩ := hp
  have hq := hq.symm
  subst hq
  rw [by_at_0]
  refine W.eq (g2 := F0 m 18 ls [.int (-1)]) rfl ?_
  refine lv_istore_n (lv' := [(1, .int (-1)), (0, .ref d)]) hx hb dd_Rd_readId_18 rfl hl (by decide) rfl (fun ls hl => ?_)
  refine lv_aload_n hx hb dd_Rd_readId_19 rfl (lv_at hl 1 rfl) ?_
  refine gf_Rd_18 E hM wd rfl dd_Rd_readId_20 ?_
  refine lv_iconst (v := nI 1) hx hb dd_Rd_readId_23 (by decide) ?_
  refine lv_iadd hx hb dd_Rd_readId_24 ?_
  refine mw_topi (y := nI ((pl + 1) + 1)) (nI_add _ _) ?_
  refine lv_istore_n (lv' := [(2, .int (nI ((pl + 1) + 1))), (1, .int (-1)), (0, .ref d)]) hx hb dd_Rd_readId_25 rfl hl (by decide) rfl (fun ls hl => ?_)
  refine lv_iload_n hx hb dd_Rd_readId_26 rfl (lv_at hl 1 rfl) ?_
  refine lv_iconst (v := -1) hx hb dd_Rd_readId_27 (by decide) ?_
  refine lv_icmp_eq (tgt := 44) hx hb dd_Rd_readId_28 (by decide) (fun h28 => ?_) (fun h28 => ?_)
  ·
    refine lv_aload_n hx hb dd_Rd_readId_44 rfl (lv_at hl 2 rfl) ?_
    refine lv_aload_n hx hb dd_Rd_readId_45 rfl (lv_at hl 2 rfl) ?_
    refine gf_Rd_18 E hM wd rfl dd_Rd_readId_46 ?_
    refine mw_V (As := [.int (nI (pl + 1))]) (rest := []) E (cc_Rd_fail l D z (M1) d b (pl + 1) (nI 0) (v3) (v4) (v5) (v6) (v7) (v8) (nI (pl + 1)) wd) ky_Rd_fail kv_Rd_fail tw_Rd_68 hM hS wd rfl rfl rfl hl.1 rfl (Nat.le_of_ble_eq_true rfl) dd_Rd_readId_49 (by decide) (by decide) (fun v M1 H locs hp hM hS => ?_)
    obtain ⟨rfl, wn, hF2⟩ := hp
    have wb := hF2.at wb (mw_ne wb wd (fun q => by cases q))
    have wr := hF2.at wr (mw_ne wr wd (fun q => by cases q))
    have wd := wn
    have hF := hF.trans hF2
    rw [rd_f0] at wd
    refine W.eq (g2 := F0 m 52 ls []) rfl ?_
    refine mr_v E hr hk hM hS (by decide) (by decide) ?_ dd_Rd_readId_52
    exact ⟨rfl, wd, hF⟩
  ·
    exact absurd rfl h28
theorem cc_Rd_checkLengths_0 (l : Launch) (D : va_G) (z : Nat) (M : mw_M) (d b r pl : Nat) (v3 v4 v5 v6 v8 : Int32) (f : Nat → Int32) (be : Nat) (wd : M d = some (.inr (6, [.ref b, .int (nI pl), .int (nI 0), .int (v3), .int (v4), .int (v5), .int (v6), .int (nI be), .int (v8)]))) (wb : M b = some (.inr (1, [.ref r, .int (nI 0)]))) (wr : M r = some (.inl (D.1 100, 100, .inl f))) (hpl : pl < 1000) (hbe : 4 ≤ be) (hbe2 : be < 1000) : mw_C l yy_Rd_checkLengths bb_Rd_checkLengths 1 (Option.none : Option Jvm.ClassFile.FieldType) 1 21 0 0 D z M [.ref d] (fun v M' => v = none ∧ M' d = some (.inr (6, [.ref b, .int (nI pl), .int (nI 0), .int (v3), .int (v4), .int (v5), .int (v6), .int (nI be), .int (v8)])) ∧ mw_fr (fun q => q = d) M M') := by
  refine mw_of (by decide) (Nat.le_of_ble_eq_true rfl) ?_
  intro p e s m below meth c ls E hr hk hnm hM hl
  have hx := E.x
  have hb := E.b
  have E : mw_E p m c bb_Rd_checkLengths 1 s _ D z "IdentityIssuer$Reader" := E
  have hl : lv_has ls 1 [(0, .ref d)] := hl
  have hS : va_S (mw_A z) s.heap s.heap [] := va_S.rf
  have hF : mw_fr (fun q => q = d) M M := mw_fr.rf
  refine lv_aload_n hx hb dd_Rd_checkLengths_0 rfl (lv_at hl 0 rfl) ?_
  refine gf_Rd_12 E hM wd rfl dd_Rd_checkLengths_1 ?_
  refine lv_iconst (v := nI 3) hx hb dd_Rd_checkLengths_4 (by decide) ?_
  refine mw_V (As := [.int (nI 3)]) (rest := []) E (cc_By_at l D z (M) b r f 0 (nI 3) wb wr (by decide)) ky_By_at kv_By_at tw_Rd_64 hM hS wb rfl rfl rfl hl.1 rfl (Nat.le_of_ble_eq_true rfl) dd_Rd_checkLengths_5 (by decide) (by decide) (fun v M1 H locs hp hM hS => ?_)
  obtain ⟨rfl, hq⟩ := hp
  have hq := hq.symm
  subst hq
  rw [by_at_0]
  refine W.eq (g2 := F0 m 8 ls [.int (-1)]) rfl ?_
  refine lv_aload_n hx hb dd_Rd_checkLengths_8 rfl (lv_at hl 0 rfl) ?_
  refine gf_Rd_55 E hM wd rfl dd_Rd_checkLengths_9 ?_
  refine lv_iconst (v := nI 3) hx hb dd_Rd_checkLengths_12 (by decide) ?_
  refine lv_isub hx hb dd_Rd_checkLengths_13 ?_
  refine mw_topi (y := nI (be - 3)) (pk_sub (by omega)) ?_
  refine lv_iconst (v := nI 1) hx hb dd_Rd_checkLengths_14 (by decide) ?_
  refine lv_isub hx hb dd_Rd_checkLengths_15 ?_
  refine mw_topi (y := nI ((be - 3) - 1)) (pk_sub (by omega)) ?_
  refine lv_icmp_eq (tgt := 24) hx hb dd_Rd_checkLengths_16 (by decide) (fun h16 => ?_) (fun h16 => ?_)
  ·
    refine lv_aload_n hx hb dd_Rd_checkLengths_24 rfl (lv_at hl 0 rfl) ?_
    refine gf_Rd_18 E hM wd rfl dd_Rd_checkLengths_25 ?_
    refine lv_aload_n hx hb dd_Rd_checkLengths_28 rfl (lv_at hl 0 rfl) ?_
    refine gf_Rd_12 E hM wd rfl dd_Rd_checkLengths_29 ?_
    refine mw_V (As := []) (rest := [.int (nI pl)]) E (cc_By_length l D z (M) b r f 0 wb wr (by decide)) ky_By_length kv_By_length tw_Rd_71 hM hS wb rfl rfl rfl hl.1 rfl (Nat.le_of_ble_eq_true rfl) dd_Rd_checkLengths_32 (by decide) (by decide) (fun v M1 H locs hp hM hS => ?_)
    obtain ⟨rfl, hq⟩ := hp
    have hq := hq.symm
    subst hq
    refine W.eq (g2 := F0 m 35 ls [.int (nI 0), .int (nI pl)]) rfl ?_
    refine lv_icmp_ge (tgt := 46) hx hb dd_Rd_checkLengths_35 (by decide) (fun h35 => ?_) (fun h35 => ?_)
    ·
      rw [nI_leI (by omega) (by omega)] at h35
      refine lv_aload_n hx hb dd_Rd_checkLengths_46 rfl (lv_at hl 0 rfl) ?_
      refine gf_Rd_12 E hM wd rfl dd_Rd_checkLengths_47 ?_
      refine lv_iconst (v := nI 1) hx hb dd_Rd_checkLengths_50 (by decide) ?_
      refine mw_V (As := [.int (nI 1)]) (rest := []) E (cc_By_at l D z (M) b r f 0 (nI 1) wb wr (by decide)) ky_By_at kv_By_at tw_Rd_64 hM hS wb rfl rfl rfl hl.1 rfl (Nat.le_of_ble_eq_true rfl) dd_Rd_checkLengths_51 (by decide) (by decide) (fun v M1 H locs hp hM hS => ?_)
      obtain ⟨rfl, hq⟩ := hp
      have hq := hq.symm
      subst hq
      rw [by_at_0]
      refine W.eq (g2 := F0 m 54 ls [.int (-1)]) rfl ?_
      refine lv_aload_n hx hb dd_Rd_checkLengths_54 rfl (lv_at hl 0 rfl) ?_
      refine gf_Rd_18 E hM wd rfl dd_Rd_checkLengths_55 ?_
      refine lv_iconst (v := nI 1) hx hb dd_Rd_checkLengths_58 (by decide) ?_
      refine lv_isub hx hb dd_Rd_checkLengths_59 ?_
      refine lv_iconst (v := nI 1) hx hb dd_Rd_checkLengths_60 (by decide) ?_
      refine lv_isub hx hb dd_Rd_checkLengths_61 ?_
      refine lv_icmp_eq (tgt := 70) hx hb dd_Rd_checkLengths_62 (by decide) (fun h62 => ?_) (fun h62 => ?_)
      ·
        refine mr_v E hr hk hM hS (by decide) (by decide) ?_ dd_Rd_checkLengths_70
        exact ⟨rfl, wd, hF⟩
      ·
        refine lv_aload_n hx hb dd_Rd_checkLengths_65 rfl (lv_at hl 0 rfl) ?_
        refine lv_iconst (v := nI 1) hx hb dd_Rd_checkLengths_66 (by decide) ?_
        refine mw_V (As := [.int (nI 1)]) (rest := []) E (cc_Rd_fail l D z (M) d b (pl) (nI 0) (v3) (v4) (v5) (v6) (nI be) (v8) (nI 1) wd) ky_Rd_fail kv_Rd_fail tw_Rd_68 hM hS wd rfl rfl rfl hl.1 rfl (Nat.le_of_ble_eq_true rfl) dd_Rd_checkLengths_67 (by decide) (by decide) (fun v M1 H locs hp hM hS => ?_)
        obtain ⟨rfl, wn, hF2⟩ := hp
        have wb := hF2.at wb (mw_ne wb wd (fun q => by cases q))
        have wr := hF2.at wr (mw_ne wr wd (fun q => by cases q))
        have wd := wn
        have hF := hF.trans hF2
        rw [rd_f0] at wd
        refine W.eq (g2 := F0 m 70 ls []) rfl ?_
        refine mr_v E hr hk hM hS (by decide) (by decide) ?_ dd_Rd_checkLengths_70
        exact ⟨rfl, wd, hF⟩
    ·
      rw [nI_leI (by omega) (by omega)] at h35
      omega
  ·
    refine lv_aload_n hx hb dd_Rd_checkLengths_19 rfl (lv_at hl 0 rfl) ?_
    refine lv_iconst (v := nI 3) hx hb dd_Rd_checkLengths_20 (by decide) ?_
    refine mw_V (As := [.int (nI 3)]) (rest := []) E (cc_Rd_fail l D z (M) d b (pl) (nI 0) (v3) (v4) (v5) (v6) (nI be) (v8) (nI 3) wd) ky_Rd_fail kv_Rd_fail tw_Rd_68 hM hS wd rfl rfl rfl hl.1 rfl (Nat.le_of_ble_eq_true rfl) dd_Rd_checkLengths_21 (by decide) (by decide) (fun v M1 H locs hp hM hS => ?_)
    obtain ⟨rfl, wn, hF2⟩ := hp
    have wb := hF2.at wb (mw_ne wb wd (fun q => by cases q))
    have wr := hF2.at wr (mw_ne wr wd (fun q => by cases q))
    have wd := wn
    have hF := hF.trans hF2
    rw [rd_f0] at wd
    refine W.eq (g2 := F0 m 24 ls []) rfl ?_
    refine lv_aload_n hx hb dd_Rd_checkLengths_24 rfl (lv_at hl 0 rfl) ?_
    refine gf_Rd_18 E hM wd rfl dd_Rd_checkLengths_25 ?_
    refine lv_aload_n hx hb dd_Rd_checkLengths_28 rfl (lv_at hl 0 rfl) ?_
    refine gf_Rd_12 E hM wd rfl dd_Rd_checkLengths_29 ?_
    refine mw_V (As := []) (rest := [.int (nI pl)]) E (cc_By_length l D z (M1) b r f 0 wb wr (by decide)) ky_By_length kv_By_length tw_Rd_71 hM hS wb rfl rfl rfl hl.1 rfl (Nat.le_of_ble_eq_true rfl) dd_Rd_checkLengths_32 (by decide) (by decide) (fun v M1 H locs hp hM hS => ?_)
    obtain ⟨rfl, hq⟩ := hp
    have hq := hq.symm
    subst hq
    refine W.eq (g2 := F0 m 35 ls [.int (nI 0), .int (nI pl)]) rfl ?_
    refine lv_icmp_ge (tgt := 46) hx hb dd_Rd_checkLengths_35 (by decide) (fun h35 => ?_) (fun h35 => ?_)
    ·
      rw [nI_leI (by omega) (by omega)] at h35
      refine lv_aload_n hx hb dd_Rd_checkLengths_46 rfl (lv_at hl 0 rfl) ?_
      refine gf_Rd_12 E hM wd rfl dd_Rd_checkLengths_47 ?_
      refine lv_iconst (v := nI 1) hx hb dd_Rd_checkLengths_50 (by decide) ?_
      refine mw_V (As := [.int (nI 1)]) (rest := []) E (cc_By_at l D z (M1) b r f 0 (nI 1) wb wr (by decide)) ky_By_at kv_By_at tw_Rd_64 hM hS wb rfl rfl rfl hl.1 rfl (Nat.le_of_ble_eq_true rfl) dd_Rd_checkLengths_51 (by decide) (by decide) (fun v M1 H locs hp hM hS => ?_)
      obtain ⟨rfl, hq⟩ := hp
      have hq := hq.symm
      subst hq
      rw [by_at_0]
      refine W.eq (g2 := F0 m 54 ls [.int (-1)]) rfl ?_
      refine lv_aload_n hx hb dd_Rd_checkLengths_54 rfl (lv_at hl 0 rfl) ?_
      refine gf_Rd_18 E hM wd rfl dd_Rd_checkLengths_55 ?_
      refine lv_iconst (v := nI 1) hx hb dd_Rd_checkLengths_58 (by decide) ?_
      refine lv_isub hx hb dd_Rd_checkLengths_59 ?_
      refine lv_iconst (v := nI 1) hx hb dd_Rd_checkLengths_60 (by decide) ?_
      refine lv_isub hx hb dd_Rd_checkLengths_61 ?_
      refine lv_icmp_eq (tgt := 70) hx hb dd_Rd_checkLengths_62 (by decide) (fun h62 => ?_) (fun h62 => ?_)
      ·
        refine mr_v E hr hk hM hS (by decide) (by decide) ?_ dd_Rd_checkLengths_70
        exact ⟨rfl, wd, hF⟩
      ·
        refine lv_aload_n hx hb dd_Rd_checkLengths_65 rfl (lv_at hl 0 rfl) ?_
        refine lv_iconst (v := nI 1) hx hb dd_Rd_checkLengths_66 (by decide) ?_
        refine mw_V (As := [.int (nI 1)]) (rest := []) E (cc_Rd_fail l D z (M1) d b (pl) (nI 0) (v3) (v4) (v5) (v6) (nI be) (v8) (nI 1) wd) ky_Rd_fail kv_Rd_fail tw_Rd_68 hM hS wd rfl rfl rfl hl.1 rfl (Nat.le_of_ble_eq_true rfl) dd_Rd_checkLengths_67 (by decide) (by decide) (fun v M1 H locs hp hM hS => ?_)
        obtain ⟨rfl, wn, hF2⟩ := hp
        have wb := hF2.at wb (mw_ne wb wd (fun q => by cases q))
        have wr := hF2.at wr (mw_ne wr wd (fun q => by cases q))
        have wd := wn
        have hF := hF.trans hF2
        rw [rd_f0] at wd
        refine W.eq (g2 := F0 m 70 ls []) rfl ?_
        refine mr_v E hr hk hM hS (by decide) (by decide) ?_ dd_Rd_checkLengths_70
        exact ⟨rfl, wd, hF⟩
    ·
      rw [nI_leI (by omega) (by omega)] at h35
      omega
set_option maxHeartbeats 4000000 in
set_option maxRecDepth 100000 in
theorem cc_Rd_read_0 (l : Launch) (D : va_G) (z : Nat) (M : mw_M) (d b b0 r : Nat) (pl er v3 v4 v5 v6 v7 v8 : Int32) (f : Nat → Int32) (wd : M d = some (.inr (6, [.ref b0, .int (pl), .int (er), .int (v3), .int (v4), .int (v5), .int (v6), .int (v7), .int (v8)]))) (wb : M b = some (.inr (1, [.ref r, .int (nI 0)]))) (wr : M r = some (.inl (D.1 100, 100, .inl f))) : mw_C l yy_Rd_read bb_Rd_read 3 (Option.none : Option Jvm.ClassFile.FieldType) 3 66 0 0 D z M [.ref d, .ref b] (fun v M' => v = none ∧ (∃ pl2 v3 v4 v5 v6 v7 v8 : Int32, M' d = some (.inr (6, [.ref b, .int pl2, .int (nI 0), .int v3, .int v4, .int v5, .int v6, .int v7, .int v8]))) ∧ mw_fr (fun q => q = d) M M') := by
  refine mw_of (by decide) (Nat.le_of_ble_eq_true rfl) ?_
  intro p e s m below meth c ls E hr hk hnm hM hl
  have hx := E.x
  have hb := E.b
  have E : mw_E p m c bb_Rd_read 3 s _ D z "IdentityIssuer$Reader" := E
  have hl : lv_has ls 3 [(0, .ref d), (1, .ref b)] := hl
  have hS : va_S (mw_A z) s.heap s.heap [] := va_S.rf
  have hF : mw_fr (fun q => q = d) M M := mw_fr.rf
  refine lv_aload_n hx hb dd_Rd_read_0 rfl (lv_at hl 0 rfl) ?_
  refine lv_aload_n hx hb dd_Rd_read_1 rfl (lv_at hl 1 rfl) ?_
  refine pf_Rd_12 E hM hS wd (Nat.le_of_ble_eq_true rfl) dd_Rd_read_2 (fun H locs hM hS => ?_)
  have hM : mw_at D mg_cl z (va_up M d (some (.inr (6, [.ref b, .int (pl), .int (er), .int (v3), .int (v4), .int (v5), .int (v6), .int (v7), .int (v8)])))) H := hM
  obtain ⟨M1, hM1⟩ : ∃ M9 : mw_M, M9 = va_up M d (some (.inr (6, [.ref b, .int (pl), .int (er), .int (v3), .int (v4), .int (v5), .int (v6), .int (v7), .int (v8)]))) := ⟨_, rfl⟩
  rw [← hM1] at hM
  have wb := mw_uu hM1 wb (mw_ne wb wd (fun q => by cases q))
  have wr := mw_uu hM1 wr (mw_ne wr wd (fun q => by cases q))
  have wd := mw_us hM1
  have hF := mw_fu hM1 hF (rfl)
  refine lv_aload_n hx hb dd_Rd_read_5 rfl (lv_at hl 0 rfl) ?_
  refine lv_iconst (v := nI 0) hx hb dd_Rd_read_6 (by decide) ?_
  refine pf_Rd_18 E hM hS wd (Nat.le_of_ble_eq_true rfl) dd_Rd_read_7 (fun H locs hM hS => ?_)
  have hM : mw_at D mg_cl z (va_up M1 d (some (.inr (6, [.ref b, .int (nI 0), .int (er), .int (v3), .int (v4), .int (v5), .int (v6), .int (v7), .int (v8)])))) H := hM
  obtain ⟨M1, hM1⟩ : ∃ M9 : mw_M, M9 = va_up M1 d (some (.inr (6, [.ref b, .int (nI 0), .int (er), .int (v3), .int (v4), .int (v5), .int (v6), .int (v7), .int (v8)]))) := ⟨_, rfl⟩
  rw [← hM1] at hM
  have wb := mw_uu hM1 wb (mw_ne wb wd (fun q => by cases q))
  have wr := mw_uu hM1 wr (mw_ne wr wd (fun q => by cases q))
  have wd := mw_us hM1
  have hF := mw_fu hM1 hF (rfl)
  refine lv_aload_n hx hb dd_Rd_read_10 rfl (lv_at hl 0 rfl) ?_
  refine lv_iconst (v := -1) hx hb dd_Rd_read_11 (by decide) ?_
  refine pf_Rd_22 E hM hS wd (Nat.le_of_ble_eq_true rfl) dd_Rd_read_12 (fun H locs hM hS => ?_)
  have hM : mw_at D mg_cl z (va_up M1 d (some (.inr (6, [.ref b, .int (nI 0), .int (-1), .int (v3), .int (v4), .int (v5), .int (v6), .int (v7), .int (v8)])))) H := hM
  obtain ⟨M1, hM1⟩ : ∃ M9 : mw_M, M9 = va_up M1 d (some (.inr (6, [.ref b, .int (nI 0), .int (-1), .int (v3), .int (v4), .int (v5), .int (v6), .int (v7), .int (v8)]))) := ⟨_, rfl⟩
  rw [← hM1] at hM
  have wb := mw_uu hM1 wb (mw_ne wb wd (fun q => by cases q))
  have wr := mw_uu hM1 wr (mw_ne wr wd (fun q => by cases q))
  have wd := mw_us hM1
  have hF := mw_fu hM1 hF (rfl)
  refine lv_aload_n hx hb dd_Rd_read_15 rfl (lv_at hl 0 rfl) ?_
  refine lv_bipush (v := nI 48) hx hb dd_Rd_read_16 (by decide) ?_
  refine mw_V (As := [.int (nI 48)]) (rest := []) E (cc_Rd_expect_0a l D z (M1) d b r (0) (v3) (v4) (v5) (v6) (v7) (v8) f 48 wd wb wr (by decide) (by decide)) ky_Rd_expect kv_Rd_expect tw_Rd_25 hM hS wd rfl rfl rfl hl.1 rfl (Nat.le_of_ble_eq_true rfl) dd_Rd_read_18 (by decide) (by decide) (fun v M1 H locs hp hM hS => ?_)
  obtain ⟨rfl, wn, hF2⟩ := hp
  have wb := hF2.at wb (mw_ne wb wd (fun q => by cases q))
  have wr := hF2.at wr (mw_ne wr wd (fun q => by cases q))
  have wd := wn
  have hF := hF.trans hF2
  have wd : M1 d = some (.inr (6, [.ref b, .int (nI 1), .int (nI 0), .int (v3), .int (v4), .int (v5), .int (v6), .int (v7), .int (v8)])) := wd
  refine W.eq (g2 := F0 m 21 ls []) rfl ?_
  refine lv_aload_n hx hb dd_Rd_read_21 rfl (lv_at hl 0 rfl) ?_
  refine mw_V (As := []) (rest := []) E (cc_Rd_skipLength_0 l D z (M1) d b r (1) (v3) (v4) (v5) (v6) (v7) (v8) f  wd wb wr (by decide)) ky_Rd_skipLength kv_Rd_skipLength tw_Rd_29 hM hS wd rfl rfl rfl hl.1 rfl (Nat.le_of_ble_eq_true rfl) dd_Rd_read_22 (by decide) (by decide) (fun v M1 H locs hp hM hS => ?_)
  obtain ⟨rfl, wn, hF2⟩ := hp
  have wb := hF2.at wb (mw_ne wb wd (fun q => by cases q))
  have wr := hF2.at wr (mw_ne wr wd (fun q => by cases q))
  have wd := wn
  have hF := hF.trans hF2
  have wd : M1 d = some (.inr (6, [.ref b, .int (nI 2), .int (nI 0), .int (v3), .int (v4), .int (v5), .int (v6), .int (v7), .int (v8)])) := wd
  refine W.eq (g2 := F0 m 25 ls []) rfl ?_
  refine lv_aload_n hx hb dd_Rd_read_25 rfl (lv_at hl 0 rfl) ?_
  refine lv_bipush (v := nI 48) hx hb dd_Rd_read_26 (by decide) ?_
  refine mw_V (As := [.int (nI 48)]) (rest := []) E (cc_Rd_expect_0b l D z (M1) d b r (2) (v3) (v4) (v5) (v6) (v7) (v8) f 48 wd wb wr (by decide) (by decide)) ky_Rd_expect kv_Rd_expect tw_Rd_25 hM hS wd rfl rfl rfl hl.1 rfl (Nat.le_of_ble_eq_true rfl) dd_Rd_read_28 (by decide) (by decide) (fun v M1 H locs hp hM hS => ?_)
  obtain ⟨rfl, wn, hF2⟩ := hp
  have wb := hF2.at wb (mw_ne wb wd (fun q => by cases q))
  have wr := hF2.at wr (mw_ne wr wd (fun q => by cases q))
  have wd := wn
  have hF := hF.trans hF2
  have wd : M1 d = some (.inr (6, [.ref b, .int (nI 3), .int (nI 0), .int (v3), .int (v4), .int (v5), .int (v6), .int (v7), .int (v8)])) := wd
  refine W.eq (g2 := F0 m 31 ls []) rfl ?_
  refine lv_aload_n hx hb dd_Rd_read_31 rfl (lv_at hl 0 rfl) ?_
  refine mw_V (As := []) (rest := []) E (cc_Rd_skipLength_0 l D z (M1) d b r (3) (v3) (v4) (v5) (v6) (v7) (v8) f  wd wb wr (by decide)) ky_Rd_skipLength kv_Rd_skipLength tw_Rd_29 hM hS wd rfl rfl rfl hl.1 rfl (Nat.le_of_ble_eq_true rfl) dd_Rd_read_32 (by decide) (by decide) (fun v M1 H locs hp hM hS => ?_)
  obtain ⟨rfl, wn, hF2⟩ := hp
  have wb := hF2.at wb (mw_ne wb wd (fun q => by cases q))
  have wr := hF2.at wr (mw_ne wr wd (fun q => by cases q))
  have wd := wn
  have hF := hF.trans hF2
  have wd : M1 d = some (.inr (6, [.ref b, .int (nI 4), .int (nI 0), .int (v3), .int (v4), .int (v5), .int (v6), .int (v7), .int (v8)])) := wd
  refine W.eq (g2 := F0 m 35 ls []) rfl ?_
  refine lv_aload_n hx hb dd_Rd_read_35 rfl (lv_at hl 0 rfl) ?_
  refine lv_aload_n hx hb dd_Rd_read_36 rfl (lv_at hl 0 rfl) ?_
  refine mw_V (As := []) (rest := [.ref d]) E (cc_Rd_readNumber_0 l D z (M1) d b r 4 (v3) (v4) (v5) (v6) (v7) (v8) f wd wb wr (by decide)) ky_Rd_readNumber kv_Rd_readNumber tw_Rd_32 hM hS wd rfl rfl rfl hl.1 rfl (Nat.le_of_ble_eq_true rfl) dd_Rd_read_37 (by decide) (by decide) (fun v M1 H locs hp hM hS => ?_)
  obtain ⟨rfl, wn, hF2⟩ := hp
  have wb := hF2.at wb (mw_ne wb wd (fun q => by cases q))
  have wr := hF2.at wr (mw_ne wr wd (fun q => by cases q))
  have hF := hF.trans hF2
  have wd : M1 d = some (.inr (6, [.ref b, .int (nI 5), .int (nI 0), .int (v3), .int (v4), .int (v5), .int (v6), .int (v7), .int (v8)])) := wn
  refine W.eq (g2 := F0 m 40 ls [.int (nI 0), .ref d]) rfl ?_
  refine pf_Rd_36 E hM hS wd (Nat.le_of_ble_eq_true rfl) dd_Rd_read_40 (fun H locs hM hS => ?_)
  have hM : mw_at D mg_cl z (va_up M1 d (some (.inr (6, [.ref b, .int (nI 5), .int (nI 0), .int (nI 0), .int (v4), .int (v5), .int (v6), .int (v7), .int (v8)])))) H := hM
  obtain ⟨M1, hM1⟩ : ∃ M9 : mw_M, M9 = va_up M1 d (some (.inr (6, [.ref b, .int (nI 5), .int (nI 0), .int (nI 0), .int (v4), .int (v5), .int (v6), .int (v7), .int (v8)]))) := ⟨_, rfl⟩
  rw [← hM1] at hM
  have wb := mw_uu hM1 wb (mw_ne wb wd (fun q => by cases q))
  have wr := mw_uu hM1 wr (mw_ne wr wd (fun q => by cases q))
  have wd := mw_us hM1
  have hF := mw_fu hM1 hF (rfl)
  refine lv_aload_n hx hb dd_Rd_read_43 rfl (lv_at hl 0 rfl) ?_
  refine lv_aload_n hx hb dd_Rd_read_44 rfl (lv_at hl 0 rfl) ?_
  refine mw_V (As := []) (rest := [.ref d]) E (cc_Rd_readNumber_0 l D z (M1) d b r 5 (nI 0) (v4) (v5) (v6) (v7) (v8) f wd wb wr (by decide)) ky_Rd_readNumber kv_Rd_readNumber tw_Rd_32 hM hS wd rfl rfl rfl hl.1 rfl (Nat.le_of_ble_eq_true rfl) dd_Rd_read_45 (by decide) (by decide) (fun v M1 H locs hp hM hS => ?_)
  obtain ⟨rfl, wn, hF2⟩ := hp
  have wb := hF2.at wb (mw_ne wb wd (fun q => by cases q))
  have wr := hF2.at wr (mw_ne wr wd (fun q => by cases q))
  have hF := hF.trans hF2
  have wd : M1 d = some (.inr (6, [.ref b, .int (nI 6), .int (nI 0), .int (nI 0), .int (v4), .int (v5), .int (v6), .int (v7), .int (v8)])) := wn
  refine W.eq (g2 := F0 m 48 ls [.int (nI 0), .ref d]) rfl ?_
  refine pf_Rd_39 E hM hS wd (Nat.le_of_ble_eq_true rfl) dd_Rd_read_48 (fun H locs hM hS => ?_)
  have hM : mw_at D mg_cl z (va_up M1 d (some (.inr (6, [.ref b, .int (nI 6), .int (nI 0), .int (nI 0), .int (nI 0), .int (v5), .int (v6), .int (v7), .int (v8)])))) H := hM
  obtain ⟨M1, hM1⟩ : ∃ M9 : mw_M, M9 = va_up M1 d (some (.inr (6, [.ref b, .int (nI 6), .int (nI 0), .int (nI 0), .int (nI 0), .int (v5), .int (v6), .int (v7), .int (v8)]))) := ⟨_, rfl⟩
  rw [← hM1] at hM
  have wb := mw_uu hM1 wb (mw_ne wb wd (fun q => by cases q))
  have wr := mw_uu hM1 wr (mw_ne wr wd (fun q => by cases q))
  have wd := mw_us hM1
  have hF := mw_fu hM1 hF (rfl)
  refine lv_aload_n hx hb dd_Rd_read_51 rfl (lv_at hl 0 rfl) ?_
  refine lv_aload_n hx hb dd_Rd_read_52 rfl (lv_at hl 0 rfl) ?_
  refine mw_V (As := []) (rest := [.ref d]) E (cc_Rd_readNumber_0 l D z (M1) d b r 6 (nI 0) (nI 0) (v5) (v6) (v7) (v8) f wd wb wr (by decide)) ky_Rd_readNumber kv_Rd_readNumber tw_Rd_32 hM hS wd rfl rfl rfl hl.1 rfl (Nat.le_of_ble_eq_true rfl) dd_Rd_read_53 (by decide) (by decide) (fun v M1 H locs hp hM hS => ?_)
  obtain ⟨rfl, wn, hF2⟩ := hp
  have wb := hF2.at wb (mw_ne wb wd (fun q => by cases q))
  have wr := hF2.at wr (mw_ne wr wd (fun q => by cases q))
  have hF := hF.trans hF2
  have wd : M1 d = some (.inr (6, [.ref b, .int (nI 7), .int (nI 0), .int (nI 0), .int (nI 0), .int (v5), .int (v6), .int (v7), .int (v8)])) := wn
  refine W.eq (g2 := F0 m 56 ls [.int (nI 0), .ref d]) rfl ?_
  refine pf_Rd_42 E hM hS wd (Nat.le_of_ble_eq_true rfl) dd_Rd_read_56 (fun H locs hM hS => ?_)
  have hM : mw_at D mg_cl z (va_up M1 d (some (.inr (6, [.ref b, .int (nI 7), .int (nI 0), .int (nI 0), .int (nI 0), .int (nI 0), .int (v6), .int (v7), .int (v8)])))) H := hM
  obtain ⟨M1, hM1⟩ : ∃ M9 : mw_M, M9 = va_up M1 d (some (.inr (6, [.ref b, .int (nI 7), .int (nI 0), .int (nI 0), .int (nI 0), .int (nI 0), .int (v6), .int (v7), .int (v8)]))) := ⟨_, rfl⟩
  rw [← hM1] at hM
  have wb := mw_uu hM1 wb (mw_ne wb wd (fun q => by cases q))
  have wr := mw_uu hM1 wr (mw_ne wr wd (fun q => by cases q))
  have wd := mw_us hM1
  have hF := mw_fu hM1 hF (rfl)
  refine lv_aload_n hx hb dd_Rd_read_59 rfl (lv_at hl 0 rfl) ?_
  refine lv_aload_n hx hb dd_Rd_read_60 rfl (lv_at hl 0 rfl) ?_
  refine mw_V (As := []) (rest := [.ref d]) E (cc_Rd_readNumber_0 l D z (M1) d b r 7 (nI 0) (nI 0) (nI 0) (v6) (v7) (v8) f wd wb wr (by decide)) ky_Rd_readNumber kv_Rd_readNumber tw_Rd_32 hM hS wd rfl rfl rfl hl.1 rfl (Nat.le_of_ble_eq_true rfl) dd_Rd_read_61 (by decide) (by decide) (fun v M1 H locs hp hM hS => ?_)
  obtain ⟨rfl, wn, hF2⟩ := hp
  have wb := hF2.at wb (mw_ne wb wd (fun q => by cases q))
  have wr := hF2.at wr (mw_ne wr wd (fun q => by cases q))
  have hF := hF.trans hF2
  have wd : M1 d = some (.inr (6, [.ref b, .int (nI 8), .int (nI 0), .int (nI 0), .int (nI 0), .int (nI 0), .int (v6), .int (v7), .int (v8)])) := wn
  refine W.eq (g2 := F0 m 64 ls [.int (nI 0), .ref d]) rfl ?_
  refine pf_Rd_45 E hM hS wd (Nat.le_of_ble_eq_true rfl) dd_Rd_read_64 (fun H locs hM hS => ?_)
  have hM : mw_at D mg_cl z (va_up M1 d (some (.inr (6, [.ref b, .int (nI 8), .int (nI 0), .int (nI 0), .int (nI 0), .int (nI 0), .int (nI 0), .int (v7), .int (v8)])))) H := hM
  obtain ⟨M1, hM1⟩ : ∃ M9 : mw_M, M9 = va_up M1 d (some (.inr (6, [.ref b, .int (nI 8), .int (nI 0), .int (nI 0), .int (nI 0), .int (nI 0), .int (nI 0), .int (v7), .int (v8)]))) := ⟨_, rfl⟩
  rw [← hM1] at hM
  have wb := mw_uu hM1 wb (mw_ne wb wd (fun q => by cases q))
  have wr := mw_uu hM1 wr (mw_ne wr wd (fun q => by cases q))
  have wd := mw_us hM1
  have hF := mw_fu hM1 hF (rfl)
  refine lv_aload_n hx hb dd_Rd_read_67 rfl (lv_at hl 0 rfl) ?_
  refine mw_V (As := []) (rest := []) E (cc_Rd_readId_0 l D z (M1) d b r 8 (nI 0) (nI 0) (nI 0) (nI 0) (v7) (v8) f wd wb wr (by decide)) ky_Rd_readId kv_Rd_readId tw_Rd_48 hM hS wd rfl rfl rfl hl.1 rfl (Nat.le_of_ble_eq_true rfl) dd_Rd_read_68 (by decide) (by decide) (fun v M1 H locs hp hM hS => ?_)
  obtain ⟨rfl, wn, hF2⟩ := hp
  have wb := hF2.at wb (mw_ne wb wd (fun q => by cases q))
  have wr := hF2.at wr (mw_ne wr wd (fun q => by cases q))
  have hF := hF.trans hF2
  have wd : M1 d = some (.inr (6, [.ref b, .int (nI 9), .int (nI 0), .int (nI 0), .int (nI 0), .int (nI 0), .int (nI 0), .int (v7), .int (v8)])) := wn
  refine W.eq (g2 := F0 m 71 ls []) rfl ?_
  refine lv_iconst (v := nI 0) hx hb dd_Rd_read_71 (by decide) ?_
  refine lv_istore_n (lv' := [(2, .int (nI 0)), (0, .ref d), (1, .ref b)]) hx hb dd_Rd_read_72 rfl hl (by decide) rfl (fun ls hl => ?_)
  refine lv_iload_n hx hb dd_Rd_read_73 rfl (lv_at hl 0 rfl) ?_
  refine va_getsN hx hb E.Z.2.1.1 hS E.o (va_Nw.use rfl (E.N.1 _ tw_Rd_51)) (fun _ h => h) dd_Rd_read_74 ?_
  refine va_tlen (v := nI 4) hx hb E.Z.2.1.2 hS rfl dd_Rd_read_77 ?_
  refine lv_icmp_ge (tgt := 96) hx hb dd_Rd_read_78 (by decide) (fun h78 => ?_) (fun h78 => ?_)
  ·
    rw [nI_leI (by omega) (by omega)] at h78
    exact absurd h78 (by decide)
  ·
    rw [nI_leI (by omega) (by omega)] at h78
    refine lv_aload_n hx hb dd_Rd_read_81 rfl (lv_at hl 1 rfl) ?_
    refine va_getsN hx hb E.Z.2.1.1 hS E.o (va_Nw.use rfl (E.N.1 _ tw_Rd_51)) (fun _ h => h) dd_Rd_read_82 ?_
    refine lv_iload_n hx hb dd_Rd_read_85 rfl (lv_at hl 0 rfl) ?_
    refine va_ti (v := .int (([3, 2, 7, 128] : List Int32).getD (nI 0).toNatClampNeg 0)) hx hb E.Z.2.1.2 hS (vp_in_nI (by omega) (by omega)) rfl dd_Rd_read_86 ?_
    refine mw_topi (y := ([3, 2, 7, 128] : List Int32).getD 0 0) (by rw [nI_clamp (by omega)]) ?_
    refine mw_topi (y := nI 3) (by decide) ?_
    refine mw_V (As := [.int (nI 3)]) (rest := []) E (cc_Rd_expect_0b l D z (M1) d b r (9) (nI 0) (nI 0) (nI 0) (nI 0) (v7) (v8) f 3 wd wb wr (by decide) (by decide)) ky_Rd_expect kv_Rd_expect tw_Rd_25 hM hS wd rfl rfl rfl hl.1 rfl (Nat.le_of_ble_eq_true rfl) dd_Rd_read_87 (by decide) (by decide) (fun v M1 H locs hp hM hS => ?_)
    obtain ⟨rfl, wn, hF2⟩ := hp
    have wb := hF2.at wb (mw_ne wb wd (fun q => by cases q))
    have wr := hF2.at wr (mw_ne wr wd (fun q => by cases q))
    have wd := wn
    have hF := hF.trans hF2
    have wd : M1 d = some (.inr (6, [.ref b, .int (nI 10), .int (nI 0), .int (nI 0), .int (nI 0), .int (nI 0), .int (nI 0), .int (v7), .int (v8)])) := wd
    refine W.eq (g2 := F0 m 90 ls []) rfl ?_
    refine lv_iinc (k := 0) (v := nI (0 + 1)) (lv' := [(2, .int (nI (0 + 1))), (0, .ref d), (1, .ref b)]) hx hb dd_Rd_read_90 hl rfl (nI_1 _) (by decide) rfl (fun ls hl => ?_)
    have hl : lv_has ls 3 [(2, .int (nI 1)), (0, .ref d), (1, .ref b)] := hl
    refine lv_goto (tgt := 73) hx hb dd_Rd_read_93 (by decide) ?_
    refine lv_iload_n hx hb dd_Rd_read_73 rfl (lv_at hl 0 rfl) ?_
    refine va_getsN hx hb E.Z.2.1.1 hS E.o (va_Nw.use rfl (E.N.1 _ tw_Rd_51)) (fun _ h => h) dd_Rd_read_74 ?_
    refine va_tlen (v := nI 4) hx hb E.Z.2.1.2 hS rfl dd_Rd_read_77 ?_
    refine lv_icmp_ge (tgt := 96) hx hb dd_Rd_read_78 (by decide) (fun h78 => ?_) (fun h78 => ?_)
    ·
      rw [nI_leI (by omega) (by omega)] at h78
      exact absurd h78 (by decide)
    ·
      rw [nI_leI (by omega) (by omega)] at h78
      refine lv_aload_n hx hb dd_Rd_read_81 rfl (lv_at hl 1 rfl) ?_
      refine va_getsN hx hb E.Z.2.1.1 hS E.o (va_Nw.use rfl (E.N.1 _ tw_Rd_51)) (fun _ h => h) dd_Rd_read_82 ?_
      refine lv_iload_n hx hb dd_Rd_read_85 rfl (lv_at hl 0 rfl) ?_
      refine va_ti (v := .int (([3, 2, 7, 128] : List Int32).getD (nI 1).toNatClampNeg 0)) hx hb E.Z.2.1.2 hS (vp_in_nI (by omega) (by omega)) rfl dd_Rd_read_86 ?_
      refine mw_topi (y := ([3, 2, 7, 128] : List Int32).getD 1 0) (by rw [nI_clamp (by omega)]) ?_
      refine mw_topi (y := nI 2) (by decide) ?_
      refine mw_V (As := [.int (nI 2)]) (rest := []) E (cc_Rd_expect_0b l D z (M1) d b r (10) (nI 0) (nI 0) (nI 0) (nI 0) (v7) (v8) f 2 wd wb wr (by decide) (by decide)) ky_Rd_expect kv_Rd_expect tw_Rd_25 hM hS wd rfl rfl rfl hl.1 rfl (Nat.le_of_ble_eq_true rfl) dd_Rd_read_87 (by decide) (by decide) (fun v M1 H locs hp hM hS => ?_)
      obtain ⟨rfl, wn, hF2⟩ := hp
      have wb := hF2.at wb (mw_ne wb wd (fun q => by cases q))
      have wr := hF2.at wr (mw_ne wr wd (fun q => by cases q))
      have wd := wn
      have hF := hF.trans hF2
      have wd : M1 d = some (.inr (6, [.ref b, .int (nI 11), .int (nI 0), .int (nI 0), .int (nI 0), .int (nI 0), .int (nI 0), .int (v7), .int (v8)])) := wd
      refine W.eq (g2 := F0 m 90 ls []) rfl ?_
      refine lv_iinc (k := 0) (v := nI (1 + 1)) (lv' := [(2, .int (nI (1 + 1))), (0, .ref d), (1, .ref b)]) hx hb dd_Rd_read_90 hl rfl (nI_1 _) (by decide) rfl (fun ls hl => ?_)
      have hl : lv_has ls 3 [(2, .int (nI 2)), (0, .ref d), (1, .ref b)] := hl
      refine lv_goto (tgt := 73) hx hb dd_Rd_read_93 (by decide) ?_
      refine lv_iload_n hx hb dd_Rd_read_73 rfl (lv_at hl 0 rfl) ?_
      refine va_getsN hx hb E.Z.2.1.1 hS E.o (va_Nw.use rfl (E.N.1 _ tw_Rd_51)) (fun _ h => h) dd_Rd_read_74 ?_
      refine va_tlen (v := nI 4) hx hb E.Z.2.1.2 hS rfl dd_Rd_read_77 ?_
      refine lv_icmp_ge (tgt := 96) hx hb dd_Rd_read_78 (by decide) (fun h78 => ?_) (fun h78 => ?_)
      ·
        rw [nI_leI (by omega) (by omega)] at h78
        exact absurd h78 (by decide)
      ·
        rw [nI_leI (by omega) (by omega)] at h78
        refine lv_aload_n hx hb dd_Rd_read_81 rfl (lv_at hl 1 rfl) ?_
        refine va_getsN hx hb E.Z.2.1.1 hS E.o (va_Nw.use rfl (E.N.1 _ tw_Rd_51)) (fun _ h => h) dd_Rd_read_82 ?_
        refine lv_iload_n hx hb dd_Rd_read_85 rfl (lv_at hl 0 rfl) ?_
        refine va_ti (v := .int (([3, 2, 7, 128] : List Int32).getD (nI 2).toNatClampNeg 0)) hx hb E.Z.2.1.2 hS (vp_in_nI (by omega) (by omega)) rfl dd_Rd_read_86 ?_
        refine mw_topi (y := ([3, 2, 7, 128] : List Int32).getD 2 0) (by rw [nI_clamp (by omega)]) ?_
        refine mw_topi (y := nI 7) (by decide) ?_
        refine mw_V (As := [.int (nI 7)]) (rest := []) E (cc_Rd_expect_0b l D z (M1) d b r (11) (nI 0) (nI 0) (nI 0) (nI 0) (v7) (v8) f 7 wd wb wr (by decide) (by decide)) ky_Rd_expect kv_Rd_expect tw_Rd_25 hM hS wd rfl rfl rfl hl.1 rfl (Nat.le_of_ble_eq_true rfl) dd_Rd_read_87 (by decide) (by decide) (fun v M1 H locs hp hM hS => ?_)
        obtain ⟨rfl, wn, hF2⟩ := hp
        have wb := hF2.at wb (mw_ne wb wd (fun q => by cases q))
        have wr := hF2.at wr (mw_ne wr wd (fun q => by cases q))
        have wd := wn
        have hF := hF.trans hF2
        have wd : M1 d = some (.inr (6, [.ref b, .int (nI 12), .int (nI 0), .int (nI 0), .int (nI 0), .int (nI 0), .int (nI 0), .int (v7), .int (v8)])) := wd
        refine W.eq (g2 := F0 m 90 ls []) rfl ?_
        refine lv_iinc (k := 0) (v := nI (2 + 1)) (lv' := [(2, .int (nI (2 + 1))), (0, .ref d), (1, .ref b)]) hx hb dd_Rd_read_90 hl rfl (nI_1 _) (by decide) rfl (fun ls hl => ?_)
        have hl : lv_has ls 3 [(2, .int (nI 3)), (0, .ref d), (1, .ref b)] := hl
        refine lv_goto (tgt := 73) hx hb dd_Rd_read_93 (by decide) ?_
        refine lv_iload_n hx hb dd_Rd_read_73 rfl (lv_at hl 0 rfl) ?_
        refine va_getsN hx hb E.Z.2.1.1 hS E.o (va_Nw.use rfl (E.N.1 _ tw_Rd_51)) (fun _ h => h) dd_Rd_read_74 ?_
        refine va_tlen (v := nI 4) hx hb E.Z.2.1.2 hS rfl dd_Rd_read_77 ?_
        refine lv_icmp_ge (tgt := 96) hx hb dd_Rd_read_78 (by decide) (fun h78 => ?_) (fun h78 => ?_)
        ·
          rw [nI_leI (by omega) (by omega)] at h78
          exact absurd h78 (by decide)
        ·
          rw [nI_leI (by omega) (by omega)] at h78
          refine lv_aload_n hx hb dd_Rd_read_81 rfl (lv_at hl 1 rfl) ?_
          refine va_getsN hx hb E.Z.2.1.1 hS E.o (va_Nw.use rfl (E.N.1 _ tw_Rd_51)) (fun _ h => h) dd_Rd_read_82 ?_
          refine lv_iload_n hx hb dd_Rd_read_85 rfl (lv_at hl 0 rfl) ?_
          refine va_ti (v := .int (([3, 2, 7, 128] : List Int32).getD (nI 3).toNatClampNeg 0)) hx hb E.Z.2.1.2 hS (vp_in_nI (by omega) (by omega)) rfl dd_Rd_read_86 ?_
          refine mw_topi (y := ([3, 2, 7, 128] : List Int32).getD 3 0) (by rw [nI_clamp (by omega)]) ?_
          refine mw_topi (y := nI 128) (by decide) ?_
          refine mw_V (As := [.int (nI 128)]) (rest := []) E (cc_Rd_expect_0b l D z (M1) d b r (12) (nI 0) (nI 0) (nI 0) (nI 0) (v7) (v8) f 128 wd wb wr (by decide) (by decide)) ky_Rd_expect kv_Rd_expect tw_Rd_25 hM hS wd rfl rfl rfl hl.1 rfl (Nat.le_of_ble_eq_true rfl) dd_Rd_read_87 (by decide) (by decide) (fun v M1 H locs hp hM hS => ?_)
          obtain ⟨rfl, wn, hF2⟩ := hp
          have wb := hF2.at wb (mw_ne wb wd (fun q => by cases q))
          have wr := hF2.at wr (mw_ne wr wd (fun q => by cases q))
          have wd := wn
          have hF := hF.trans hF2
          have wd : M1 d = some (.inr (6, [.ref b, .int (nI 13), .int (nI 0), .int (nI 0), .int (nI 0), .int (nI 0), .int (nI 0), .int (v7), .int (v8)])) := wd
          refine W.eq (g2 := F0 m 90 ls []) rfl ?_
          refine lv_iinc (k := 0) (v := nI (3 + 1)) (lv' := [(2, .int (nI (3 + 1))), (0, .ref d), (1, .ref b)]) hx hb dd_Rd_read_90 hl rfl (nI_1 _) (by decide) rfl (fun ls hl => ?_)
          have hl : lv_has ls 3 [(2, .int (nI 4)), (0, .ref d), (1, .ref b)] := hl
          refine lv_goto (tgt := 73) hx hb dd_Rd_read_93 (by decide) ?_
          refine lv_iload_n hx hb dd_Rd_read_73 rfl (lv_at hl 0 rfl) ?_
          refine va_getsN hx hb E.Z.2.1.1 hS E.o (va_Nw.use rfl (E.N.1 _ tw_Rd_51)) (fun _ h => h) dd_Rd_read_74 ?_
          refine va_tlen (v := nI 4) hx hb E.Z.2.1.2 hS rfl dd_Rd_read_77 ?_
          refine lv_icmp_ge (tgt := 96) hx hb dd_Rd_read_78 (by decide) (fun h78 => ?_) (fun h78 => ?_)
          ·
            rw [nI_leI (by omega) (by omega)] at h78
            refine lv_aload_n hx hb dd_Rd_read_96 rfl (lv_at hl 1 rfl) ?_
            refine lv_aload_n hx hb dd_Rd_read_97 rfl (lv_at hl 1 rfl) ?_
            refine gf_Rd_18 E hM wd rfl dd_Rd_read_98 ?_
            refine pf_Rd_55 E hM hS wd (Nat.le_of_ble_eq_true rfl) dd_Rd_read_101 (fun H locs hM hS => ?_)
            have hM : mw_at D mg_cl z (va_up M1 d (some (.inr (6, [.ref b, .int (nI 13), .int (nI 0), .int (nI 0), .int (nI 0), .int (nI 0), .int (nI 0), .int (nI 13), .int (v8)])))) H := hM
            obtain ⟨M1, hM1⟩ : ∃ M9 : mw_M, M9 = va_up M1 d (some (.inr (6, [.ref b, .int (nI 13), .int (nI 0), .int (nI 0), .int (nI 0), .int (nI 0), .int (nI 0), .int (nI 13), .int (v8)]))) := ⟨_, rfl⟩
            rw [← hM1] at hM
            have wb := mw_uu hM1 wb (mw_ne wb wd (fun q => by cases q))
            have wr := mw_uu hM1 wr (mw_ne wr wd (fun q => by cases q))
            have wd := mw_us hM1
            have hF := mw_fu hM1 hF (rfl)
            refine lv_aload_n hx hb dd_Rd_read_104 rfl (lv_at hl 1 rfl) ?_
            refine lv_aload_n hx hb dd_Rd_read_105 rfl (lv_at hl 1 rfl) ?_
            refine mw_V (As := []) (rest := [.ref d]) E (cc_Rd_readNumber_0 l D z (M1) d b r 13 (nI 0) (nI 0) (nI 0) (nI 0) (nI 13) (v8) f wd wb wr (by decide)) ky_Rd_readNumber kv_Rd_readNumber tw_Rd_32 hM hS wd rfl rfl rfl hl.1 rfl (Nat.le_of_ble_eq_true rfl) dd_Rd_read_106 (by decide) (by decide) (fun v M1 H locs hp hM hS => ?_)
            obtain ⟨rfl, wn, hF2⟩ := hp
            have wb := hF2.at wb (mw_ne wb wd (fun q => by cases q))
            have wr := hF2.at wr (mw_ne wr wd (fun q => by cases q))
            have hF := hF.trans hF2
            have wd : M1 d = some (.inr (6, [.ref b, .int (nI 14), .int (nI 0), .int (nI 0), .int (nI 0), .int (nI 0), .int (nI 0), .int (nI 13), .int (v8)])) := wn
            refine W.eq (g2 := F0 m 109 ls [.int (nI 0), .ref d]) rfl ?_
            refine pf_Rd_58 E hM hS wd (Nat.le_of_ble_eq_true rfl) dd_Rd_read_109 (fun H locs hM hS => ?_)
            have hM : mw_at D mg_cl z (va_up M1 d (some (.inr (6, [.ref b, .int (nI 14), .int (nI 0), .int (nI 0), .int (nI 0), .int (nI 0), .int (nI 0), .int (nI 13), .int (nI 0)])))) H := hM
            obtain ⟨M1, hM1⟩ : ∃ M9 : mw_M, M9 = va_up M1 d (some (.inr (6, [.ref b, .int (nI 14), .int (nI 0), .int (nI 0), .int (nI 0), .int (nI 0), .int (nI 0), .int (nI 13), .int (nI 0)]))) := ⟨_, rfl⟩
            rw [← hM1] at hM
            have wb := mw_uu hM1 wb (mw_ne wb wd (fun q => by cases q))
            have wr := mw_uu hM1 wr (mw_ne wr wd (fun q => by cases q))
            have wd := mw_us hM1
            have hF := mw_fu hM1 hF (rfl)
            refine lv_aload_n hx hb dd_Rd_read_112 rfl (lv_at hl 1 rfl) ?_
            refine mw_V (As := []) (rest := []) E (cc_Rd_checkLengths_0 l D z (M1) d b r 14 (nI 0) (nI 0) (nI 0) (nI 0) (nI 0) f 13 wd wb wr (by decide) (by decide) (by decide)) ky_Rd_checkLengths kv_Rd_checkLengths tw_Rd_61 hM hS wd rfl rfl rfl hl.1 rfl (Nat.le_of_ble_eq_true rfl) dd_Rd_read_113 (by decide) (by decide) (fun v M1 H locs hp hM hS => ?_)
            obtain ⟨rfl, wn, hF2⟩ := hp
            have wb := hF2.at wb (mw_ne wb wd (fun q => by cases q))
            have wr := hF2.at wr (mw_ne wr wd (fun q => by cases q))
            have hF := hF.trans hF2
            have wd : M1 d = some (.inr (6, [.ref b, .int (nI 14), .int (nI 0), .int (nI 0), .int (nI 0), .int (nI 0), .int (nI 0), .int (nI 13), .int (nI 0)])) := wn
            refine W.eq (g2 := F0 m 116 ls []) rfl ?_
            refine mr_v E hr hk hM hS (by decide) (by decide) ?_ dd_Rd_read_116
            exact ⟨rfl, ⟨_, _, _, _, _, _, _, wd⟩, hF⟩
          ·
            rw [nI_leI (by omega) (by omega)] at h78
            exact absurd (by decide) h78
theorem cc_Xi_judge_0 (l : Launch) (D : va_G) (z : Nat) (M : mw_M) (x xb xi xk xe xa xw xl xr xt rn cu : Nat) (fo ck se : Int32) (b : Nat) (pl2 v3 v4 v5 v6 v7 v8 : Int32) (wx : M x = some (.inr (0, [.ref xb, .ref xi, .ref xk, .ref xe, .ref xa, .ref xw, .ref xl, .ref xr, .ref xt, .int (fo), .int (ck), .int (se), .ref rn, .ref cu]))) (wd : M xr = some (.inr (6, [.ref b, .int (pl2), .int (nI 0), .int (v3), .int (v4), .int (v5), .int (v6), .int (v7), .int (v8)]))) : mw_C l yy_Xi_judge bb_Xi_judge 2 (Option.some Jvm.ClassFile.FieldType.int) 0 0 0 0 D z M [.ref x] (fun v M' => v = some (.int (-1)) ∧ M' = M) := by
  refine mw_of (by decide) (Nat.le_of_ble_eq_true rfl) ?_
  intro p e s m below meth c ls E hr hk hnm hM hl
  have hx := E.x
  have hb := E.b
  have E : mw_E p m c bb_Xi_judge 2 s _ D z "IdentityIssuer" := E
  have hl : lv_has ls 2 [(0, .ref x)] := hl
  have hS : va_S (mw_A z) s.heap s.heap [] := va_S.rf
  refine lv_aload_n hx hb dd_Xi_judge_0 rfl (lv_at hl 0 rfl) ?_
  refine gf_Xi_50 E hM wx rfl dd_Xi_judge_1 ?_
  refine gf_Xi_321 E hM wd rfl dd_Xi_judge_4 ?_
  refine lv_iconst (v := -1) hx hb dd_Xi_judge_7 (by decide) ?_
  refine lv_icmp_eq (tgt := 21) hx hb dd_Xi_judge_8 (by decide) (fun h8 => ?_) (fun h8 => ?_)
  ·
    exact absurd h8 (by decide)
  ·
    refine lv_iconst (v := -1) hx hb dd_Xi_judge_11 (by decide) ?_
    refine lv_aload_n hx hb dd_Xi_judge_12 rfl (lv_at hl 0 rfl) ?_
    refine gf_Xi_50 E hM wx rfl dd_Xi_judge_13 ?_
    refine gf_Xi_321 E hM wd rfl dd_Xi_judge_16 ?_
    refine lv_isub hx hb dd_Xi_judge_19 ?_
    refine mw_topi (y := -1) (by decide) ?_
    refine mr_i E hr hk hM hS (by decide) (by decide) ?_ dd_Xi_judge_20
    exact ⟨rfl, rfl⟩
theorem cc_Xi_verify_0 (l : Launch) (D : va_G) (z : Nat) (M : mw_M) (x xb xi xk xe xa xw xl xr xt rn cu : Nat) (fo ck se : Int32) (b0 r : Nat) (pl er v3 v4 v5 v6 v7 v8 : Int32) (f : Nat → Int32) (wx : M x = some (.inr (0, [.ref xb, .ref xi, .ref xk, .ref xe, .ref xa, .ref xw, .ref xl, .ref xr, .ref xt, .int (fo), .int (ck), .int (se), .ref rn, .ref cu]))) (wb : M xb = some (.inr (1, [.ref r, .int (nI 0)]))) (wr : M r = some (.inl (D.1 100, 100, .inl f))) (wd : M xr = some (.inr (6, [.ref b0, .int (pl), .int (er), .int (v3), .int (v4), .int (v5), .int (v6), .int (v7), .int (v8)]))) : mw_C l yy_Xi_verify bb_Xi_verify 2 (Option.some Jvm.ClassFile.FieldType.int) 4 88 0 0 D z M [.ref x] (fun v M' => v = some (.int (-1)) ∧ mw_fr (fun q => q = xb ∨ q = xr) M M') := by
  refine mw_of (by decide) (Nat.le_of_ble_eq_true rfl) ?_
  intro p e s m below meth c ls E hr hk hnm hM hl
  have hx := E.x
  have hb := E.b
  have E : mw_E p m c bb_Xi_verify 2 s _ D z "IdentityIssuer" := E
  have hl : lv_has ls 2 [(0, .ref x)] := hl
  have hS : va_S (mw_A z) s.heap s.heap [] := va_S.rf
  have hF : mw_fr (fun q => q = xb ∨ q = xr) M M := mw_fr.rf
  refine lv_aload_n hx hb dd_Xi_verify_0 rfl (lv_at hl 0 rfl) ?_
  refine gf_Xi_50 E hM wx rfl dd_Xi_verify_1 ?_
  refine lv_aload_n hx hb dd_Xi_verify_4 rfl (lv_at hl 0 rfl) ?_
  refine gf_Xi_10 E hM wx rfl dd_Xi_verify_5 ?_
  refine mw_V (As := [.ref xb]) (rest := []) E (cc_Rd_read_0 l D z M xr xb b0 r pl er v3 v4 v5 v6 v7 v8 f wd wb wr) ky_Rd_read kv_Rd_read tw_Xi_257 hM hS wd rfl rfl rfl hl.1 rfl (Nat.le_of_ble_eq_true rfl) dd_Xi_verify_8 (by decide) (by decide) (fun v M1 H locs hp hM hS => ?_)
  obtain ⟨rfl, ⟨pl2, w3, w4, w5, w6, w7, w8, wn⟩, hF2⟩ := hp
  have wx := hF2.at wx (mw_ne wx wd (fun q => by cases q))
  have wb := hF2.at wb (mw_ne wb wd (fun q => by cases q))
  have wr := hF2.at wr (mw_ne wr wd (fun q => by cases q))
  have wd := wn
  have hF := hF.trans (hF2.mono (fun q h => Or.inr h))
  refine W.eq (g2 := F0 m 11 ls []) rfl ?_
  refine lv_aload_n hx hb dd_Xi_verify_11 rfl (lv_at hl 0 rfl) ?_
  refine mw_V (As := []) (rest := []) E (cc_Xi_judge_0 l D z M1 x xb xi xk xe xa xw xl xr xt rn cu fo ck se xb pl2 w3 w4 w5 w6 w7 w8 wx wd) ky_Xi_judge kv_Xi_judge tw_Xi_261 hM hS wx rfl rfl rfl hl.1 rfl (Nat.le_of_ble_eq_true rfl) dd_Xi_verify_12 (by decide) (by decide) (fun v M1 H locs hp hM hS => ?_)
  obtain ⟨rfl, hq⟩ := hp
  have hq := hq.symm
  subst hq
  refine W.eq (g2 := F0 m 15 ls [.int (-1)]) rfl ?_
  refine lv_istore_n (lv' := [(1, .int (-1)), (0, .ref x)]) hx hb dd_Xi_verify_15 rfl hl (by decide) rfl (fun ls hl => ?_)
  refine lv_aload_n hx hb dd_Xi_verify_16 rfl (lv_at hl 1 rfl) ?_
  refine gf_Xi_10 E hM wx rfl dd_Xi_verify_17 ?_
  refine mw_V (As := []) (rest := []) E (cc_By_clear l D z M1 xb r f 0 wb wr (by decide)) ky_By_clear kv_By_clear tw_Xi_95 hM hS wb rfl rfl rfl hl.1 rfl (Nat.le_of_ble_eq_true rfl) dd_Xi_verify_20 (by decide) (by decide) (fun v M1 H locs hp hM hS => ?_)
  obtain ⟨rfl, -, hF2⟩ := hp
  have hF := hF.trans (hF2.mono (fun q h => Or.inl h))
  refine W.eq (g2 := F0 m 23 ls []) rfl ?_
  refine lv_iload_n hx hb dd_Xi_verify_23 rfl (lv_at hl 0 rfl) ?_
  refine mr_i E hr hk hM hS (by decide) (by decide) ?_ dd_Xi_verify_24
  exact ⟨rfl, hF⟩
