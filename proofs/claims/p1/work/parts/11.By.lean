/-! Bytes: a row of at most 100 -/
def by_at (f : Nat → Int32) (k : Nat) (i : Int32) : Int32 := if 0 ≤ i.toInt ∧ i.toInt < k then f i.toNatClampNeg else -1
theorem by_at_neg {f : Nat → Int32} {k : Nat} {i : Int32} (h : i < 0) : by_at f k i = -1 := by
  rw [Int32.lt_iff_toInt_lt, Int32.toInt_zero] at h
  exact if_neg (fun q => by omega)
theorem by_at_ge {f : Nat → Int32} {k : Nat} {i : Int32} (hk : k < 2 ^ 31) (h : nI k ≤ i) : by_at f k i = -1 := by
  rw [Int32.le_iff_toInt_le, nI_toInt hk] at h
  exact if_neg (fun q => by omega)
theorem by_at_in {f : Nat → Int32} {k : Nat} {i : Int32} (hk : k < 2 ^ 31) (h1 : ¬ i < 0) (h : ¬ nI k ≤ i) : by_at f k i = f i.toNatClampNeg := by
  rw [Int32.lt_iff_toInt_lt, Int32.toInt_zero] at h1
  rw [Int32.le_iff_toInt_le, nI_toInt hk] at h
  exact if_pos ⟨by omega, by omega⟩
theorem by_at_nI {f : Nat → Int32} {k j : Nat} (hk : k < 2 ^ 31) (h : j < k) : by_at f k (nI j) = f j := by
  rw [by_at_in hk (nI_pos (by omega)) (nI_ge h hk), nI_clamp (by omega)]
theorem by_at_off {f : Nat → Int32} {k j : Nat} (hj : j < 2 ^ 31) (h : k ≤ j) : by_at f k (nI j) = -1 := by_at_ge (by omega) (nI_le h hj)
theorem cc_By_length (l : Launch) (D : va_G) (z : Nat) (M : mw_M) (b r : Nat) (f : Nat → Int32) (k : Nat) (wb : M b = some (.inr (1, [.ref r, .int (nI k)]))) (wr : M r = some (.inl (D.1 100, 100, .inl f))) (hk0 : k ≤ 100) : mw_C l yy_By_length bb_By_length 1 (Option.some Jvm.ClassFile.FieldType.int) 0 0 0 0 D z M [.ref b] (fun v M' => v = some (.int (nI k)) ∧ M' = M) := by
  refine mw_of (by decide) (Nat.le_of_ble_eq_true rfl) ?_
  intro p e s m below meth c ls E hr hk hnm hM hl
  have hx := E.x
  have hb := E.b
  have E : mw_E p m c bb_By_length 1 s _ D z "IdentityIssuer$Bytes" := E
  have hl : lv_has ls 1 [(0, .ref b)] := hl
  have hS : va_S (mw_A z) s.heap s.heap [] := va_S.rf
  refine lv_aload_n hx hb dd_By_length_0 rfl (lv_at hl 0 rfl) ?_
  refine gf_By_15 E hM wb rfl dd_By_length_1 ?_
  refine mr_i E hr hk hM hS (by decide) (by decide) ?_ dd_By_length_4
  exact ⟨rfl, rfl⟩
theorem cc_By_at (l : Launch) (D : va_G) (z : Nat) (M : mw_M) (b r : Nat) (f : Nat → Int32) (k : Nat) (i : Int32) (wb : M b = some (.inr (1, [.ref r, .int (nI k)]))) (wr : M r = some (.inl (D.1 100, 100, .inl f))) (hk0 : k ≤ 100) : mw_C l yy_By_at bb_By_at 2 (Option.some Jvm.ClassFile.FieldType.int) 0 0 0 0 D z M [.ref b, .int (i)] (fun v M' => v = some (.int (by_at f k i)) ∧ M' = M) := by
  refine mw_of (by decide) (Nat.le_of_ble_eq_true rfl) ?_
  intro p e s m below meth c ls E hr hk hnm hM hl
  have hx := E.x
  have hb := E.b
  have E : mw_E p m c bb_By_at 2 s _ D z "IdentityIssuer$Bytes" := E
  have hl : lv_has ls 2 [(0, .ref b), (1, .int (i))] := hl
  have hS : va_S (mw_A z) s.heap s.heap [] := va_S.rf
  refine lv_iload_n hx hb dd_By_at_0 rfl (lv_at hl 1 rfl) ?_
  refine lv_if_lt (tgt := 21) hx hb dd_By_at_1 (by decide) (fun h1 => ?_) (fun h1 => ?_)
  ·
    refine lv_iconst (v := -1) hx hb dd_By_at_21 (by decide) ?_
    refine mr_i E hr hk hM hS (by decide) (by decide) ?_ dd_By_at_22
    exact ⟨by rw [by_at_neg h1], rfl⟩
  ·
    refine lv_iload_n hx hb dd_By_at_4 rfl (lv_at hl 1 rfl) ?_
    refine lv_aload_n hx hb dd_By_at_5 rfl (lv_at hl 0 rfl) ?_
    refine gf_By_15 E hM wb rfl dd_By_at_6 ?_
    refine lv_icmp_ge (tgt := 21) hx hb dd_By_at_9 (by decide) (fun h9 => ?_) (fun h9 => ?_)
    ·
      refine lv_iconst (v := -1) hx hb dd_By_at_21 (by decide) ?_
      refine mr_i E hr hk hM hS (by decide) (by decide) ?_ dd_By_at_22
      exact ⟨by rw [by_at_ge (by omega) h9], rfl⟩
    ·
      refine lv_aload_n hx hb dd_By_at_12 rfl (lv_at hl 0 rfl) ?_
      refine gf_By_9 E hM wb rfl dd_By_at_13 ?_
      refine lv_iload_n hx hb dd_By_at_16 rfl (lv_at hl 1 rfl) ?_
      refine mw_iald hx hb E.K hM 0 wr rfl (mi_in hk0 (by decide) h1 h9) dd_By_at_17 ?_
      refine lv_goto (tgt := 22) hx hb dd_By_at_18 (by decide) ?_
      refine mr_i E hr hk hM hS (by decide) (by decide) ?_ dd_By_at_22
      exact ⟨by rw [by_at_in (by omega) h1 h9], rfl⟩
theorem cc_By_clear (l : Launch) (D : va_G) (z : Nat) (M : mw_M) (b r : Nat) (f : Nat → Int32) (k : Nat) (wb : M b = some (.inr (1, [.ref r, .int (nI k)]))) (wr : M r = some (.inl (D.1 100, 100, .inl f))) (hk0 : k ≤ 100) : mw_C l yy_By_clear bb_By_clear 1 (Option.none : Option Jvm.ClassFile.FieldType) 0 0 0 0 D z M [.ref b] (fun v M' => v = none ∧ M' b = some (.inr (1, [.ref r, .int (nI 0)])) ∧ mw_fr (fun q => q = b) M M') := by
  refine mw_of (by decide) (Nat.le_of_ble_eq_true rfl) ?_
  intro p e s m below meth c ls E hr hk hnm hM hl
  have hx := E.x
  have hb := E.b
  have E : mw_E p m c bb_By_clear 1 s _ D z "IdentityIssuer$Bytes" := E
  have hl : lv_has ls 1 [(0, .ref b)] := hl
  have hS : va_S (mw_A z) s.heap s.heap [] := va_S.rf
  have hF : mw_fr (fun q => q = b) M M := mw_fr.rf
  refine lv_aload_n hx hb dd_By_clear_0 rfl (lv_at hl 0 rfl) ?_
  refine lv_iconst (v := nI 0) hx hb dd_By_clear_1 (by decide) ?_
  refine pf_By_15 E hM hS wb (Nat.le_of_ble_eq_true rfl) dd_By_clear_2 (fun H locs hM hS => ?_)
  have hM : mw_at D mg_cl z (va_up M b (some (.inr (1, [.ref r, .int (nI 0)])))) H := hM
  obtain ⟨M1, hM1⟩ : ∃ M9 : mw_M, M9 = va_up M b (some (.inr (1, [.ref r, .int (nI 0)]))) := ⟨_, rfl⟩
  rw [← hM1] at hM
  have wr := mw_uu hM1 wr (mw_ne wr wb (fun q => by cases q))
  have wb := mw_us hM1
  have hF := mw_fu hM1 hF (rfl)
  refine mr_v E hr hk hM hS (by decide) (by decide) ?_ dd_By_clear_5
  exact ⟨rfl, wb, hF⟩
theorem cc_By_append (l : Launch) (D : va_G) (z : Nat) (M : mw_M) (b r : Nat) (f : Nat → Int32) (k : Nat) (x : Int32) (wb : M b = some (.inr (1, [.ref r, .int (nI k)]))) (wr : M r = some (.inl (D.1 100, 100, .inl f))) (hk0 : k < 100) : mw_C l yy_By_append bb_By_append 2 (Option.none : Option Jvm.ClassFile.FieldType) 0 0 0 0 D z M [.ref b, .int (x)] (fun v M' => v = none ∧ M' b = some (.inr (1, [.ref r, .int (nI (k + 1))])) ∧ M' r = some (.inl (D.1 100, 100, .inl (upd f k x))) ∧ mw_fr (fun q => q = b ∨ q = r) M M') := by
  refine mw_of (by decide) (Nat.le_of_ble_eq_true rfl) ?_
  intro p e s m below meth c ls E hr hk hnm hM hl
  have hx := E.x
  have hb := E.b
  have E : mw_E p m c bb_By_append 2 s _ D z "IdentityIssuer$Bytes" := E
  have hl : lv_has ls 2 [(0, .ref b), (1, .int (x))] := hl
  have hS : va_S (mw_A z) s.heap s.heap [] := va_S.rf
  have hF : mw_fr (fun q => q = b ∨ q = r) M M := mw_fr.rf
  refine lv_aload_n hx hb dd_By_append_0 rfl (lv_at hl 0 rfl) ?_
  refine gf_By_15 E hM wb rfl dd_By_append_1 ?_
  refine lv_aload_n hx hb dd_By_append_4 rfl (lv_at hl 0 rfl) ?_
  refine gf_By_9 E hM wb rfl dd_By_append_5 ?_
  refine mw_alen (v := nI 100) hx hb E.K hM 0 wr rfl rfl dd_By_append_8 ?_
  refine lv_icmp_ge (tgt := 32) hx hb dd_By_append_9 (by decide) (fun h9 => ?_) (fun h9 => ?_)
  ·
    rw [nI_leI (by omega) (by omega)] at h9
    omega
  ·
    rw [nI_leI (by omega) (by omega)] at h9
    refine lv_aload_n hx hb dd_By_append_12 rfl (lv_at hl 0 rfl) ?_
    refine gf_By_9 E hM wb rfl dd_By_append_13 ?_
    refine lv_aload_n hx hb dd_By_append_16 rfl (lv_at hl 0 rfl) ?_
    refine gf_By_15 E hM wb rfl dd_By_append_17 ?_
    refine lv_iload_n hx hb dd_By_append_20 rfl (lv_at hl 1 rfl) ?_
    refine mw_iast hx hb E.K hM E.zz hS 0 wr rfl (vp_in_nI (by omega) (by omega)) dd_By_append_21 (fun H locs hM hS => ?_)
    rw [nI_clamp (by omega)] at hM
    have hM : mw_at D mg_cl z (va_up M r (some (.inl (D.1 100, 100, .inl (upd f k x))))) H := hM
    obtain ⟨M1, hM1⟩ : ∃ M9 : mw_M, M9 = va_up M r (some (.inl (D.1 100, 100, .inl (upd f k x)))) := ⟨_, rfl⟩
    rw [← hM1] at hM
    have wb := mw_uu hM1 wb (mw_ne wb wr (fun q => by cases q))
    have wr := mw_us hM1
    have hF := mw_fu hM1 hF (Or.inr rfl)
    refine lv_aload_n hx hb dd_By_append_22 rfl (lv_at hl 0 rfl) ?_
    refine lv_dup hx hb dd_By_append_23 rfl ?_
    refine gf_By_15 E hM wb rfl dd_By_append_24 ?_
    refine lv_iconst (v := nI 1) hx hb dd_By_append_27 (by decide) ?_
    refine lv_iadd hx hb dd_By_append_28 ?_
    refine mw_topi (y := nI (k + 1)) (nI_add _ _) ?_
    refine pf_By_15 E hM hS wb (Nat.le_of_ble_eq_true rfl) dd_By_append_29 (fun H locs hM hS => ?_)
    have hM : mw_at D mg_cl z (va_up M1 b (some (.inr (1, [.ref r, .int (nI (k + 1))])))) H := hM
    obtain ⟨M1, hM1⟩ : ∃ M9 : mw_M, M9 = va_up M1 b (some (.inr (1, [.ref r, .int (nI (k + 1))]))) := ⟨_, rfl⟩
    rw [← hM1] at hM
    have wr := mw_uu hM1 wr (mw_ne wr wb (fun q => by cases q))
    have wb := mw_us hM1
    have hF := mw_fu hM1 hF (Or.inl rfl)
    refine mr_v E hr hk hM hS (by decide) (by decide) ?_ dd_By_append_32
    exact ⟨rfl, wb, wr, hF⟩
theorem cc_By_replace (l : Launch) (D : va_G) (z : Nat) (M : mw_M) (b r : Nat) (f : Nat → Int32) (k : Nat) (j : Nat) (x : Int32) (wb : M b = some (.inr (1, [.ref r, .int (nI k)]))) (wr : M r = some (.inl (D.1 100, 100, .inl f))) (hk0 : k ≤ 100) (hj : j < k) : mw_C l yy_By_replace bb_By_replace 3 (Option.none : Option Jvm.ClassFile.FieldType) 0 0 0 0 D z M [.ref b, .int (nI j), .int (x)] (fun v M' => v = none ∧ M' r = some (.inl (D.1 100, 100, .inl (upd f j x))) ∧ mw_fr (fun q => q = r) M M') := by
  refine mw_of (by decide) (Nat.le_of_ble_eq_true rfl) ?_
  intro p e s m below meth c ls E hr hk hnm hM hl
  have hx := E.x
  have hb := E.b
  have E : mw_E p m c bb_By_replace 3 s _ D z "IdentityIssuer$Bytes" := E
  have hl : lv_has ls 3 [(0, .ref b), (1, .int (nI j)), (2, .int (x))] := hl
  have hS : va_S (mw_A z) s.heap s.heap [] := va_S.rf
  have hF : mw_fr (fun q => q = r) M M := mw_fr.rf
  refine lv_iload_n hx hb dd_By_replace_0 rfl (lv_at hl 1 rfl) ?_
  refine lv_if_lt (tgt := 19) hx hb dd_By_replace_1 (by decide) (fun h1 => ?_) (fun h1 => ?_)
  ·
    exact absurd h1 (nI_pos (by omega))
  ·
    refine lv_iload_n hx hb dd_By_replace_4 rfl (lv_at hl 1 rfl) ?_
    refine lv_aload_n hx hb dd_By_replace_5 rfl (lv_at hl 0 rfl) ?_
    refine gf_By_15 E hM wb rfl dd_By_replace_6 ?_
    refine lv_icmp_ge (tgt := 19) hx hb dd_By_replace_9 (by decide) (fun h9 => ?_) (fun h9 => ?_)
    ·
      rw [nI_leI (by omega) (by omega)] at h9
      omega
    ·
      rw [nI_leI (by omega) (by omega)] at h9
      refine lv_aload_n hx hb dd_By_replace_12 rfl (lv_at hl 0 rfl) ?_
      refine gf_By_9 E hM wb rfl dd_By_replace_13 ?_
      refine lv_iload_n hx hb dd_By_replace_16 rfl (lv_at hl 1 rfl) ?_
      refine lv_iload_n hx hb dd_By_replace_17 rfl (lv_at hl 2 rfl) ?_
      refine mw_iast hx hb E.K hM E.zz hS 0 wr rfl (vp_in_nI (by omega) (by omega)) dd_By_replace_18 (fun H locs hM hS => ?_)
      rw [nI_clamp (by omega)] at hM
      have hM : mw_at D mg_cl z (va_up M r (some (.inl (D.1 100, 100, .inl (upd f j x))))) H := hM
      obtain ⟨M1, hM1⟩ : ∃ M9 : mw_M, M9 = va_up M r (some (.inl (D.1 100, 100, .inl (upd f j x)))) := ⟨_, rfl⟩
      rw [← hM1] at hM
      have wb := mw_uu hM1 wb (mw_ne wb wr (fun q => by cases q))
      have wr := mw_us hM1
      have hF := mw_fu hM1 hF (rfl)
      refine mr_v E hr hk hM hS (by decide) (by decide) ?_ dd_By_replace_19
      exact ⟨rfl, wr, hF⟩
