/-! Keys: four places, used in turn -/
def zI (b : Bool) : Int32 := if b = true then 1 else 0
theorem zI_t {b : Bool} (h : b = true) : zI b = 1 := if_pos h
theorem zI_f {b : Bool} (h : b = false) : zI b = 0 := if_neg (by rw [h]; decide)
theorem zI_0 {b : Bool} : zI b = 0 ↔ b = false := by cases b <;> decide
theorem zI_z (b : Bool) : narrow .boolean (.int (zI b)) = .int (zI b) := by cases b <;> rfl
/-- is the key one of the last four, and not over -/
def ky_good (kc lf : Nat) (g : Nat → Nat) (key : Int32) (cl : Nat) : Bool := decide (0 ≤ key.toInt) && decide (key.toInt < (kc : Int)) && decide ((kc : Int) - 4 ≤ key.toInt) && decide (cl < g (key.toInt.toNat % 4) + lf)
theorem ky_goodN {kc lf : Nat} {g : Nat → Nat} {j cl : Nat} (hj : j < 2 ^ 31) : ky_good kc lf g (nI j) cl = (decide (j < kc) && decide (kc ≤ j + 4) && decide (cl < g (j % 4) + lf)) := by
  unfold ky_good
  rw [nI_toInt hj, Int.toNat_natCast]
  congr 1
  congr 1
  · rw [decide_eq_true (by omega : (0 : Int) ≤ (j : Int)), Bool.true_and]
    exact decide_eq_decide.mpr (by omega)
  · exact decide_eq_decide.mpr (by omega)
theorem ky_and3 {j : Nat} (h : j < 2 ^ 31) : nI j &&& nI 3 = nI (j % 4) := pk_andN (by omega) 2 (by decide)
theorem cc_Ky_active (l : Launch) (D : va_G) (z : Nat) (M : mw_M) (b r lf kc : Nat) (ac pr : Int32) (f : Nat → Int32) (g : Nat → Nat) (wb : M b = some (.inr (8, [.int (nI lf), .ref r, .int (nI kc), .int ac, .int pr]))) (wr : M r = some (.inl (D.1 100, 4, .inl f))) (hg : ∀ j, j < 4 → f j = nI (g j) ∧ g j < 2 ^ 20) (hlf : lf < 2 ^ 20) (hkc : kc < 2 ^ 20) : mw_C l yy_Ky_active bb_Ky_active 1 (Option.some Jvm.ClassFile.FieldType.int) 0 0 0 0 D z M [.ref b] (fun v M' => v = some (.int (ac)) ∧ M' = M) := by
  refine mw_of (by decide) (Nat.le_of_ble_eq_true rfl) ?_
  intro p e s m below meth c ls E hr hk hnm hM hl
  have hx := E.x
  have hb := E.b
  have E : mw_E p m c bb_Ky_active 1 s _ D z "IdentityIssuer$Keys" := E
  have hl : lv_has ls 1 [(0, .ref b)] := hl
  have hS : va_S (mw_A z) s.heap s.heap [] := va_S.rf
  refine lv_aload_n hx hb dd_Ky_active_0 rfl (lv_at hl 0 rfl) ?_
  refine gf_Ky_25 E hM wb rfl dd_Ky_active_1 ?_
  refine mr_i E hr hk hM hS (by decide) (by decide) ?_ dd_Ky_active_4
  exact ⟨rfl, rfl⟩
theorem cc_Ky_count (l : Launch) (D : va_G) (z : Nat) (M : mw_M) (b r lf kc : Nat) (ac pr : Int32) (f : Nat → Int32) (g : Nat → Nat) (wb : M b = some (.inr (8, [.int (nI lf), .ref r, .int (nI kc), .int ac, .int pr]))) (wr : M r = some (.inl (D.1 100, 4, .inl f))) (hg : ∀ j, j < 4 → f j = nI (g j) ∧ g j < 2 ^ 20) (hlf : lf < 2 ^ 20) (hkc : kc < 2 ^ 20) : mw_C l yy_Ky_count bb_Ky_count 1 (Option.some Jvm.ClassFile.FieldType.int) 0 0 0 0 D z M [.ref b] (fun v M' => v = some (.int (nI kc)) ∧ M' = M) := by
  refine mw_of (by decide) (Nat.le_of_ble_eq_true rfl) ?_
  intro p e s m below meth c ls E hr hk hnm hM hl
  have hx := E.x
  have hb := E.b
  have E : mw_E p m c bb_Ky_count 1 s _ D z "IdentityIssuer$Keys" := E
  have hl : lv_has ls 1 [(0, .ref b)] := hl
  have hS : va_S (mw_A z) s.heap s.heap [] := va_S.rf
  refine lv_aload_n hx hb dd_Ky_count_0 rfl (lv_at hl 0 rfl) ?_
  refine gf_Ky_15 E hM wb rfl dd_Ky_count_1 ?_
  refine mr_i E hr hk hM hS (by decide) (by decide) ?_ dd_Ky_count_4
  exact ⟨rfl, rfl⟩
theorem cc_Ky_endOf (l : Launch) (D : va_G) (z : Nat) (M : mw_M) (b r lf kc : Nat) (ac pr : Int32) (f : Nat → Int32) (g : Nat → Nat) (j : Nat) (wb : M b = some (.inr (8, [.int (nI lf), .ref r, .int (nI kc), .int ac, .int pr]))) (wr : M r = some (.inl (D.1 100, 4, .inl f))) (hg : ∀ j, j < 4 → f j = nI (g j) ∧ g j < 2 ^ 20) (hlf : lf < 2 ^ 20) (hkc : kc < 2 ^ 20) (hj : j < 2 ^ 31) : mw_C l yy_Ky_endOf bb_Ky_endOf 2 (Option.some Jvm.ClassFile.FieldType.int) 0 0 0 0 D z M [.ref b, .int (nI j)] (fun v M' => v = some (.int (nI (g (j % 4) + lf))) ∧ M' = M) := by
  refine mw_of (by decide) (Nat.le_of_ble_eq_true rfl) ?_
  intro p e s m below meth c ls E hr hk hnm hM hl
  have hx := E.x
  have hb := E.b
  have E : mw_E p m c bb_Ky_endOf 2 s _ D z "IdentityIssuer$Keys" := E
  have hl : lv_has ls 2 [(0, .ref b), (1, .int (nI j))] := hl
  have hS : va_S (mw_A z) s.heap s.heap [] := va_S.rf
  refine lv_aload_n hx hb dd_Ky_endOf_0 rfl (lv_at hl 0 rfl) ?_
  refine gf_Ky_11 E hM wb rfl dd_Ky_endOf_1 ?_
  refine lv_iload_n hx hb dd_Ky_endOf_4 rfl (lv_at hl 1 rfl) ?_
  refine lv_iconst (v := nI 3) hx hb dd_Ky_endOf_5 (by decide) ?_
  refine lv_iand hx hb dd_Ky_endOf_6 ?_
  refine mw_topi (y := nI (j % 4)) (ky_and3 hj) ?_
  refine mw_iald hx hb E.K hM 0 wr rfl (vp_in_nI (by omega) (by omega)) dd_Ky_endOf_7 ?_
  refine mw_topi (y := f (j % 4)) (by rw [nI_clamp (by omega)]) ?_
  refine mw_topi (y := nI (g (j % 4))) ((hg (j % 4) (by omega)).1) ?_
  refine lv_aload_n hx hb dd_Ky_endOf_8 rfl (lv_at hl 0 rfl) ?_
  refine gf_Ky_22 E hM wb rfl dd_Ky_endOf_9 ?_
  refine lv_iadd hx hb dd_Ky_endOf_12 ?_
  refine mw_topi (y := nI ((g (j % 4)) + lf)) (nI_add _ _) ?_
  refine mr_i E hr hk hM hS (by decide) (by decide) ?_ dd_Ky_endOf_13
  exact ⟨rfl, rfl⟩
theorem cc_Ky_isGood (l : Launch) (D : va_G) (z : Nat) (M : mw_M) (b r lf kc : Nat) (ac pr : Int32) (f : Nat → Int32) (g : Nat → Nat) (key : Int32) (cl : Nat) (wb : M b = some (.inr (8, [.int (nI lf), .ref r, .int (nI kc), .int ac, .int pr]))) (wr : M r = some (.inl (D.1 100, 4, .inl f))) (hg : ∀ j, j < 4 → f j = nI (g j) ∧ g j < 2 ^ 20) (hlf : lf < 2 ^ 20) (hkc : kc < 2 ^ 20) (hcl : cl < 2 ^ 20) : mw_C l yy_Ky_isGood bb_Ky_isGood 3 (Option.some Jvm.ClassFile.FieldType.boolean) 1 21 0 0 D z M [.ref b, .int (key), .int (nI cl)] (fun v M' => v = some (.int (zI (ky_good kc lf g key cl))) ∧ M' = M) := by
  refine mw_of (by decide) (Nat.le_of_ble_eq_true rfl) ?_
  intro p e s m below meth c ls E hr hk hnm hM hl
  have hx := E.x
  have hb := E.b
  have E : mw_E p m c bb_Ky_isGood 3 s _ D z "IdentityIssuer$Keys" := E
  have hl : lv_has ls 3 [(0, .ref b), (1, .int (key)), (2, .int (nI cl))] := hl
  have hS : va_S (mw_A z) s.heap s.heap [] := va_S.rf
  refine lv_iload_n hx hb dd_Ky_isGood_0 rfl (lv_at hl 1 rfl) ?_
  refine lv_if_lt (tgt := 35) hx hb dd_Ky_isGood_1 (by decide) (fun h1 => ?_) (fun h1 => ?_)
  ·
    refine lv_iconst (v := nI 0) hx hb dd_Ky_isGood_35 (by decide) ?_
    refine mr_z E hr hk hM hS (by decide) (by decide) (rfl) ?_ dd_Ky_isGood_36
    rw [Int32.lt_iff_toInt_lt, Int32.toInt_zero] at h1
    exact ⟨by rw [zI_f (by simp only [ky_good, Bool.and_eq_false_iff, decide_eq_false_iff_not]; omega)]; rfl, rfl⟩
  ·
    refine lv_iload_n hx hb dd_Ky_isGood_4 rfl (lv_at hl 1 rfl) ?_
    refine lv_aload_n hx hb dd_Ky_isGood_5 rfl (lv_at hl 0 rfl) ?_
    refine gf_Ky_15 E hM wb rfl dd_Ky_isGood_6 ?_
    refine lv_icmp_ge (tgt := 35) hx hb dd_Ky_isGood_9 (by decide) (fun h9 => ?_) (fun h9 => ?_)
    ·
      refine lv_iconst (v := nI 0) hx hb dd_Ky_isGood_35 (by decide) ?_
      refine mr_z E hr hk hM hS (by decide) (by decide) (rfl) ?_ dd_Ky_isGood_36
      rw [Int32.le_iff_toInt_le, nI_toInt (by omega)] at h9
      exact ⟨by rw [zI_f (by simp only [ky_good, Bool.and_eq_false_iff, decide_eq_false_iff_not]; omega)]; rfl, rfl⟩
    ·
      obtain ⟨j, hj, rfl⟩ := mi_nat (by omega) h1 h9
      have hgj := (hg (j % 4) (by omega)).2
      refine lv_iload_n hx hb dd_Ky_isGood_12 rfl (lv_at hl 1 rfl) ?_
      refine lv_aload_n hx hb dd_Ky_isGood_13 rfl (lv_at hl 0 rfl) ?_
      refine gf_Ky_15 E hM wb rfl dd_Ky_isGood_14 ?_
      refine lv_iconst (v := nI 4) hx hb dd_Ky_isGood_17 (by decide) ?_
      refine lv_isub hx hb dd_Ky_isGood_18 ?_
      refine lv_icmp_lt (tgt := 35) hx hb dd_Ky_isGood_19 (by decide) (fun h19 => ?_) (fun h19 => ?_)
      ·
        refine lv_iconst (v := nI 0) hx hb dd_Ky_isGood_35 (by decide) ?_
        refine mr_z E hr hk hM hS (by decide) (by decide) (rfl) ?_ dd_Ky_isGood_36
        rw [Int32.lt_iff_toInt_lt, pk_sub_toInt (by omega) (by decide), nI_toInt (by omega)] at h19
        exact ⟨by rw [ky_goodN (by omega), zI_f (by simp only [Bool.and_eq_false_iff, decide_eq_false_iff_not]; omega)]; rfl, rfl⟩
      ·
        refine lv_iload_n hx hb dd_Ky_isGood_22 rfl (lv_at hl 2 rfl) ?_
        refine lv_aload_n hx hb dd_Ky_isGood_23 rfl (lv_at hl 0 rfl) ?_
        refine lv_iload_n hx hb dd_Ky_isGood_24 rfl (lv_at hl 1 rfl) ?_
        refine mw_V (As := [.int (nI j)]) (rest := [.int (nI cl)]) E (cc_Ky_endOf l D z M b r lf kc ac pr f g j wb wr hg hlf hkc (by omega)) ky_Ky_endOf kv_Ky_endOf tw_Ky_28 hM hS wb rfl rfl rfl hl.1 rfl (Nat.le_of_ble_eq_true rfl) dd_Ky_isGood_25 (by decide) (by decide) (fun v M1 H locs hp hM hS => ?_)
        obtain ⟨rfl, hq⟩ := hp
        have hq := hq.symm
        subst hq
        refine W.eq (g2 := F0 m 28 ls [.int (nI (g (j % 4) + lf)), .int (nI cl)]) rfl ?_
        refine lv_icmp_ge (tgt := 35) hx hb dd_Ky_isGood_28 (by decide) (fun h28 => ?_) (fun h28 => ?_)
        ·
          rw [nI_leI (by omega) (by omega)] at h28
          refine lv_iconst (v := nI 0) hx hb dd_Ky_isGood_35 (by decide) ?_
          refine mr_z E hr hk hM hS (by decide) (by decide) (rfl) ?_ dd_Ky_isGood_36
          exact ⟨by rw [ky_goodN (by omega), zI_f (by simp only [Bool.and_eq_false_iff, decide_eq_false_iff_not]; omega)]; rfl, rfl⟩
        ·
          rw [nI_leI (by omega) (by omega)] at h28
          refine lv_iconst (v := nI 1) hx hb dd_Ky_isGood_31 (by decide) ?_
          refine lv_goto (tgt := 36) hx hb dd_Ky_isGood_32 (by decide) ?_
          refine mr_z E hr hk hM hS (by decide) (by decide) (rfl) ?_ dd_Ky_isGood_36
          rw [Int32.lt_iff_toInt_lt, pk_sub_toInt (by omega) (by decide), nI_toInt (by omega)] at h19
          exact ⟨by rw [ky_goodN (by omega), zI_t (by simp only [Bool.and_eq_true, decide_eq_true_eq]; omega)]; rfl, rfl⟩
theorem cc_Ky_useNext (l : Launch) (D : va_G) (z : Nat) (M : mw_M) (b r lf kc : Nat) (ac pr : Int32) (f : Nat → Int32) (g : Nat → Nat) (cl : Nat) (wb : M b = some (.inr (8, [.int (nI lf), .ref r, .int (nI kc), .int ac, .int pr]))) (wr : M r = some (.inl (D.1 100, 4, .inl f))) (hg : ∀ j, j < 4 → f j = nI (g j) ∧ g j < 2 ^ 20) (hlf : lf < 2 ^ 20) (hkc : kc < 2 ^ 20) (hcl : cl < 2 ^ 20) : mw_C l yy_Ky_useNext bb_Ky_useNext 2 (Option.some Jvm.ClassFile.FieldType.boolean) 2 43 0 0 D z M [.ref b, .int (nI cl)] (fun v M' => v = some (.int (zI (ky_good kc lf g pr cl))) ∧ M' b = some (.inr (8, if ky_good kc lf g pr cl = true then [.int (nI lf), .ref r, .int (nI kc), .int pr, .int (-1)] else [.int (nI lf), .ref r, .int (nI kc), .int ac, .int pr])) ∧ mw_fr (fun q => q = b) M M') := by
  refine mw_of (by decide) (Nat.le_of_ble_eq_true rfl) ?_
  intro p e s m below meth c ls E hr hk hnm hM hl
  have hx := E.x
  have hb := E.b
  have E : mw_E p m c bb_Ky_useNext 2 s _ D z "IdentityIssuer$Keys" := E
  have hl : lv_has ls 2 [(0, .ref b), (1, .int (nI cl))] := hl
  have hS : va_S (mw_A z) s.heap s.heap [] := va_S.rf
  have hF : mw_fr (fun q => q = b) M M := mw_fr.rf
  refine lv_aload_n hx hb dd_Ky_useNext_0 rfl (lv_at hl 0 rfl) ?_
  refine lv_aload_n hx hb dd_Ky_useNext_1 rfl (lv_at hl 0 rfl) ?_
  refine gf_Ky_19 E hM wb rfl dd_Ky_useNext_2 ?_
  refine lv_iload_n hx hb dd_Ky_useNext_5 rfl (lv_at hl 1 rfl) ?_
  refine mw_V (As := [.int (pr), .int (nI cl)]) (rest := []) E (cc_Ky_isGood l D z M b r lf kc ac pr f g pr cl wb wr hg hlf hkc (by omega)) ky_Ky_isGood kv_Ky_isGood tw_Ky_38 hM hS wb rfl rfl rfl hl.1 rfl (Nat.le_of_ble_eq_true rfl) dd_Ky_useNext_6 (by decide) (by decide) (fun v M1 H locs hp hM hS => ?_)
  obtain ⟨rfl, hq⟩ := hp
  have hq := hq.symm
  subst hq
  refine W.eq (g2 := F0 m 9 ls [.int (zI (ky_good kc lf g pr cl))]) rfl ?_
  refine lv_if_ne (tgt := 14) hx hb dd_Ky_useNext_9 (by decide) (fun h9 => ?_) (fun h9 => ?_)
  ·
    have h9 : ky_good kc lf g pr cl = true := Bool.of_not_eq_false (fun q => h9 (zI_0.mpr q))
    refine lv_aload_n hx hb dd_Ky_useNext_14 rfl (lv_at hl 0 rfl) ?_
    refine lv_aload_n hx hb dd_Ky_useNext_15 rfl (lv_at hl 0 rfl) ?_
    refine gf_Ky_19 E hM wb rfl dd_Ky_useNext_16 ?_
    refine pf_Ky_25 E hM hS wb (Nat.le_of_ble_eq_true rfl) dd_Ky_useNext_19 (fun H locs hM hS => ?_)
    have hM : mw_at D mg_cl z (va_up M b (some (.inr (8, [.int (nI lf), .ref r, .int (nI kc), .int (pr), .int (pr)])))) H := hM
    obtain ⟨M1, hM1⟩ : ∃ M9 : mw_M, M9 = va_up M b (some (.inr (8, [.int (nI lf), .ref r, .int (nI kc), .int (pr), .int (pr)]))) := ⟨_, rfl⟩
    rw [← hM1] at hM
    have wr := mw_uu hM1 wr (mw_ne wr wb (fun q => by cases q))
    have wb := mw_us hM1
    have hF := mw_fu hM1 hF (rfl)
    refine lv_aload_n hx hb dd_Ky_useNext_22 rfl (lv_at hl 0 rfl) ?_
    refine lv_iconst (v := -1) hx hb dd_Ky_useNext_23 (by decide) ?_
    refine pf_Ky_19 E hM hS wb (Nat.le_of_ble_eq_true rfl) dd_Ky_useNext_24 (fun H locs hM hS => ?_)
    have hM : mw_at D mg_cl z (va_up M1 b (some (.inr (8, [.int (nI lf), .ref r, .int (nI kc), .int (pr), .int (-1)])))) H := hM
    obtain ⟨M1, hM1⟩ : ∃ M9 : mw_M, M9 = va_up M1 b (some (.inr (8, [.int (nI lf), .ref r, .int (nI kc), .int (pr), .int (-1)]))) := ⟨_, rfl⟩
    rw [← hM1] at hM
    have wr := mw_uu hM1 wr (mw_ne wr wb (fun q => by cases q))
    have wb := mw_us hM1
    have hF := mw_fu hM1 hF (rfl)
    refine lv_iconst (v := nI 1) hx hb dd_Ky_useNext_27 (by decide) ?_
    refine mr_z E hr hk hM hS (by decide) (by decide) (rfl) ?_ dd_Ky_useNext_28
    exact ⟨by rw [zI_t h9]; rfl, by rw [if_pos h9]; exact wb, hF⟩
  ·
    have h9 : ky_good kc lf g pr cl = false := zI_0.mp h9
    refine lv_iconst (v := nI 0) hx hb dd_Ky_useNext_12 (by decide) ?_
    refine mr_z E hr hk hM hS (by decide) (by decide) (rfl) ?_ dd_Ky_useNext_13
    exact ⟨by rw [zI_f h9]; rfl, by rw [if_neg (by rw [h9]; decide)]; exact wb, hF⟩
theorem cc_Ky_make (l : Launch) (D : va_G) (z : Nat) (M : mw_M) (b r lf kc : Nat) (ac pr : Int32) (f : Nat → Int32) (g : Nat → Nat) (cl : Nat) (wb : M b = some (.inr (8, [.int (nI lf), .ref r, .int (nI kc), .int ac, .int pr]))) (wr : M r = some (.inl (D.1 100, 4, .inl f))) (hg : ∀ j, j < 4 → f j = nI (g j) ∧ g j < 2 ^ 20) (hlf : lf < 2 ^ 20) (hkc : kc < 2 ^ 20) (hcl : cl < 2 ^ 20) : mw_C l yy_Ky_make bb_Ky_make 2 (Option.some Jvm.ClassFile.FieldType.int) 0 0 0 0 D z M [.ref b, .int (nI cl)] (fun v M' => v = some (.int (nI kc)) ∧ M' b = some (.inr (8, [.int (nI lf), .ref r, .int (nI (kc + 1)), .int ac, .int (nI kc)])) ∧ M' r = some (.inl (D.1 100, 4, .inl (upd f (kc % 4) (nI cl)))) ∧ mw_fr (fun q => q = b ∨ q = r) M M') := by
  refine mw_of (by decide) (Nat.le_of_ble_eq_true rfl) ?_
  intro p e s m below meth c ls E hr hk hnm hM hl
  have hx := E.x
  have hb := E.b
  have E : mw_E p m c bb_Ky_make 2 s _ D z "IdentityIssuer$Keys" := E
  have hl : lv_has ls 2 [(0, .ref b), (1, .int (nI cl))] := hl
  have hS : va_S (mw_A z) s.heap s.heap [] := va_S.rf
  have hF : mw_fr (fun q => q = b ∨ q = r) M M := mw_fr.rf
  refine lv_aload_n hx hb dd_Ky_make_0 rfl (lv_at hl 0 rfl) ?_
  refine lv_aload_n hx hb dd_Ky_make_1 rfl (lv_at hl 0 rfl) ?_
  refine gf_Ky_15 E hM wb rfl dd_Ky_make_2 ?_
  refine pf_Ky_19 E hM hS wb (Nat.le_of_ble_eq_true rfl) dd_Ky_make_5 (fun H locs hM hS => ?_)
  have hM : mw_at D mg_cl z (va_up M b (some (.inr (8, [.int (nI lf), .ref r, .int (nI kc), .int (ac), .int (nI kc)])))) H := hM
  obtain ⟨M1, hM1⟩ : ∃ M9 : mw_M, M9 = va_up M b (some (.inr (8, [.int (nI lf), .ref r, .int (nI kc), .int (ac), .int (nI kc)]))) := ⟨_, rfl⟩
  rw [← hM1] at hM
  have wr := mw_uu hM1 wr (mw_ne wr wb (fun q => by cases q))
  have wb := mw_us hM1
  have hF := mw_fu hM1 hF (Or.inl rfl)
  refine lv_aload_n hx hb dd_Ky_make_8 rfl (lv_at hl 0 rfl) ?_
  refine gf_Ky_11 E hM wb rfl dd_Ky_make_9 ?_
  refine lv_aload_n hx hb dd_Ky_make_12 rfl (lv_at hl 0 rfl) ?_
  refine gf_Ky_19 E hM wb rfl dd_Ky_make_13 ?_
  refine lv_iconst (v := nI 3) hx hb dd_Ky_make_16 (by decide) ?_
  refine lv_iand hx hb dd_Ky_make_17 ?_
  refine mw_topi (y := nI (kc % 4)) (ky_and3 (by omega)) ?_
  refine lv_iload_n hx hb dd_Ky_make_18 rfl (lv_at hl 1 rfl) ?_
  refine mw_iast hx hb E.K hM E.zz hS 0 wr rfl (vp_in_nI (by omega) (by omega)) dd_Ky_make_19 (fun H locs hM hS => ?_)
  rw [nI_clamp (by omega)] at hM
  have hM : mw_at D mg_cl z (va_up M1 r (some (.inl (D.1 100, 4, .inl (upd f (kc % 4) (nI cl)))))) H := hM
  obtain ⟨M1, hM1⟩ : ∃ M9 : mw_M, M9 = va_up M1 r (some (.inl (D.1 100, 4, .inl (upd f (kc % 4) (nI cl))))) := ⟨_, rfl⟩
  rw [← hM1] at hM
  have wb := mw_uu hM1 wb (mw_ne wb wr (fun q => by cases q))
  have wr := mw_us hM1
  have hF := mw_fu hM1 hF (Or.inr rfl)
  refine lv_aload_n hx hb dd_Ky_make_20 rfl (lv_at hl 0 rfl) ?_
  refine lv_dup hx hb dd_Ky_make_21 rfl ?_
  refine gf_Ky_15 E hM wb rfl dd_Ky_make_22 ?_
  refine lv_iconst (v := nI 1) hx hb dd_Ky_make_25 (by decide) ?_
  refine lv_iadd hx hb dd_Ky_make_26 ?_
  refine mw_topi (y := nI (kc + 1)) (nI_add _ _) ?_
  refine pf_Ky_15 E hM hS wb (Nat.le_of_ble_eq_true rfl) dd_Ky_make_27 (fun H locs hM hS => ?_)
  have hM : mw_at D mg_cl z (va_up M1 b (some (.inr (8, [.int (nI lf), .ref r, .int (nI (kc + 1)), .int (ac), .int (nI kc)])))) H := hM
  obtain ⟨M1, hM1⟩ : ∃ M9 : mw_M, M9 = va_up M1 b (some (.inr (8, [.int (nI lf), .ref r, .int (nI (kc + 1)), .int (ac), .int (nI kc)]))) := ⟨_, rfl⟩
  rw [← hM1] at hM
  have wr := mw_uu hM1 wr (mw_ne wr wb (fun q => by cases q))
  have wb := mw_us hM1
  have hF := mw_fu hM1 hF (Or.inl rfl)
  refine lv_aload_n hx hb dd_Ky_make_30 rfl (lv_at hl 0 rfl) ?_
  refine gf_Ky_19 E hM wb rfl dd_Ky_make_31 ?_
  refine mr_i E hr hk hM hS (by decide) (by decide) ?_ dd_Ky_make_34
  exact ⟨rfl, wb, wr, hF⟩
