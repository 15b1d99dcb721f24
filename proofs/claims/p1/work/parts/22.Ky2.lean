/-! the first good key -/
def ky_ff (kc lf : Nat) (g : Nat → Nat) (cl : Nat) : Nat → Nat → Nat
  | 0, i => i
  | d + 1, i => if ky_good kc lf g (nI i) cl = true then i else ky_ff kc lf g cl d (i + 1)
def ky_first (kc lf : Nat) (g : Nat → Nat) (cl : Nat) : Nat := ky_ff kc lf g cl (kc - (kc - 4)) (kc - 4)
theorem ky_ff_n {kc lf : Nat} {g : Nat → Nat} {cl d i : Nat} (h : ky_good kc lf g (nI i) cl = false) : ky_ff kc lf g cl (d + 1) i = ky_ff kc lf g cl d (i + 1) := by
  rw [ky_ff, if_neg (by rw [h]; decide)]
theorem ky_ff_y {kc lf : Nat} {g : Nat → Nat} {cl d i : Nat} (h : ky_good kc lf g (nI i) cl = true) : ky_ff kc lf g cl (d + 1) i = i := by
  rw [ky_ff, if_pos h]
theorem ky_ff_le (kc lf : Nat) (g : Nat → Nat) (cl : Nat) : ∀ d i, ky_ff kc lf g cl d i ≤ i + d
  | 0, i => Nat.le_refl _
  | d + 1, i => by
    unfold ky_ff
    split
    · omega
    · have := ky_ff_le kc lf g cl d (i + 1)
      omega
theorem ky_first_le (kc lf : Nat) (g : Nat → Nat) (cl : Nat) : ky_first kc lf g cl ≤ kc := by
  have := ky_ff_le kc lf g cl (kc - (kc - 4)) (kc - 4)
  unfold ky_first
  omega
theorem ky_max {kc : Nat} (h : kc < 2 ^ 20) : (if nI 0 < nI kc - nI 4 then nI kc - nI 4 else nI 0) = nI (kc - 4) := by
  by_cases h4 : 4 ≤ kc
  · rw [pk_sub h4]
    by_cases h5 : 0 < kc - 4
    · rw [if_pos (nI_lt h5 (by omega))]
    · rw [if_neg (nI_nlt (by omega) (by decide)), show kc - 4 = 0 by omega]
  · rw [if_neg, show kc - 4 = 0 by omega]
    rw [Int32.lt_iff_toInt_lt, pk_sub_toInt (by omega) (by decide), nI_toInt (by decide)]
    omega
theorem cc_Ky_firstGood (l : Launch) (D : va_G) (z : Nat) (M : mw_M) (b r lf kc : Nat) (ac pr : Int32) (f : Nat → Int32) (g : Nat → Nat) (cl : Nat) (wb : M b = some (.inr (8, [.int (nI lf), .ref r, .int (nI kc), .int ac, .int pr]))) (wr : M r = some (.inl (D.1 100, 4, .inl f))) (hg : ∀ j, j < 4 → f j = nI (g j) ∧ g j < 2 ^ 20) (hlf : lf < 2 ^ 20) (hkc : kc < 2 ^ 20) (hcl : cl < 2 ^ 20) : mw_C l yy_Ky_firstGood bb_Ky_firstGood 3 (Option.some Jvm.ClassFile.FieldType.int) 2 43 0 0 D z M [.ref b, .int (nI cl)] (fun v M' => v = some (.int (nI (ky_first kc lf g cl))) ∧ M' = M) := by
  refine mw_of (by decide) (Nat.le_of_ble_eq_true rfl) ?_
  intro p e s m below meth c ls E hr hk hnm hM hl
  have hx := E.x
  have hb := E.b
  have E : mw_E p m c bb_Ky_firstGood 3 s _ D z "IdentityIssuer$Keys" := E
  have hl : lv_has ls 3 [(0, .ref b), (1, .int (nI cl))] := hl
  have hS : va_S (mw_A z) s.heap s.heap [] := va_S.rf
  refine lv_iconst (v := nI 0) hx hb dd_Ky_firstGood_0 (by decide) ?_
  refine lv_aload_n hx hb dd_Ky_firstGood_1 rfl (lv_at hl 0 rfl) ?_
  refine gf_Ky_15 E hM wb rfl dd_Ky_firstGood_2 ?_
  refine lv_iconst (v := nI 4) hx hb dd_Ky_firstGood_5 (by decide) ?_
  refine lv_isub hx hb dd_Ky_firstGood_6 ?_
  refine va_mmax hx hb (E.ml.trans hl.1.symm) E.o (E.t _ tw_Ky_32) (E.t _ kv_Ma_max) (E.t _ tw_ini_Ma) (E.t _ ky_Ma_max.1) (Nat.le_of_ble_eq_true rfl) (Nat.le_of_ble_eq_true rfl) (by decide) (by decide) dd_Ky_firstGood_7 ?_
  refine mw_topi (y := nI (kc - 4)) (ky_max hkc) ?_
  refine lv_istore_n (lv' := [(2, .int (nI (kc - 4))), (0, .ref b), (1, .int (nI cl))]) hx hb dd_Ky_firstGood_10 rfl hl (by decide) rfl (fun ls hl => ?_)
  have loop11 : ∀ (d : Nat) (i : Nat) (H : Heap) (locs : List Loc) (ls : Array Slot), i + d = kc → ky_first kc lf g cl = ky_ff kc lf g cl d i → mw_at D mg_cl z M H → va_S (mw_A z) s.heap H locs → lv_has ls 3 [(2, .int (nI i)), (0, .ref b), (1, .int (nI cl))] → W p l e ({ frames := 2, cells := 0, slots := 0, locals := 43 } : Room) s m ([.ref b, .int (nI cl)] : List Value).toArray below meth c H locs (0) (0) (MQ below (mw_Q D z (fun v M' => v = some (.int (nI (ky_first kc lf g cl))) ∧ M' = M)) ([.ref b, .int (nI cl)] : List Value).toArray s 0 0 (mw_A z)) (F0 m 11 ls []) := by
    intro d
    induction d with
    | zero =>
      intro i H locs ls hi hv hM hS hl
      refine lv_iload_n hx hb dd_Ky_firstGood_11 rfl (lv_at hl 0 rfl) ?_
      refine lv_aload_n hx hb dd_Ky_firstGood_12 rfl (lv_at hl 1 rfl) ?_
      refine gf_Ky_15 E hM wb rfl dd_Ky_firstGood_13 ?_
      refine lv_icmp_ge (tgt := 36) hx hb dd_Ky_firstGood_16 (by decide) (fun h16 => ?_) (fun h16 => ?_)
      ·
        rw [nI_leI (by omega) (by omega)] at h16
        refine lv_aload_n hx hb dd_Ky_firstGood_36 rfl (lv_at hl 1 rfl) ?_
        refine gf_Ky_15 E hM wb rfl dd_Ky_firstGood_37 ?_
        refine mr_i E hr hk hM hS (by decide) (by decide) ?_ dd_Ky_firstGood_40
        exact ⟨by rw [hv, show kc = i by omega]; rfl, rfl⟩
      ·
        rw [nI_leI (by omega) (by omega)] at h16
        omega
    | succ d ih =>
      intro i H locs ls hi hv hM hS hl
      refine lv_iload_n hx hb dd_Ky_firstGood_11 rfl (lv_at hl 0 rfl) ?_
      refine lv_aload_n hx hb dd_Ky_firstGood_12 rfl (lv_at hl 1 rfl) ?_
      refine gf_Ky_15 E hM wb rfl dd_Ky_firstGood_13 ?_
      refine lv_icmp_ge (tgt := 36) hx hb dd_Ky_firstGood_16 (by decide) (fun h16 => ?_) (fun h16 => ?_)
      ·
        rw [nI_leI (by omega) (by omega)] at h16
        omega
      ·
        rw [nI_leI (by omega) (by omega)] at h16
        refine lv_aload_n hx hb dd_Ky_firstGood_19 rfl (lv_at hl 1 rfl) ?_
        refine lv_iload_n hx hb dd_Ky_firstGood_20 rfl (lv_at hl 0 rfl) ?_
        refine lv_iload_n hx hb dd_Ky_firstGood_21 rfl (lv_at hl 2 rfl) ?_
        refine mw_V (As := [.int (nI i), .int (nI cl)]) (rest := []) E (cc_Ky_isGood l D z M b r lf kc ac pr f g (nI i) cl wb wr hg hlf hkc (by omega)) ky_Ky_isGood kv_Ky_isGood tw_Ky_38 hM hS wb rfl rfl rfl hl.1 rfl (Nat.le_of_ble_eq_true rfl) dd_Ky_firstGood_22 (by decide) (by decide) (fun v M1 H locs hp hM hS => ?_)
        obtain ⟨rfl, hq⟩ := hp
        have hq := hq.symm
        subst hq
        refine W.eq (g2 := F0 m 25 ls [.int (zI (ky_good kc lf g (nI i) cl))]) rfl ?_
        refine lv_if_eq (tgt := 30) hx hb dd_Ky_firstGood_25 (by decide) (fun h25 => ?_) (fun h25 => ?_)
        ·
          have h25 := zI_0.mp h25
          refine lv_iinc (k := 0) (v := nI (i + 1)) (lv' := [(2, .int (nI (i + 1))), (0, .ref b), (1, .int (nI cl))]) hx hb dd_Ky_firstGood_30 hl rfl (nI_1 _) (by decide) rfl (fun ls hl => ?_)
          refine lv_goto (tgt := 11) hx hb dd_Ky_firstGood_33 (by decide) ?_
          exact ih (i + 1) H locs ls (by omega) (hv.trans (ky_ff_n h25)) hM hS hl
        ·
          have h25 : ky_good kc lf g (nI i) cl = true := Bool.of_not_eq_false (fun q => h25 (zI_0.mpr q))
          refine lv_iload_n hx hb dd_Ky_firstGood_28 rfl (lv_at hl 0 rfl) ?_
          refine mr_i E hr hk hM hS (by decide) (by decide) ?_ dd_Ky_firstGood_29
          exact ⟨by rw [hv, ky_ff_y h25], rfl⟩
  exact loop11 (kc - (kc - 4)) (kc - 4) s.heap [] ls (by omega) rfl hM hS hl
theorem cc_Ky_mayMake (l : Launch) (D : va_G) (z : Nat) (M : mw_M) (b r lf kc : Nat) (ac pr : Int32) (f : Nat → Int32) (g : Nat → Nat) (cl : Nat) (wb : M b = some (.inr (8, [.int (nI lf), .ref r, .int (nI kc), .int ac, .int pr]))) (wr : M r = some (.inl (D.1 100, 4, .inl f))) (hg : ∀ j, j < 4 → f j = nI (g j) ∧ g j < 2 ^ 20) (hlf : lf < 2 ^ 20) (hkc : kc < 2 ^ 20) (hcl : cl < 2 ^ 20) : mw_C l yy_Ky_mayMake bb_Ky_mayMake 2 (Option.some Jvm.ClassFile.FieldType.boolean) 3 65 0 0 D z M [.ref b, .int (nI cl)] (fun v M' => v = some (.int (zI (!ky_good kc lf g pr cl && decide (kc < ky_first kc lf g cl + 4)))) ∧ M' = M) := by
  refine mw_of (by decide) (Nat.le_of_ble_eq_true rfl) ?_
  intro p e s m below meth c ls E hr hk hnm hM hl
  have hx := E.x
  have hb := E.b
  have E : mw_E p m c bb_Ky_mayMake 2 s _ D z "IdentityIssuer$Keys" := E
  have hl : lv_has ls 2 [(0, .ref b), (1, .int (nI cl))] := hl
  have hS : va_S (mw_A z) s.heap s.heap [] := va_S.rf
  refine lv_aload_n hx hb dd_Ky_mayMake_0 rfl (lv_at hl 0 rfl) ?_
  refine lv_aload_n hx hb dd_Ky_mayMake_1 rfl (lv_at hl 0 rfl) ?_
  refine gf_Ky_19 E hM wb rfl dd_Ky_mayMake_2 ?_
  refine lv_iload_n hx hb dd_Ky_mayMake_5 rfl (lv_at hl 1 rfl) ?_
  refine mw_V (As := [.int (pr), .int (nI cl)]) (rest := []) E (cc_Ky_isGood l D z M b r lf kc ac pr f g pr cl wb wr hg hlf hkc (by omega)) ky_Ky_isGood kv_Ky_isGood tw_Ky_38 hM hS wb rfl rfl rfl hl.1 rfl (Nat.le_of_ble_eq_true rfl) dd_Ky_mayMake_6 (by decide) (by decide) (fun v M1 H locs hp hM hS => ?_)
  obtain ⟨rfl, hq⟩ := hp
  have hq := hq.symm
  subst hq
  refine W.eq (g2 := F0 m 9 ls [.int (zI (ky_good kc lf g pr cl))]) rfl ?_
  refine lv_if_ne (tgt := 30) hx hb dd_Ky_mayMake_9 (by decide) (fun h9 => ?_) (fun h9 => ?_)
  ·
    have h9 : ky_good kc lf g pr cl = true := Bool.of_not_eq_false (fun q => h9 (zI_0.mpr q))
    refine lv_iconst (v := nI 0) hx hb dd_Ky_mayMake_30 (by decide) ?_
    refine mr_z E hr hk hM hS (by decide) (by decide) (rfl) ?_ dd_Ky_mayMake_31
    exact ⟨by rw [zI_f (by rw [h9]; rfl)]; rfl, rfl⟩
  ·
    have h9 := zI_0.mp h9
    refine lv_aload_n hx hb dd_Ky_mayMake_12 rfl (lv_at hl 0 rfl) ?_
    refine gf_Ky_15 E hM wb rfl dd_Ky_mayMake_13 ?_
    refine lv_aload_n hx hb dd_Ky_mayMake_16 rfl (lv_at hl 0 rfl) ?_
    refine lv_iload_n hx hb dd_Ky_mayMake_17 rfl (lv_at hl 1 rfl) ?_
    refine mw_V (As := [.int (nI cl)]) (rest := [.int (nI kc)]) E (cc_Ky_firstGood l D z M b r lf kc ac pr f g cl wb wr hg hlf hkc hcl) ky_Ky_firstGood kv_Ky_firstGood tw_Ky_42 hM hS wb rfl rfl rfl hl.1 rfl (Nat.le_of_ble_eq_true rfl) dd_Ky_mayMake_18 (by decide) (by decide) (fun v M1 H locs hp hM hS => ?_)
    obtain ⟨rfl, hq⟩ := hp
    have hq := hq.symm
    subst hq
    have hfl := ky_first_le kc lf g cl
    refine W.eq (g2 := F0 m 21 ls [.int (nI (ky_first kc lf g cl)), .int (nI kc)]) rfl ?_
    refine lv_isub hx hb dd_Ky_mayMake_21 ?_
    refine mw_topi (y := nI (kc - (ky_first kc lf g cl))) (pk_sub (hfl)) ?_
    refine lv_iconst (v := nI 4) hx hb dd_Ky_mayMake_22 (by decide) ?_
    refine lv_icmp_ge (tgt := 30) hx hb dd_Ky_mayMake_23 (by decide) (fun h23 => ?_) (fun h23 => ?_)
    ·
      rw [nI_leI (by omega) (by omega)] at h23
      refine lv_iconst (v := nI 0) hx hb dd_Ky_mayMake_30 (by decide) ?_
      refine mr_z E hr hk hM hS (by decide) (by decide) (rfl) ?_ dd_Ky_mayMake_31
      exact ⟨by rw [zI_f (by rw [decide_eq_false (by omega), Bool.and_false])]; rfl, rfl⟩
    ·
      rw [nI_leI (by omega) (by omega)] at h23
      refine lv_iconst (v := nI 1) hx hb dd_Ky_mayMake_26 (by decide) ?_
      refine lv_goto (tgt := 31) hx hb dd_Ky_mayMake_27 (by decide) ?_
      refine mr_z E hr hk hM hS (by decide) (by decide) (rfl) ?_ dd_Ky_mayMake_31
      exact ⟨by rw [zI_t (by rw [h9, decide_eq_true (by omega)]; rfl)]; rfl, rfl⟩
