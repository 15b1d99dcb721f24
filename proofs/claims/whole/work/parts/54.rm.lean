/-! ArrayList: taking one out -/
theorem el_uu {M M1 : mw_M} {a : Nat} {x : va_E} {f : Nat → Option Nat} {k : Nat} (h : M1 = va_up M a (some x)) (hel : el_ok M f k) (hna : ∀ j : Nat, f j ≠ some a) : el_ok M1 f k := fun i hi y hy => by
  obtain ⟨ci, vs, rr, w, h1, h2⟩ := hel i hi y hy
  exact ⟨ci, vs, rr, mw_uu h w (fun q => hna i (hy.trans (congrArg some q))), h1, h2⟩
def al_rm (g : Nat → Option Nat) (i k : Nat) : Nat → Option Nat := fun j => if j + 1 < k then (if j < i then g j else g (j + 1)) else if j + 1 = k then none else g j
theorem al_rmA {g : Nat → Option Nat} {i k : Nat} (hi : i < k) (h : k - 1 ≤ i) : va_up g (k - 1) none = al_rm g i k := by
  funext j
  unfold va_up al_rm
  by_cases h1 : j = k - 1
  · rw [if_pos h1, if_neg (by omega), if_pos (by omega)]
  · rw [if_neg h1]
    by_cases h2 : j + 1 < k
    · rw [if_pos h2, if_pos (by omega)]
    · rw [if_neg h2, if_neg (by omega)]
theorem al_rmB {g : Nat → Option Nat} {i k : Nat} (hi : i < k) : va_up (va_cpy g g (i + 1) i (k - 1 - i)) (k - 1) none = al_rm g i k := by
  funext j
  unfold va_up va_cpy al_rm
  by_cases h1 : j = k - 1
  · rw [if_pos h1, if_neg (by omega), if_pos (by omega)]
  · rw [if_neg h1]
    by_cases h2 : j + 1 < k
    · rw [if_pos h2]
      by_cases h3 : j < i
      · rw [if_pos h3, if_neg (by omega)]
      · rw [if_neg h3, if_pos (by omega)]
        congr 1
        omega
    · rw [if_neg h2, if_neg (by omega), if_neg (by omega)]
theorem cc_AL_fastRemove (l : Launch) (D : va_G) (z : Nat) (M : mw_M) (a r k cap : Nat) (mo : Int32) (g : Nat → Option Nat) (i : Nat) (wa : M a = some (.inr (4, [.ref r, .int (nI k), .int mo]))) (wr : M r = some (.inl (D.1 103, cap, .inr (.inr (.inr (.inr g)))))) (hkc : k ≤ cap) (hcap : cap < 2 ^ 20) (hi : i < k) (hel : el_ok M g cap) (hna : ∀ j : Nat, g j ≠ some a) : mw_C l yy_AL_fastRemove bb_AL_fastRemove 4 (Option.none : Option Jvm.ClassFile.FieldType) 1 26 0 0 D z M [.ref a, .ref r, .int (nI i)] (fun v M' => v = none ∧ M' a = some (.inr (4, [.ref r, .int (nI (k - 1)), .int (mo + nI 1)])) ∧ M' r = some (.inl (D.1 103, cap, .inr (.inr (.inr (.inr (al_rm g i k)))))) ∧ mw_fr (fun q => q = a ∨ q = r) M M') := by
  refine mw_of (by decide) (Nat.le_of_ble_eq_true rfl) ?_
  intro p e s m below meth c ls E hr hk hnm hM hl
  have hx := E.x
  have hb := E.b
  have E : mw_E p m c bb_AL_fastRemove 4 s _ D z "java/util/ArrayList" := E
  have hl : lv_has ls 4 [(0, .ref a), (1, .ref r), (2, .int (nI i))] := hl
  have hS : va_S (mw_A z) s.heap s.heap [] := va_S.rf
  have hF : mw_fr (fun q => q = a ∨ q = r) M M := mw_fr.rf
  refine lv_aload_n hx hb dd_AL_fastRemove_0 rfl (lv_at hl 0 rfl) ?_
  refine lv_dup hx hb dd_AL_fastRemove_1 rfl ?_
  refine gf_AL_63 E hM wa rfl dd_AL_fastRemove_2 ?_
  refine lv_iconst (v := nI 1) hx hb dd_AL_fastRemove_5 (by decide) ?_
  refine lv_iadd hx hb dd_AL_fastRemove_6 ?_
  refine pf_AL_63 E hM hS wa (Nat.le_of_ble_eq_true rfl) dd_AL_fastRemove_7 (fun H locs hM hS => ?_)
  have hM : mw_at D mg_cl z (va_up M a (some (.inr (4, [.ref r, .int (nI k), .int (mo + (nI 1))])))) H := hM
  obtain ⟨M1, hM1⟩ : ∃ M9 : mw_M, M9 = va_up M a (some (.inr (4, [.ref r, .int (nI k), .int (mo + (nI 1))]))) := ⟨_, rfl⟩
  rw [← hM1] at hM
  have wr := mw_uu hM1 wr (mw_ne wr wa (fun q => by cases q))
  have wa := mw_us hM1
  have hF := mw_fu hM1 hF (Or.inl rfl)
  refine lv_aload_n hx hb dd_AL_fastRemove_10 rfl (lv_at hl 0 rfl) ?_
  refine gf_AL_48 E hM wa rfl dd_AL_fastRemove_11 ?_
  refine lv_iconst (v := nI 1) hx hb dd_AL_fastRemove_14 (by decide) ?_
  refine lv_isub hx hb dd_AL_fastRemove_15 ?_
  refine mw_topi (y := nI (k - 1)) (pk_sub (by omega)) ?_
  refine lv_dup hx hb dd_AL_fastRemove_16 rfl ?_
  refine lv_istore_n (lv' := [(3, .int (nI (k - 1))), (0, .ref a), (1, .ref r), (2, .int (nI i))]) hx hb dd_AL_fastRemove_17 rfl hl (by decide) rfl (fun ls hl => ?_)
  refine lv_iload_n hx hb dd_AL_fastRemove_18 rfl (lv_at hl 3 rfl) ?_
  refine lv_icmp_le (tgt := 34) hx hb dd_AL_fastRemove_19 (by decide) (fun h19 => ?_) (fun h19 => ?_)
  ·
    rw [nI_leI (by omega) (by omega)] at h19
    refine lv_aload_n hx hb dd_AL_fastRemove_34 rfl (lv_at hl 2 rfl) ?_
    refine lv_aload_n hx hb dd_AL_fastRemove_35 rfl (lv_at hl 1 rfl) ?_
    refine lv_iload_n hx hb dd_AL_fastRemove_36 rfl (lv_at hl 0 rfl) ?_
    refine lv_dup_x1 hx hb dd_AL_fastRemove_37 rfl rfl ?_
    refine pf_AL_48 E hM hS wa (Nat.le_of_ble_eq_true rfl) dd_AL_fastRemove_38 (fun H locs hM hS => ?_)
    have hM : mw_at D mg_cl z (va_up M1 a (some (.inr (4, [.ref r, .int (nI (k - 1)), .int (mo + (nI 1))])))) H := hM
    obtain ⟨M1, hM1⟩ : ∃ M9 : mw_M, M9 = va_up M1 a (some (.inr (4, [.ref r, .int (nI (k - 1)), .int (mo + (nI 1))]))) := ⟨_, rfl⟩
    rw [← hM1] at hM
    have wr := mw_uu hM1 wr (mw_ne wr wa (fun q => by cases q))
    have wa := mw_us hM1
    have hF := mw_fu hM1 hF (Or.inl rfl)
    refine lv_null hx hb dd_AL_fastRemove_41 ?_
    refine mw_astqN hx hb E.K hM E.zz hS 3 wr rfl (vp_in_nI (by omega) (by omega)) dd_AL_fastRemove_42 (fun H locs hM hS => ?_)
    rw [nI_clamp (by omega)] at hM
    have hM : mw_at D mg_cl z (va_up M1 r (some (.inl (D.1 103, cap, .inr (.inr (.inr (.inr (va_up g (k - 1) none)))))))) H := hM
    obtain ⟨M1, hM1⟩ : ∃ M9 : mw_M, M9 = va_up M1 r (some (.inl (D.1 103, cap, .inr (.inr (.inr (.inr (va_up g (k - 1) none))))))) := ⟨_, rfl⟩
    rw [← hM1] at hM
    have wa := mw_uu hM1 wa (mw_ne wa wr (fun q => by cases q))
    have wr := mw_us hM1
    have hF := mw_fu hM1 hF (Or.inr rfl)
    refine mr_v E hr hk hM hS (by decide) (by decide) ?_ dd_AL_fastRemove_43
    rw [al_rmA hi h19] at wr
    exact ⟨rfl, wa, wr, hF⟩
  ·
    rw [nI_leI (by omega) (by omega)] at h19
    refine lv_aload_n hx hb dd_AL_fastRemove_22 rfl (lv_at hl 2 rfl) ?_
    refine lv_iload_n hx hb dd_AL_fastRemove_23 rfl (lv_at hl 3 rfl) ?_
    refine lv_iconst (v := nI 1) hx hb dd_AL_fastRemove_24 (by decide) ?_
    refine lv_iadd hx hb dd_AL_fastRemove_25 ?_
    refine mw_topi (y := nI (i + 1)) (nI_add _ _) ?_
    refine lv_aload_n hx hb dd_AL_fastRemove_26 rfl (lv_at hl 2 rfl) ?_
    refine lv_iload_n hx hb dd_AL_fastRemove_27 rfl (lv_at hl 3 rfl) ?_
    refine lv_iload_n hx hb dd_AL_fastRemove_28 rfl (lv_at hl 0 rfl) ?_
    refine lv_iload_n hx hb dd_AL_fastRemove_29 rfl (lv_at hl 3 rfl) ?_
    refine lv_isub hx hb dd_AL_fastRemove_30 ?_
    refine mw_topi (y := nI ((k - 1) - i)) (pk_sub (by omega)) ?_
    have hel := el_uu hM1 hel hna
    refine mw_copy (sp := i + 1) (dp := i) (n := (k - 1) - i) E hl.1 tw_AL_112 hM hS wr wr (by omega) (by omega) (by omega) (by omega) hel (Nat.le_of_ble_eq_true rfl) (by decide) dd_AL_fastRemove_31 (fun H locs hM hS => ?_)
    have hM : mw_at D mg_cl z (va_up M1 r (some (.inl (D.1 103, cap, .inr (.inr (.inr (.inr (va_cpy g g (i + 1) i ((k - 1) - i))))))))) H := hM
    obtain ⟨M1, hM1⟩ : ∃ M9 : mw_M, M9 = va_up M1 r (some (.inl (D.1 103, cap, .inr (.inr (.inr (.inr (va_cpy g g (i + 1) i ((k - 1) - i)))))))) := ⟨_, rfl⟩
    rw [← hM1] at hM
    have wa := mw_uu hM1 wa (mw_ne wa wr (fun q => by cases q))
    have wr := mw_us hM1
    have hF := mw_fu hM1 hF (Or.inr rfl)
    refine lv_aload_n hx hb dd_AL_fastRemove_34 rfl (lv_at hl 2 rfl) ?_
    refine lv_aload_n hx hb dd_AL_fastRemove_35 rfl (lv_at hl 1 rfl) ?_
    refine lv_iload_n hx hb dd_AL_fastRemove_36 rfl (lv_at hl 0 rfl) ?_
    refine lv_dup_x1 hx hb dd_AL_fastRemove_37 rfl rfl ?_
    refine pf_AL_48 E hM hS wa (Nat.le_of_ble_eq_true rfl) dd_AL_fastRemove_38 (fun H locs hM hS => ?_)
    have hM : mw_at D mg_cl z (va_up M1 a (some (.inr (4, [.ref r, .int (nI (k - 1)), .int (mo + (nI 1))])))) H := hM
    obtain ⟨M1, hM1⟩ : ∃ M9 : mw_M, M9 = va_up M1 a (some (.inr (4, [.ref r, .int (nI (k - 1)), .int (mo + (nI 1))]))) := ⟨_, rfl⟩
    rw [← hM1] at hM
    have wr := mw_uu hM1 wr (mw_ne wr wa (fun q => by cases q))
    have wa := mw_us hM1
    have hF := mw_fu hM1 hF (Or.inl rfl)
    refine lv_null hx hb dd_AL_fastRemove_41 ?_
    refine mw_astqN hx hb E.K hM E.zz hS 3 wr rfl (vp_in_nI (by omega) (by omega)) dd_AL_fastRemove_42 (fun H locs hM hS => ?_)
    rw [nI_clamp (by omega)] at hM
    have hM : mw_at D mg_cl z (va_up M1 r (some (.inl (D.1 103, cap, .inr (.inr (.inr (.inr (va_up (va_cpy g g (i + 1) i ((k - 1) - i)) (k - 1) none)))))))) H := hM
    obtain ⟨M1, hM1⟩ : ∃ M9 : mw_M, M9 = va_up M1 r (some (.inl (D.1 103, cap, .inr (.inr (.inr (.inr (va_up (va_cpy g g (i + 1) i ((k - 1) - i)) (k - 1) none))))))) := ⟨_, rfl⟩
    rw [← hM1] at hM
    have wa := mw_uu hM1 wa (mw_ne wa wr (fun q => by cases q))
    have wr := mw_us hM1
    have hF := mw_fu hM1 hF (Or.inr rfl)
    refine mr_v E hr hk hM hS (by decide) (by decide) ?_ dd_AL_fastRemove_43
    rw [al_rmB hi] at wr
    exact ⟨rfl, wa, wr, hF⟩
theorem cc_AL_remove (l : Launch) (D : va_G) (z : Nat) (M : mw_M) (a r k cap : Nat) (mo : Int32) (g : Nat → Option Nat) (i x : Nat) (wa : M a = some (.inr (4, [.ref r, .int (nI k), .int mo]))) (wr : M r = some (.inl (D.1 103, cap, .inr (.inr (.inr (.inr g)))))) (hkc : k ≤ cap) (hcap : cap < 2 ^ 20) (hi : i < k) (hel : el_ok M g cap) (hna : ∀ j : Nat, g j ≠ some a) (hx0 : g i = some x) : mw_C l yy_AL_remove bb_AL_remove 4 (Option.some (Jvm.ClassFile.FieldType.object "java/lang/Object")) 2 49 0 0 D z M [.ref a, .int (nI i)] (fun v M' => v = some (.ref x) ∧ M' a = some (.inr (4, [.ref r, .int (nI (k - 1)), .int (mo + nI 1)])) ∧ M' r = some (.inl (D.1 103, cap, .inr (.inr (.inr (.inr (al_rm g i k)))))) ∧ mw_fr (fun q => q = a ∨ q = r) M M') := by
  refine mw_of (by decide) (Nat.le_of_ble_eq_true rfl) ?_
  intro p e s m below meth c ls E hr hk hnm hM hl
  have hx := E.x
  have hb := E.b
  have E : mw_E p m c bb_AL_remove 4 s _ D z "java/util/ArrayList" := E
  have hl : lv_has ls 4 [(0, .ref a), (1, .int (nI i))] := hl
  have hS : va_S (mw_A z) s.heap s.heap [] := va_S.rf
  have hF : mw_fr (fun q => q = a ∨ q = r) M M := mw_fr.rf
  refine lv_iload_n hx hb dd_AL_remove_0 rfl (lv_at hl 1 rfl) ?_
  refine lv_aload_n hx hb dd_AL_remove_1 rfl (lv_at hl 0 rfl) ?_
  refine gf_AL_48 E hM wa rfl dd_AL_remove_2 ?_
  refine mw_S (As := [.int (nI i), .int (nI k)]) (rest := []) E (cc_Oj_checkIndex l D z (M) i k hi (by omega)) ky_Oj_checkIndex kv_Oj_checkIndex tw_AL_118 hM hS rfl hl.1 rfl (Nat.le_of_ble_eq_true rfl) dd_AL_remove_5 (by decide) (by decide) (fun v M1 H locs hp hM hS => ?_)
  obtain ⟨rfl, hq⟩ := hp
  have hq := hq.symm
  subst hq
  refine W.eq (g2 := F0 m 8 ls [.int (nI i)]) rfl ?_
  refine lv_pop hx hb dd_AL_remove_8 rfl ?_
  refine lv_aload_n hx hb dd_AL_remove_9 rfl (lv_at hl 0 rfl) ?_
  refine gf_AL_9 E hM wa rfl dd_AL_remove_10 ?_
  refine lv_astore_n (lv' := [(2, .ref r), (0, .ref a), (1, .int (nI i))]) hx hb dd_AL_remove_13 rfl hl (by decide) rfl (fun ls hl => ?_)
  refine lv_aload_n hx hb dd_AL_remove_14 rfl (lv_at hl 0 rfl) ?_
  refine lv_iload_n hx hb dd_AL_remove_15 rfl (lv_at hl 2 rfl) ?_
  refine mw_aldq hx hb E.K hM 3 wr rfl (vp_in_nI (by omega) (by omega)) dd_AL_remove_16 ?_
  rw [nI_clamp (by omega)]
  rw [hx0]
  refine W.eq (g2 := F0 m 17 ls [.ref x]) rfl ?_
  refine lv_astore_n (lv' := [(3, .ref x), (2, .ref r), (0, .ref a), (1, .int (nI i))]) hx hb dd_AL_remove_17 rfl hl (by decide) rfl (fun ls hl => ?_)
  refine lv_aload_n hx hb dd_AL_remove_18 rfl (lv_at hl 2 rfl) ?_
  refine lv_aload_n hx hb dd_AL_remove_19 rfl (lv_at hl 1 rfl) ?_
  refine lv_iload_n hx hb dd_AL_remove_20 rfl (lv_at hl 3 rfl) ?_
  refine mw_V (As := [.ref r, .int (nI i)]) (rest := []) E (cc_AL_fastRemove l D z M a r k cap mo g i wa wr hkc hcap hi hel hna) ky_AL_fastRemove kv_AL_fastRemove tw_AL_144 hM hS wa rfl rfl rfl hl.1 rfl (Nat.le_of_ble_eq_true rfl) dd_AL_remove_21 (by decide) (by decide) (fun v M1 H locs hp hM hS => ?_)
  obtain ⟨rfl, wa, wr, hF2⟩ := hp
  have hF := hF.trans hF2
  refine W.eq (g2 := F0 m 24 ls []) rfl ?_
  refine lv_aload_n hx hb dd_AL_remove_24 rfl (lv_at hl 0 rfl) ?_
  refine mr_a E hr hk (Or.inl ⟨_, rfl⟩) (Or.inr ⟨_, rfl⟩) hM hS (by decide) (by decide) ?_ dd_AL_remove_25
  exact ⟨rfl, wa, wr, hF⟩
