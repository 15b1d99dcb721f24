/-! entries, certificates, agents: what is small of them -/
theorem cc_En_init (l : Launch) (D : va_G) (z : Nat) (M : mw_M) (d : Nat) (e_n e_i e_p e_s e_t e_f : Int32) (wd : M d = some (.inr (9, [.int 0, .int 0, .int 0, .int 0, .int 0, .int 0]))) : mw_C l yy_En_init bb_En_init 7 (Option.none : Option Jvm.ClassFile.FieldType) 1 20 0 0 D z M [.ref d, .int (e_n), .int (e_i), .int (e_p), .int (e_s), .int (e_t), .int (e_f)] (fun v M' => v = none ∧ M' d = some (.inr (9, [.int (e_n), .int (e_i), .int (e_p), .int (e_s), .int (e_t), .int (e_f)])) ∧ mw_fr (fun q => q = d) M M') := by
  refine mw_of (by decide) (Nat.le_of_ble_eq_true rfl) ?_
  intro p e s m below meth c ls E hr hk hnm hM hl
  have hx := E.x
  have hb := E.b
  have E : mw_E p m c bb_En_init 7 s _ D z "IdentityIssuer$Entry" := E
  have hl : lv_has ls 7 [(0, .ref d), (1, .int (e_n)), (2, .int (e_i)), (3, .int (e_p)), (4, .int (e_s)), (5, .int (e_t)), (6, .int (e_f))] := hl
  have hS : va_S (mw_A z) s.heap s.heap [] := va_S.rf
  have hF : mw_fr (fun q => q = d) M M := mw_fr.rf
  refine lv_aload_n hx hb dd_En_init_0 rfl (lv_at hl 0 rfl) ?_
  refine W.objInit hx hb E.o (E.t _ tw_En_1) (E.t _ kw_Ob_im) (E.t _ kw_Ob_code) rfl (by rw [E.ml]; exact hl.1) rfl dd_En_init_1 (Nat.le_of_ble_eq_true rfl) (Nat.le_of_ble_eq_true rfl) ?_
  refine W.eq (g2 := F0 m 4 ls []) rfl ?_
  refine lv_aload_n hx hb dd_En_init_4 rfl (lv_at hl 0 rfl) ?_
  refine lv_iload_n hx hb dd_En_init_5 rfl (lv_at hl 1 rfl) ?_
  refine pf_En_7 E hnm hM hS wd (Nat.le_of_ble_eq_true rfl) dd_En_init_6 (fun H locs hM hS => ?_)
  have hM : mw_at D mg_cl z (va_up M d (some (.inr (9, [.int (e_n), .int (0), .int (0), .int (0), .int (0), .int (0)])))) H := hM
  obtain ⟨M1, hM1⟩ : ∃ M9 : mw_M, M9 = va_up M d (some (.inr (9, [.int (e_n), .int (0), .int (0), .int (0), .int (0), .int (0)]))) := ⟨_, rfl⟩
  rw [← hM1] at hM
  have wd := mw_us hM1
  have hF := mw_fu hM1 hF (rfl)
  refine lv_aload_n hx hb dd_En_init_9 rfl (lv_at hl 0 rfl) ?_
  refine lv_iload_n hx hb dd_En_init_10 rfl (lv_at hl 2 rfl) ?_
  refine pf_En_13 E hnm hM hS wd (Nat.le_of_ble_eq_true rfl) dd_En_init_11 (fun H locs hM hS => ?_)
  have hM : mw_at D mg_cl z (va_up M1 d (some (.inr (9, [.int (e_n), .int (e_i), .int (0), .int (0), .int (0), .int (0)])))) H := hM
  obtain ⟨M1, hM1⟩ : ∃ M9 : mw_M, M9 = va_up M1 d (some (.inr (9, [.int (e_n), .int (e_i), .int (0), .int (0), .int (0), .int (0)]))) := ⟨_, rfl⟩
  rw [← hM1] at hM
  have wd := mw_us hM1
  have hF := mw_fu hM1 hF (rfl)
  refine lv_aload_n hx hb dd_En_init_14 rfl (lv_at hl 0 rfl) ?_
  refine lv_iload_n hx hb dd_En_init_15 rfl (lv_at hl 3 rfl) ?_
  refine pf_En_16 E hnm hM hS wd (Nat.le_of_ble_eq_true rfl) dd_En_init_16 (fun H locs hM hS => ?_)
  have hM : mw_at D mg_cl z (va_up M1 d (some (.inr (9, [.int (e_n), .int (e_i), .int (e_p), .int (0), .int (0), .int (0)])))) H := hM
  obtain ⟨M1, hM1⟩ : ∃ M9 : mw_M, M9 = va_up M1 d (some (.inr (9, [.int (e_n), .int (e_i), .int (e_p), .int (0), .int (0), .int (0)]))) := ⟨_, rfl⟩
  rw [← hM1] at hM
  have wd := mw_us hM1
  have hF := mw_fu hM1 hF (rfl)
  refine lv_aload_n hx hb dd_En_init_19 rfl (lv_at hl 0 rfl) ?_
  refine lv_iload hx hb dd_En_init_20 (lv_at hl 4 rfl) ?_
  refine pf_En_19 E hnm hM hS wd (Nat.le_of_ble_eq_true rfl) dd_En_init_22 (fun H locs hM hS => ?_)
  have hM : mw_at D mg_cl z (va_up M1 d (some (.inr (9, [.int (e_n), .int (e_i), .int (e_p), .int (e_s), .int (0), .int (0)])))) H := hM
  obtain ⟨M1, hM1⟩ : ∃ M9 : mw_M, M9 = va_up M1 d (some (.inr (9, [.int (e_n), .int (e_i), .int (e_p), .int (e_s), .int (0), .int (0)]))) := ⟨_, rfl⟩
  rw [← hM1] at hM
  have wd := mw_us hM1
  have hF := mw_fu hM1 hF (rfl)
  refine lv_aload_n hx hb dd_En_init_25 rfl (lv_at hl 0 rfl) ?_
  refine lv_iload hx hb dd_En_init_26 (lv_at hl 5 rfl) ?_
  refine pf_En_22 E hnm hM hS wd (Nat.le_of_ble_eq_true rfl) dd_En_init_28 (fun H locs hM hS => ?_)
  have hM : mw_at D mg_cl z (va_up M1 d (some (.inr (9, [.int (e_n), .int (e_i), .int (e_p), .int (e_s), .int (e_t), .int (0)])))) H := hM
  obtain ⟨M1, hM1⟩ : ∃ M9 : mw_M, M9 = va_up M1 d (some (.inr (9, [.int (e_n), .int (e_i), .int (e_p), .int (e_s), .int (e_t), .int (0)]))) := ⟨_, rfl⟩
  rw [← hM1] at hM
  have wd := mw_us hM1
  have hF := mw_fu hM1 hF (rfl)
  refine lv_aload_n hx hb dd_En_init_31 rfl (lv_at hl 0 rfl) ?_
  refine lv_iload hx hb dd_En_init_32 (lv_at hl 6 rfl) ?_
  refine pf_En_25 E hnm hM hS wd (Nat.le_of_ble_eq_true rfl) dd_En_init_34 (fun H locs hM hS => ?_)
  have hM : mw_at D mg_cl z (va_up M1 d (some (.inr (9, [.int (e_n), .int (e_i), .int (e_p), .int (e_s), .int (e_t), .int (e_f)])))) H := hM
  obtain ⟨M1, hM1⟩ : ∃ M9 : mw_M, M9 = va_up M1 d (some (.inr (9, [.int (e_n), .int (e_i), .int (e_p), .int (e_s), .int (e_t), .int (e_f)]))) := ⟨_, rfl⟩
  rw [← hM1] at hM
  have wd := mw_us hM1
  have hF := mw_fu hM1 hF (rfl)
  refine mr_v E hr hk hM hS (by decide) (by decide) ?_ dd_En_init_37
  exact ⟨rfl, wd, hF⟩
theorem cc_En_isEntitled (l : Launch) (D : va_G) (z : Nat) (M : mw_M) (d : Nat) (e_n e_i e_p e_s e_t e_f : Int32) (i : Int32) (wd : M d = some (.inr (9, [.int (e_n), .int (e_i), .int (e_p), .int (e_s), .int (e_t), .int (e_f)]))) : mw_C l yy_En_isEntitled bb_En_isEntitled 2 (Option.some Jvm.ClassFile.FieldType.boolean) 0 0 0 0 D z M [.ref d, .int (i)] (fun v M' => v = some (.int (zI (decide ((i >>> (e_p &&& 31)) &&& nI 1 = nI 1)))) ∧ M' = M) := by
  refine mw_of (by decide) (Nat.le_of_ble_eq_true rfl) ?_
  intro p e s m below meth c ls E hr hk hnm hM hl
  have hx := E.x
  have hb := E.b
  have E : mw_E p m c bb_En_isEntitled 2 s _ D z "IdentityIssuer$Entry" := E
  have hl : lv_has ls 2 [(0, .ref d), (1, .int (i))] := hl
  have hS : va_S (mw_A z) s.heap s.heap [] := va_S.rf
  refine lv_iload_n hx hb dd_En_isEntitled_0 rfl (lv_at hl 1 rfl) ?_
  refine lv_aload_n hx hb dd_En_isEntitled_1 rfl (lv_at hl 0 rfl) ?_
  refine gf_En_16 E hM wd rfl dd_En_isEntitled_2 ?_
  refine lv_ishr hx hb dd_En_isEntitled_5 ?_
  refine lv_iconst (v := nI 1) hx hb dd_En_isEntitled_6 (by decide) ?_
  refine lv_iand hx hb dd_En_isEntitled_7 ?_
  refine lv_iconst (v := nI 1) hx hb dd_En_isEntitled_8 (by decide) ?_
  refine lv_icmp_ne (tgt := 16) hx hb dd_En_isEntitled_9 (by decide) (fun h9 => ?_) (fun h9 => ?_)
  ·
    refine lv_iconst (v := nI 0) hx hb dd_En_isEntitled_16 (by decide) ?_
    refine mr_z E hr hk hM hS (by decide) (by decide) (rfl) ?_ dd_En_isEntitled_17
    exact ⟨by rw [zI_f (decide_eq_false h9)]; rfl, rfl⟩
  ·
    refine lv_iconst (v := nI 1) hx hb dd_En_isEntitled_12 (by decide) ?_
    refine lv_goto (tgt := 17) hx hb dd_En_isEntitled_13 (by decide) ?_
    refine mr_z E hr hk hM hS (by decide) (by decide) (rfl) ?_ dd_En_isEntitled_17
    exact ⟨by rw [zI_t (decide_eq_true h9)]; rfl, rfl⟩
theorem cc_En_isSelectedBy (l : Launch) (D : va_G) (z : Nat) (M : mw_M) (d : Nat) (e_n e_i e_p e_s e_t e_f : Int32) (i : Int32) (wd : M d = some (.inr (9, [.int (e_n), .int (e_i), .int (e_p), .int (e_s), .int (e_t), .int (e_f)]))) : mw_C l yy_En_isSelectedBy bb_En_isSelectedBy 2 (Option.some Jvm.ClassFile.FieldType.boolean) 0 0 0 0 D z M [.ref d, .int (i)] (fun v M' => v = some (.int (zI (decide (e_s &&& (i ^^^ -1) = 0)))) ∧ M' = M) := by
  refine mw_of (by decide) (Nat.le_of_ble_eq_true rfl) ?_
  intro p e s m below meth c ls E hr hk hnm hM hl
  have hx := E.x
  have hb := E.b
  have E : mw_E p m c bb_En_isSelectedBy 2 s _ D z "IdentityIssuer$Entry" := E
  have hl : lv_has ls 2 [(0, .ref d), (1, .int (i))] := hl
  have hS : va_S (mw_A z) s.heap s.heap [] := va_S.rf
  refine lv_aload_n hx hb dd_En_isSelectedBy_0 rfl (lv_at hl 0 rfl) ?_
  refine gf_En_19 E hM wd rfl dd_En_isSelectedBy_1 ?_
  refine lv_iload_n hx hb dd_En_isSelectedBy_4 rfl (lv_at hl 1 rfl) ?_
  refine lv_iconst (v := -1) hx hb dd_En_isSelectedBy_5 (by decide) ?_
  refine lv_ixor hx hb dd_En_isSelectedBy_6 ?_
  refine lv_iand hx hb dd_En_isSelectedBy_7 ?_
  refine lv_if_ne (tgt := 15) hx hb dd_En_isSelectedBy_8 (by decide) (fun h8 => ?_) (fun h8 => ?_)
  ·
    refine lv_iconst (v := nI 0) hx hb dd_En_isSelectedBy_15 (by decide) ?_
    refine mr_z E hr hk hM hS (by decide) (by decide) (rfl) ?_ dd_En_isSelectedBy_16
    exact ⟨by rw [zI_f (decide_eq_false h8)]; rfl, rfl⟩
  ·
    refine lv_iconst (v := nI 1) hx hb dd_En_isSelectedBy_11 (by decide) ?_
    refine lv_goto (tgt := 16) hx hb dd_En_isSelectedBy_12 (by decide) ?_
    refine mr_z E hr hk hM hS (by decide) (by decide) (rfl) ?_ dd_En_isSelectedBy_16
    exact ⟨by rw [zI_t (decide_eq_true h8)]; rfl, rfl⟩
theorem cc_Ce_init (l : Launch) (D : va_G) (z : Nat) (M : mw_M) (d c_e : Nat) (c_s c_k c_b c_d : Int32) (wd : M d = some (.inr (11, [.null, .int 0, .int 0, .int 0, .int 0]))) : mw_C l yy_Ce_init bb_Ce_init 6 (Option.none : Option Jvm.ClassFile.FieldType) 1 20 0 0 D z M [.ref d, .ref c_e, .int (c_s), .int (c_k), .int (c_b), .int (c_d)] (fun v M' => v = none ∧ M' d = some (.inr (11, [.ref c_e, .int (c_s), .int (c_k), .int (c_b), .int (c_d)])) ∧ mw_fr (fun q => q = d) M M') := by
  refine mw_of (by decide) (Nat.le_of_ble_eq_true rfl) ?_
  intro p e s m below meth c ls E hr hk hnm hM hl
  have hx := E.x
  have hb := E.b
  have E : mw_E p m c bb_Ce_init 6 s _ D z "IdentityIssuer$Certificate" := E
  have hl : lv_has ls 6 [(0, .ref d), (1, .ref c_e), (2, .int (c_s)), (3, .int (c_k)), (4, .int (c_b)), (5, .int (c_d))] := hl
  have hS : va_S (mw_A z) s.heap s.heap [] := va_S.rf
  have hF : mw_fr (fun q => q = d) M M := mw_fr.rf
  refine lv_aload_n hx hb dd_Ce_init_0 rfl (lv_at hl 0 rfl) ?_
  refine W.objInit hx hb E.o (E.t _ tw_Ce_1) (E.t _ kw_Ob_im) (E.t _ kw_Ob_code) rfl (by rw [E.ml]; exact hl.1) rfl dd_Ce_init_1 (Nat.le_of_ble_eq_true rfl) (Nat.le_of_ble_eq_true rfl) ?_
  refine W.eq (g2 := F0 m 4 ls []) rfl ?_
  refine lv_aload_n hx hb dd_Ce_init_4 rfl (lv_at hl 0 rfl) ?_
  refine lv_aload_n hx hb dd_Ce_init_5 rfl (lv_at hl 1 rfl) ?_
  refine pf_Ce_7 E hnm hM hS wd (Nat.le_of_ble_eq_true rfl) dd_Ce_init_6 (fun H locs hM hS => ?_)
  have hM : mw_at D mg_cl z (va_up M d (some (.inr (11, [.ref c_e, .int (0), .int (0), .int (0), .int (0)])))) H := hM
  obtain ⟨M1, hM1⟩ : ∃ M9 : mw_M, M9 = va_up M d (some (.inr (11, [.ref c_e, .int (0), .int (0), .int (0), .int (0)]))) := ⟨_, rfl⟩
  rw [← hM1] at hM
  have wd := mw_us hM1
  have hF := mw_fu hM1 hF (rfl)
  refine lv_aload_n hx hb dd_Ce_init_9 rfl (lv_at hl 0 rfl) ?_
  refine lv_iload_n hx hb dd_Ce_init_10 rfl (lv_at hl 2 rfl) ?_
  refine pf_Ce_13 E hnm hM hS wd (Nat.le_of_ble_eq_true rfl) dd_Ce_init_11 (fun H locs hM hS => ?_)
  have hM : mw_at D mg_cl z (va_up M1 d (some (.inr (11, [.ref c_e, .int (c_s), .int (0), .int (0), .int (0)])))) H := hM
  obtain ⟨M1, hM1⟩ : ∃ M9 : mw_M, M9 = va_up M1 d (some (.inr (11, [.ref c_e, .int (c_s), .int (0), .int (0), .int (0)]))) := ⟨_, rfl⟩
  rw [← hM1] at hM
  have wd := mw_us hM1
  have hF := mw_fu hM1 hF (rfl)
  refine lv_aload_n hx hb dd_Ce_init_14 rfl (lv_at hl 0 rfl) ?_
  refine lv_iload_n hx hb dd_Ce_init_15 rfl (lv_at hl 3 rfl) ?_
  refine pf_Ce_17 E hnm hM hS wd (Nat.le_of_ble_eq_true rfl) dd_Ce_init_16 (fun H locs hM hS => ?_)
  have hM : mw_at D mg_cl z (va_up M1 d (some (.inr (11, [.ref c_e, .int (c_s), .int (c_k), .int (0), .int (0)])))) H := hM
  obtain ⟨M1, hM1⟩ : ∃ M9 : mw_M, M9 = va_up M1 d (some (.inr (11, [.ref c_e, .int (c_s), .int (c_k), .int (0), .int (0)]))) := ⟨_, rfl⟩
  rw [← hM1] at hM
  have wd := mw_us hM1
  have hF := mw_fu hM1 hF (rfl)
  refine lv_aload_n hx hb dd_Ce_init_19 rfl (lv_at hl 0 rfl) ?_
  refine lv_iload hx hb dd_Ce_init_20 (lv_at hl 4 rfl) ?_
  refine pf_Ce_20 E hnm hM hS wd (Nat.le_of_ble_eq_true rfl) dd_Ce_init_22 (fun H locs hM hS => ?_)
  have hM : mw_at D mg_cl z (va_up M1 d (some (.inr (11, [.ref c_e, .int (c_s), .int (c_k), .int (c_b), .int (0)])))) H := hM
  obtain ⟨M1, hM1⟩ : ∃ M9 : mw_M, M9 = va_up M1 d (some (.inr (11, [.ref c_e, .int (c_s), .int (c_k), .int (c_b), .int (0)]))) := ⟨_, rfl⟩
  rw [← hM1] at hM
  have wd := mw_us hM1
  have hF := mw_fu hM1 hF (rfl)
  refine lv_aload_n hx hb dd_Ce_init_25 rfl (lv_at hl 0 rfl) ?_
  refine lv_iload hx hb dd_Ce_init_26 (lv_at hl 5 rfl) ?_
  refine pf_Ce_23 E hnm hM hS wd (Nat.le_of_ble_eq_true rfl) dd_Ce_init_28 (fun H locs hM hS => ?_)
  have hM : mw_at D mg_cl z (va_up M1 d (some (.inr (11, [.ref c_e, .int (c_s), .int (c_k), .int (c_b), .int (c_d)])))) H := hM
  obtain ⟨M1, hM1⟩ : ∃ M9 : mw_M, M9 = va_up M1 d (some (.inr (11, [.ref c_e, .int (c_s), .int (c_k), .int (c_b), .int (c_d)]))) := ⟨_, rfl⟩
  rw [← hM1] at hM
  have wd := mw_us hM1
  have hF := mw_fu hM1 hF (rfl)
  refine mr_v E hr hk hM hS (by decide) (by decide) ?_ dd_Ce_init_31
  exact ⟨rfl, wd, hF⟩
theorem cc_Ag_keepBundles (l : Launch) (D : va_G) (z : Nat) (M : mw_M) (d a_k : Nat) (a_i a_s a_f a_e a_g f0 e0 g0 : Int32) (wd : M d = some (.inr (10, [.int (a_i), .ref a_k, .int (a_s), .int (a_f), .int (a_e), .int (a_g)]))) : mw_C l yy_Ag_keepBundles bb_Ag_keepBundles 4 (Option.none : Option Jvm.ClassFile.FieldType) 0 0 0 0 D z M [.ref d, .int (f0), .int (e0), .int (g0)] (fun v M' => v = none ∧ M' d = some (.inr (10, [.int (a_i), .ref a_k, .int (a_s), .int (f0), .int (e0), .int (g0)])) ∧ mw_fr (fun q => q = d) M M') := by
  refine mw_of (by decide) (Nat.le_of_ble_eq_true rfl) ?_
  intro p e s m below meth c ls E hr hk hnm hM hl
  have hx := E.x
  have hb := E.b
  have E : mw_E p m c bb_Ag_keepBundles 4 s _ D z "IdentityIssuer$Agent" := E
  have hl : lv_has ls 4 [(0, .ref d), (1, .int (f0)), (2, .int (e0)), (3, .int (g0))] := hl
  have hS : va_S (mw_A z) s.heap s.heap [] := va_S.rf
  have hF : mw_fr (fun q => q = d) M M := mw_fr.rf
  refine lv_aload_n hx hb dd_Ag_keepBundles_0 rfl (lv_at hl 0 rfl) ?_
  refine lv_iload_n hx hb dd_Ag_keepBundles_1 rfl (lv_at hl 1 rfl) ?_
  refine pf_Ag_44 E hM hS wd (Nat.le_of_ble_eq_true rfl) dd_Ag_keepBundles_2 (fun H locs hM hS => ?_)
  have hM : mw_at D mg_cl z (va_up M d (some (.inr (10, [.int (a_i), .ref a_k, .int (a_s), .int (f0), .int (a_e), .int (a_g)])))) H := hM
  obtain ⟨M1, hM1⟩ : ∃ M9 : mw_M, M9 = va_up M d (some (.inr (10, [.int (a_i), .ref a_k, .int (a_s), .int (f0), .int (a_e), .int (a_g)]))) := ⟨_, rfl⟩
  rw [← hM1] at hM
  have wd := mw_us hM1
  have hF := mw_fu hM1 hF (rfl)
  refine lv_aload_n hx hb dd_Ag_keepBundles_5 rfl (lv_at hl 0 rfl) ?_
  refine lv_iload_n hx hb dd_Ag_keepBundles_6 rfl (lv_at hl 2 rfl) ?_
  refine pf_Ag_47 E hM hS wd (Nat.le_of_ble_eq_true rfl) dd_Ag_keepBundles_7 (fun H locs hM hS => ?_)
  have hM : mw_at D mg_cl z (va_up M1 d (some (.inr (10, [.int (a_i), .ref a_k, .int (a_s), .int (f0), .int (e0), .int (a_g)])))) H := hM
  obtain ⟨M1, hM1⟩ : ∃ M9 : mw_M, M9 = va_up M1 d (some (.inr (10, [.int (a_i), .ref a_k, .int (a_s), .int (f0), .int (e0), .int (a_g)]))) := ⟨_, rfl⟩
  rw [← hM1] at hM
  have wd := mw_us hM1
  have hF := mw_fu hM1 hF (rfl)
  refine lv_aload_n hx hb dd_Ag_keepBundles_10 rfl (lv_at hl 0 rfl) ?_
  refine lv_iload_n hx hb dd_Ag_keepBundles_11 rfl (lv_at hl 3 rfl) ?_
  refine pf_Ag_50 E hM hS wd (Nat.le_of_ble_eq_true rfl) dd_Ag_keepBundles_12 (fun H locs hM hS => ?_)
  have hM : mw_at D mg_cl z (va_up M1 d (some (.inr (10, [.int (a_i), .ref a_k, .int (a_s), .int (f0), .int (e0), .int (g0)])))) H := hM
  obtain ⟨M1, hM1⟩ : ∃ M9 : mw_M, M9 = va_up M1 d (some (.inr (10, [.int (a_i), .ref a_k, .int (a_s), .int (f0), .int (e0), .int (g0)]))) := ⟨_, rfl⟩
  rw [← hM1] at hM
  have wd := mw_us hM1
  have hF := mw_fu hM1 hF (rfl)
  refine mr_v E hr hk hM hS (by decide) (by decide) ?_ dd_Ag_keepBundles_15
  exact ⟨rfl, wd, hF⟩
theorem cc_Ag_init (l : Launch) (D : va_G) (z : Nat) (M : mw_M) (d : Nat) (L0 : List Nat) (i s0 : Int32) (hA : mn_l (d :: L0) M) (wd : M d = some (.inr (10, [.int (0), .null, .int (0), .int (0), .int (0), .int (0)]))) : mw_C l yy_Ag_init bb_Ag_init 3 (Option.none : Option Jvm.ClassFile.FieldType) 4 80 1 3 D z M [.ref d, .int (i), .int (s0)] (fun v M' => v = none ∧ ∃ q, M' d = some (.inr (10, [.int i, .ref q, .int s0, .int 0, .int 0, .int 0])) ∧ M' q = some (.inr (4, [.ref (D.2 200 0), .int (nI 0), .int (nI 0)])) ∧ mn_l (q :: (d :: L0)) M' ∧ mw_fr (fun q => q ∉ L0) M M') := by
  refine mw_of (by decide) (Nat.le_of_ble_eq_true rfl) ?_
  intro p e s m below meth c ls E hr hk hnm hM hl
  have hx := E.x
  have hb := E.b
  have E : mw_E p m c bb_Ag_init 3 s _ D z "IdentityIssuer$Agent" := E
  have hl : lv_has ls 3 [(0, .ref d), (1, .int (i)), (2, .int (s0))] := hl
  have hS : va_S (mw_A z) s.heap s.heap [] := va_S.rf
  have hF : mw_fr (fun q => q ∉ L0) M M := mw_fr.rf
  refine lv_aload_n hx hb dd_Ag_init_0 rfl (lv_at hl 0 rfl) ?_
  refine W.objInit hx hb E.o (E.t _ tw_Ag_1) (E.t _ kw_Ob_im) (E.t _ kw_Ob_code) rfl (by rw [E.ml]; exact hl.1) rfl dd_Ag_init_1 (Nat.le_of_ble_eq_true rfl) (Nat.le_of_ble_eq_true rfl) ?_
  refine W.eq (g2 := F0 m 4 ls []) rfl ?_
  refine lv_aload_n hx hb dd_Ag_init_4 rfl (lv_at hl 0 rfl) ?_
  refine mw_new (C := "java/util/ArrayList") (T := ff_AL) (N := 3) (ci := 4) (fs := [.null, .int (0), .int (0)]) hx hb E.t in_AL tt_AL ty_AL E.o (E.t _ tw_Ag_7) (E.t _ tw_inst_AL) (E.t _ tw_ini_AL) E.K hM E.zz hS rfl (by decide +kernel) (by decide) (by decide) dd_Ag_init_5 (fun q5 H hq5 hM hS => ?_)
  have hM : mw_at D mg_cl z (va_up M q5 (some (.inr (4, [.null, .int (0), .int (0)])))) H := hM
  obtain ⟨M1, hM1⟩ : ∃ M9 : mw_M, M9 = va_up M q5 (some (.inr (4, [.null, .int (0), .int (0)]))) := ⟨_, rfl⟩
  rw [← hM1] at hM
  have wd := mw_un hM1 hq5 wd
  have w_q5 := mw_us hM1
  have hF := mw_fn hM1 hq5 hF
  have hA := mn_nn hM1 hq5 hA
  refine lv_dup hx hb dd_Ag_init_8 rfl ?_
  refine mw_I (As := []) (rest := [.ref q5, .ref d]) E (cc_AL_init l D z (M1) q5 w_q5) ky_AL_init kv_AL_init tw_Ag_9 hM hS rfl hl.1 rfl (Nat.le_of_ble_eq_true rfl) dd_Ag_init_9 (by decide) (by decide) (fun v M1 H locs hp hM hS => ?_)
  obtain ⟨rfl, wn_q5, hF2⟩ := hp
  have wd := hF2.at wd (mw_ne wd w_q5 (fun q => by cases q))
  have hF := hF.trans (hF2.mono (fun q9 h9 => by rw [h9]; exact mn_out (pre := q5 :: (d :: ([]))) hA 0 rfl))
  have hA := mn_fr hA hF2
  have w_q5 := wn_q5
  refine pf_Ag_10 E hnm hM hS wd (Nat.le_of_ble_eq_true rfl) dd_Ag_init_12 (fun H locs hM hS => ?_)
  have hM : mw_at D mg_cl z (va_up M1 d (some (.inr (10, [.int (0), .ref q5, .int (0), .int (0), .int (0), .int (0)])))) H := hM
  obtain ⟨M1, hM1⟩ : ∃ M9 : mw_M, M9 = va_up M1 d (some (.inr (10, [.int (0), .ref q5, .int (0), .int (0), .int (0), .int (0)]))) := ⟨_, rfl⟩
  rw [← hM1] at hM
  have w_q5 := mw_uu hM1 w_q5 (mw_ne w_q5 wd (fun q => by cases q))
  have wd := mw_us hM1
  have hA := mn_uu hM1 hA
  have hF := mw_fu hM1 hF (mn_out (pre := q5 :: (d :: ([]))) hA 1 rfl)
  refine lv_aload_n hx hb dd_Ag_init_15 rfl (lv_at hl 0 rfl) ?_
  refine lv_iload_n hx hb dd_Ag_init_16 rfl (lv_at hl 1 rfl) ?_
  refine pf_Ag_16 E hnm hM hS wd (Nat.le_of_ble_eq_true rfl) dd_Ag_init_17 (fun H locs hM hS => ?_)
  have hM : mw_at D mg_cl z (va_up M1 d (some (.inr (10, [.int (i), .ref q5, .int (0), .int (0), .int (0), .int (0)])))) H := hM
  obtain ⟨M1, hM1⟩ : ∃ M9 : mw_M, M9 = va_up M1 d (some (.inr (10, [.int (i), .ref q5, .int (0), .int (0), .int (0), .int (0)]))) := ⟨_, rfl⟩
  rw [← hM1] at hM
  have w_q5 := mw_uu hM1 w_q5 (mw_ne w_q5 wd (fun q => by cases q))
  have wd := mw_us hM1
  have hA := mn_uu hM1 hA
  have hF := mw_fu hM1 hF (mn_out (pre := q5 :: (d :: ([]))) hA 1 rfl)
  refine lv_aload_n hx hb dd_Ag_init_20 rfl (lv_at hl 0 rfl) ?_
  refine lv_iload_n hx hb dd_Ag_init_21 rfl (lv_at hl 2 rfl) ?_
  refine pf_Ag_20 E hM hS wd (Nat.le_of_ble_eq_true rfl) dd_Ag_init_22 (fun H locs hM hS => ?_)
  have hM : mw_at D mg_cl z (va_up M1 d (some (.inr (10, [.int (i), .ref q5, .int (s0), .int (0), .int (0), .int (0)])))) H := hM
  obtain ⟨M1, hM1⟩ : ∃ M9 : mw_M, M9 = va_up M1 d (some (.inr (10, [.int (i), .ref q5, .int (s0), .int (0), .int (0), .int (0)]))) := ⟨_, rfl⟩
  rw [← hM1] at hM
  have w_q5 := mw_uu hM1 w_q5 (mw_ne w_q5 wd (fun q => by cases q))
  have wd := mw_us hM1
  have hA := mn_uu hM1 hA
  have hF := mw_fu hM1 hF (mn_out (pre := q5 :: (d :: ([]))) hA 1 rfl)
  refine mr_v E hr hk hM hS (by decide) (by decide) ?_ dd_Ag_init_25
  exact ⟨rfl, q5, wd, w_q5, hA, hF⟩
theorem cc_Es_size (l : Launch) (D : va_G) (z : Nat) (M : mw_M) (d el ar k mk : Nat) (mo : Int32) (wd : M d = some (.inr (3, [.ref el, .int (nI mk)]))) (wc : M el = some (.inr (4, [.ref ar, .int (nI k), .int (mo)]))) (hk0 : k < 2 ^ 31) : mw_C l yy_Es_size bb_Es_size 1 (Option.some Jvm.ClassFile.FieldType.int) 1 20 0 0 D z M [.ref d] (fun v M' => v = some (.int (nI k)) ∧ M' = M) := by
  refine mw_of (by decide) (Nat.le_of_ble_eq_true rfl) ?_
  intro p e s m below meth c ls E hr hk hnm hM hl
  have hx := E.x
  have hb := E.b
  have E : mw_E p m c bb_Es_size 1 s _ D z "IdentityIssuer$Entries" := E
  have hl : lv_has ls 1 [(0, .ref d)] := hl
  have hS : va_S (mw_A z) s.heap s.heap [] := va_S.rf
  refine lv_aload_n hx hb dd_Es_size_0 rfl (lv_at hl 0 rfl) ?_
  refine gf_Es_12 E hM wd rfl dd_Es_size_1 ?_
  refine mw_V (As := []) (rest := []) E (cc_AL_size l D z (M) el ar (k) mo wc (by omega)) ky_AL_size kv_AL_size tw_Es_18 hM hS wc rfl rfl rfl hl.1 rfl (Nat.le_of_ble_eq_true rfl) dd_Es_size_4 (by decide) (by decide) (fun v M1 H locs hp hM hS => ?_)
  obtain ⟨rfl, hq⟩ := hp
  have hq := hq.symm
  subst hq
  refine W.eq (g2 := F0 m 7 ls [.int (nI k)]) rfl ?_
  refine mr_i E hr hk hM hS (by decide) (by decide) ?_ dd_Es_size_7
  exact ⟨rfl, rfl⟩
theorem cc_Es_isFull (l : Launch) (D : va_G) (z : Nat) (M : mw_M) (d el ar k mk : Nat) (mo : Int32) (wd : M d = some (.inr (3, [.ref el, .int (nI mk)]))) (wc : M el = some (.inr (4, [.ref ar, .int (nI k), .int (mo)]))) (hk0 : k < 2 ^ 31) (hmk : mk < 2 ^ 31) : mw_C l yy_Es_isFull bb_Es_isFull 1 (Option.some Jvm.ClassFile.FieldType.boolean) 1 20 0 0 D z M [.ref d] (fun v M' => v = some (.int (zI (decide (60 ≤ mk) || decide (12 ≤ k)))) ∧ M' = M) := by
  refine mw_of (by decide) (Nat.le_of_ble_eq_true rfl) ?_
  intro p e s m below meth c ls E hr hk hnm hM hl
  have hx := E.x
  have hb := E.b
  have E : mw_E p m c bb_Es_isFull 1 s _ D z "IdentityIssuer$Entries" := E
  have hl : lv_has ls 1 [(0, .ref d)] := hl
  have hS : va_S (mw_A z) s.heap s.heap [] := va_S.rf
  refine lv_aload_n hx hb dd_Es_isFull_0 rfl (lv_at hl 0 rfl) ?_
  refine gf_Es_28 E hM wd rfl dd_Es_isFull_1 ?_
  refine lv_bipush (v := nI 60) hx hb dd_Es_isFull_4 (by decide) ?_
  refine lv_icmp_ge (tgt := 21) hx hb dd_Es_isFull_6 (by decide) (fun h6 => ?_) (fun h6 => ?_)
  ·
    rw [nI_leI (by omega) (by omega)] at h6
    refine lv_iconst (v := nI 1) hx hb dd_Es_isFull_21 (by decide) ?_
    refine lv_goto (tgt := 26) hx hb dd_Es_isFull_22 (by decide) ?_
    refine mr_z E hr hk hM hS (by decide) (by decide) (rfl) ?_ dd_Es_isFull_26
    exact ⟨by rw [zI_t (by rw [decide_eq_true h6]; rfl)]; rfl, rfl⟩
  ·
    rw [nI_leI (by omega) (by omega)] at h6
    refine lv_aload_n hx hb dd_Es_isFull_9 rfl (lv_at hl 0 rfl) ?_
    refine gf_Es_12 E hM wd rfl dd_Es_isFull_10 ?_
    refine mw_V (As := []) (rest := []) E (cc_AL_size l D z (M) el ar (k) mo wc (by omega)) ky_AL_size kv_AL_size tw_Es_18 hM hS wc rfl rfl rfl hl.1 rfl (Nat.le_of_ble_eq_true rfl) dd_Es_isFull_13 (by decide) (by decide) (fun v M1 H locs hp hM hS => ?_)
    obtain ⟨rfl, hq⟩ := hp
    have hq := hq.symm
    subst hq
    refine W.eq (g2 := F0 m 16 ls [.int (nI k)]) rfl ?_
    refine lv_bipush (v := nI 12) hx hb dd_Es_isFull_16 (by decide) ?_
    refine lv_icmp_lt (tgt := 25) hx hb dd_Es_isFull_18 (by decide) (fun h18 => ?_) (fun h18 => ?_)
    ·
      rw [nI_ltI (by omega) (by omega)] at h18
      refine lv_iconst (v := nI 0) hx hb dd_Es_isFull_25 (by decide) ?_
      refine mr_z E hr hk hM hS (by decide) (by decide) (rfl) ?_ dd_Es_isFull_26
      exact ⟨by rw [zI_f (by rw [decide_eq_false (by omega), decide_eq_false (by omega)]; rfl)]; rfl, rfl⟩
    ·
      rw [nI_ltI (by omega) (by omega)] at h18
      refine lv_iconst (v := nI 1) hx hb dd_Es_isFull_21 (by decide) ?_
      refine lv_goto (tgt := 26) hx hb dd_Es_isFull_22 (by decide) ?_
      refine mr_z E hr hk hM hS (by decide) (by decide) (rfl) ?_ dd_Es_isFull_26
      exact ⟨by rw [zI_t (by rw [decide_eq_true (show 12 ≤ k by omega), Bool.or_true])]; rfl, rfl⟩
theorem cc_Id_isFull (l : Launch) (D : va_G) (z : Nat) (M : mw_M) (d t le de ic : Nat) (wd : M d = some (.inr (2, [.ref t, .ref le, .ref de, .int (nI ic)]))) (hic : ic < 2 ^ 31) : mw_C l yy_Id_isFull bb_Id_isFull 1 (Option.some Jvm.ClassFile.FieldType.boolean) 0 0 0 0 D z M [.ref d] (fun v M' => v = some (.int (zI (decide (12 ≤ ic)))) ∧ M' = M) := by
  refine mw_of (by decide) (Nat.le_of_ble_eq_true rfl) ?_
  intro p e s m below meth c ls E hr hk hnm hM hl
  have hx := E.x
  have hb := E.b
  have E : mw_E p m c bb_Id_isFull 1 s _ D z "IdentityIssuer$Ids" := E
  have hl : lv_has ls 1 [(0, .ref d)] := hl
  have hS : va_S (mw_A z) s.heap s.heap [] := va_S.rf
  refine lv_aload_n hx hb dd_Id_isFull_0 rfl (lv_at hl 0 rfl) ?_
  refine gf_Id_65 E hM wd rfl dd_Id_isFull_1 ?_
  refine lv_bipush (v := nI 12) hx hb dd_Id_isFull_4 (by decide) ?_
  refine lv_icmp_lt (tgt := 13) hx hb dd_Id_isFull_6 (by decide) (fun h6 => ?_) (fun h6 => ?_)
  ·
    rw [nI_ltI (by omega) (by omega)] at h6
    refine lv_iconst (v := nI 0) hx hb dd_Id_isFull_13 (by decide) ?_
    refine mr_z E hr hk hM hS (by decide) (by decide) (rfl) ?_ dd_Id_isFull_14
    exact ⟨by rw [zI_f (decide_eq_false (by omega))]; rfl, rfl⟩
  ·
    rw [nI_ltI (by omega) (by omega)] at h6
    refine lv_iconst (v := nI 1) hx hb dd_Id_isFull_9 (by decide) ?_
    refine lv_goto (tgt := 14) hx hb dd_Id_isFull_10 (by decide) ?_
    refine mr_z E hr hk hM hS (by decide) (by decide) (rfl) ?_ dd_Id_isFull_14
    exact ⟨by rw [zI_t (decide_eq_true (by omega))]; rfl, rfl⟩
