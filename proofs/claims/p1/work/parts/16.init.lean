/-! constructors -/
theorem cc_By_init (l : Launch) (D : va_G) (z : Nat) (M : mw_M) (b : Nat) (L0 : List Nat) (hA : mn_l (b :: L0) M) (wb : M b = some (.inr (1, [.null, .int 0]))) : mw_C l yy_By_init bb_By_init 1 (Option.none : Option Jvm.ClassFile.FieldType) 1 20 1 100 D z M [.ref b] (fun v M' => v = none ∧ ∃ r, M' b = some (.inr (1, [.ref r, .int (nI 0)])) ∧ M' r = some (.inl (D.1 100, 100, .inl (fun _ => 0))) ∧ mn_l (r :: (b :: L0)) M' ∧ mw_fr (fun q => q ∉ L0) M M') := by
  refine mw_of (by decide) (Nat.le_of_ble_eq_true rfl) ?_
  intro p e s m below meth c ls E hr hk hnm hM hl
  have hx := E.x
  have hb := E.b
  have E : mw_E p m c bb_By_init 1 s _ D z "IdentityIssuer$Bytes" := E
  have hl : lv_has ls 1 [(0, .ref b)] := hl
  have hS : va_S (mw_A z) s.heap s.heap [] := va_S.rf
  have hF : mw_fr (fun q => q ∉ L0) M M := mw_fr.rf
  refine lv_aload_n hx hb dd_By_init_0 rfl (lv_at hl 0 rfl) ?_
  refine W.objInit hx hb E.o (E.t _ tw_By_3) (E.t _ kw_Ob_im) (E.t _ kw_Ob_code) rfl (by rw [E.ml]; exact hl.1) rfl dd_By_init_1 (Nat.le_of_ble_eq_true rfl) (Nat.le_of_ble_eq_true rfl) ?_
  refine W.eq (g2 := F0 m 4 ls []) rfl ?_
  refine lv_aload_n hx hb dd_By_init_4 rfl (lv_at hl 0 rfl) ?_
  refine lv_bipush (v := nI 100) hx hb dd_By_init_5 (by decide) ?_
  refine mw_newa (atype := .int) (ty := .int) (a0 := (100, .inl (fun _ => 0))) hx hb (E.t _ tw_ac_int) rfl E.K hM E.zz hS 0 rfl (fun _ => rfl) (by decide) (by decide) (by decide) (by decide) (by decide) dd_By_init_7 (fun q7 H hq7 hM hS => ?_)
  have hM : mw_at D mg_cl z (va_up M q7 (some (.inl (D.1 100, 100, .inl (fun _ => 0))))) H := hM
  obtain ⟨M1, hM1⟩ : ∃ M9 : mw_M, M9 = va_up M q7 (some (.inl (D.1 100, 100, .inl (fun _ => 0)))) := ⟨_, rfl⟩
  rw [← hM1] at hM
  have wb := mw_un hM1 hq7 wb
  have w_q7 := mw_us hM1
  have hF := mw_fn hM1 hq7 hF
  have hA := mn_nn hM1 hq7 hA
  refine pf_By_9 E hnm hM hS wb (Nat.le_of_ble_eq_true rfl) dd_By_init_9 (fun H locs hM hS => ?_)
  have hM : mw_at D mg_cl z (va_up M1 b (some (.inr (1, [.ref q7, .int (0)])))) H := hM
  obtain ⟨M1, hM1⟩ : ∃ M9 : mw_M, M9 = va_up M1 b (some (.inr (1, [.ref q7, .int (0)]))) := ⟨_, rfl⟩
  rw [← hM1] at hM
  have w_q7 := mw_uu hM1 w_q7 (mw_ne w_q7 wb (fun q => by cases q))
  have wb := mw_us hM1
  have hA := mn_uu hM1 hA
  have hF := mw_fu hM1 hF (mn_out (pre := q7 :: (b :: ([]))) hA 1 rfl)
  refine mr_v E hr hk hM hS (by decide) (by decide) ?_ dd_By_init_12
  exact ⟨rfl, q7, wb, w_q7, hA, hF⟩
theorem cc_Ky_init (l : Launch) (D : va_G) (z : Nat) (M : mw_M) (b : Nat) (L0 : List Nat) (x : Int32) (hA : mn_l (b :: L0) M) (wb : M b = some (.inr (8, [.int 0, .null, .int 0, .int 0, .int 0]))) : mw_C l yy_Ky_init bb_Ky_init 2 (Option.none : Option Jvm.ClassFile.FieldType) 1 20 1 4 D z M [.ref b, .int (x)] (fun v M' => v = none ∧ ∃ r, M' b = some (.inr (8, [.int x, .ref r, .int (nI 1), .int 0, .int (-1)])) ∧ M' r = some (.inl (D.1 100, 4, .inl (fun _ => 0))) ∧ mn_l (r :: (b :: L0)) M' ∧ mw_fr (fun q => q ∉ L0) M M') := by
  refine mw_of (by decide) (Nat.le_of_ble_eq_true rfl) ?_
  intro p e s m below meth c ls E hr hk hnm hM hl
  have hx := E.x
  have hb := E.b
  have E : mw_E p m c bb_Ky_init 2 s _ D z "IdentityIssuer$Keys" := E
  have hl : lv_has ls 2 [(0, .ref b), (1, .int (x))] := hl
  have hS : va_S (mw_A z) s.heap s.heap [] := va_S.rf
  have hF : mw_fr (fun q => q ∉ L0) M M := mw_fr.rf
  refine lv_aload_n hx hb dd_Ky_init_0 rfl (lv_at hl 0 rfl) ?_
  refine W.objInit hx hb E.o (E.t _ tw_Ky_3) (E.t _ kw_Ob_im) (E.t _ kw_Ob_code) rfl (by rw [E.ml]; exact hl.1) rfl dd_Ky_init_1 (Nat.le_of_ble_eq_true rfl) (Nat.le_of_ble_eq_true rfl) ?_
  refine W.eq (g2 := F0 m 4 ls []) rfl ?_
  refine lv_aload_n hx hb dd_Ky_init_4 rfl (lv_at hl 0 rfl) ?_
  refine lv_iconst (v := nI 4) hx hb dd_Ky_init_5 (by decide) ?_
  refine mw_newa (atype := .int) (ty := .int) (a0 := (4, .inl (fun _ => 0))) hx hb (E.t _ tw_ac_int) rfl E.K hM E.zz hS 0 rfl (fun _ => rfl) (by decide) (by decide) (by decide) (by decide) (by decide) dd_Ky_init_6 (fun q6 H hq6 hM hS => ?_)
  have hM : mw_at D mg_cl z (va_up M q6 (some (.inl (D.1 100, 4, .inl (fun _ => 0))))) H := hM
  obtain ⟨M1, hM1⟩ : ∃ M9 : mw_M, M9 = va_up M q6 (some (.inl (D.1 100, 4, .inl (fun _ => 0)))) := ⟨_, rfl⟩
  rw [← hM1] at hM
  have wb := mw_un hM1 hq6 wb
  have w_q6 := mw_us hM1
  have hF := mw_fn hM1 hq6 hF
  have hA := mn_nn hM1 hq6 hA
  refine pf_Ky_11 E hnm hM hS wb (Nat.le_of_ble_eq_true rfl) dd_Ky_init_8 (fun H locs hM hS => ?_)
  have hM : mw_at D mg_cl z (va_up M1 b (some (.inr (8, [.int (0), .ref q6, .int (0), .int (0), .int (0)])))) H := hM
  obtain ⟨M1, hM1⟩ : ∃ M9 : mw_M, M9 = va_up M1 b (some (.inr (8, [.int (0), .ref q6, .int (0), .int (0), .int (0)]))) := ⟨_, rfl⟩
  rw [← hM1] at hM
  have w_q6 := mw_uu hM1 w_q6 (mw_ne w_q6 wb (fun q => by cases q))
  have wb := mw_us hM1
  have hA := mn_uu hM1 hA
  have hF := mw_fu hM1 hF (mn_out (pre := q6 :: (b :: ([]))) hA 1 rfl)
  refine lv_aload_n hx hb dd_Ky_init_11 rfl (lv_at hl 0 rfl) ?_
  refine lv_iconst (v := nI 1) hx hb dd_Ky_init_12 (by decide) ?_
  refine pf_Ky_15 E hM hS wb (Nat.le_of_ble_eq_true rfl) dd_Ky_init_13 (fun H locs hM hS => ?_)
  have hM : mw_at D mg_cl z (va_up M1 b (some (.inr (8, [.int (0), .ref q6, .int (nI 1), .int (0), .int (0)])))) H := hM
  obtain ⟨M1, hM1⟩ : ∃ M9 : mw_M, M9 = va_up M1 b (some (.inr (8, [.int (0), .ref q6, .int (nI 1), .int (0), .int (0)]))) := ⟨_, rfl⟩
  rw [← hM1] at hM
  have w_q6 := mw_uu hM1 w_q6 (mw_ne w_q6 wb (fun q => by cases q))
  have wb := mw_us hM1
  have hA := mn_uu hM1 hA
  have hF := mw_fu hM1 hF (mn_out (pre := q6 :: (b :: ([]))) hA 1 rfl)
  refine lv_aload_n hx hb dd_Ky_init_16 rfl (lv_at hl 0 rfl) ?_
  refine lv_iconst (v := -1) hx hb dd_Ky_init_17 (by decide) ?_
  refine pf_Ky_19 E hM hS wb (Nat.le_of_ble_eq_true rfl) dd_Ky_init_18 (fun H locs hM hS => ?_)
  have hM : mw_at D mg_cl z (va_up M1 b (some (.inr (8, [.int (0), .ref q6, .int (nI 1), .int (0), .int (-1)])))) H := hM
  obtain ⟨M1, hM1⟩ : ∃ M9 : mw_M, M9 = va_up M1 b (some (.inr (8, [.int (0), .ref q6, .int (nI 1), .int (0), .int (-1)]))) := ⟨_, rfl⟩
  rw [← hM1] at hM
  have w_q6 := mw_uu hM1 w_q6 (mw_ne w_q6 wb (fun q => by cases q))
  have wb := mw_us hM1
  have hA := mn_uu hM1 hA
  have hF := mw_fu hM1 hF (mn_out (pre := q6 :: (b :: ([]))) hA 1 rfl)
  refine lv_aload_n hx hb dd_Ky_init_21 rfl (lv_at hl 0 rfl) ?_
  refine lv_iload_n hx hb dd_Ky_init_22 rfl (lv_at hl 1 rfl) ?_
  refine pf_Ky_22 E hnm hM hS wb (Nat.le_of_ble_eq_true rfl) dd_Ky_init_23 (fun H locs hM hS => ?_)
  have hM : mw_at D mg_cl z (va_up M1 b (some (.inr (8, [.int (x), .ref q6, .int (nI 1), .int (0), .int (-1)])))) H := hM
  obtain ⟨M1, hM1⟩ : ∃ M9 : mw_M, M9 = va_up M1 b (some (.inr (8, [.int (x), .ref q6, .int (nI 1), .int (0), .int (-1)]))) := ⟨_, rfl⟩
  rw [← hM1] at hM
  have w_q6 := mw_uu hM1 w_q6 (mw_ne w_q6 wb (fun q => by cases q))
  have wb := mw_us hM1
  have hA := mn_uu hM1 hA
  have hF := mw_fu hM1 hF (mn_out (pre := q6 :: (b :: ([]))) hA 1 rfl)
  refine mr_v E hr hk hM hS (by decide) (by decide) ?_ dd_Ky_init_26
  exact ⟨rfl, q6, wb, w_q6, hA, hF⟩
theorem cc_Es_init (l : Launch) (D : va_G) (z : Nat) (M : mw_M) (b : Nat) (L0 : List Nat) (hA : mn_l (b :: L0) M) (wb : M b = some (.inr (3, [.null, .int (0)]))) : mw_C l yy_Es_init bb_Es_init 1 (Option.none : Option Jvm.ClassFile.FieldType) 4 80 1 3 D z M [.ref b] (fun v M' => v = none ∧ ∃ r, M' b = some (.inr (3, [.ref r, .int (0)])) ∧ M' r = some (.inr (4, [.ref (D.2 200 0), .int (nI 0), .int (nI 0)])) ∧ mn_l (r :: (b :: L0)) M' ∧ mw_fr (fun q => q ∉ L0) M M') := by
  refine mw_of (by decide) (Nat.le_of_ble_eq_true rfl) ?_
  intro p e s m below meth c ls E hr hk hnm hM hl
  have hx := E.x
  have hb := E.b
  have E : mw_E p m c bb_Es_init 1 s _ D z "IdentityIssuer$Entries" := E
  have hl : lv_has ls 1 [(0, .ref b)] := hl
  have hS : va_S (mw_A z) s.heap s.heap [] := va_S.rf
  have hF : mw_fr (fun q => q ∉ L0) M M := mw_fr.rf
  refine lv_aload_n hx hb dd_Es_init_0 rfl (lv_at hl 0 rfl) ?_
  refine W.objInit hx hb E.o (E.t _ tw_Es_3) (E.t _ kw_Ob_im) (E.t _ kw_Ob_code) rfl (by rw [E.ml]; exact hl.1) rfl dd_Es_init_1 (Nat.le_of_ble_eq_true rfl) (Nat.le_of_ble_eq_true rfl) ?_
  refine W.eq (g2 := F0 m 4 ls []) rfl ?_
  refine lv_aload_n hx hb dd_Es_init_4 rfl (lv_at hl 0 rfl) ?_
  refine mw_new (C := "java/util/ArrayList") (T := ff_AL) (N := 3) (ci := 4) (fs := [.null, .int (0), .int (0)]) hx hb E.t in_AL tt_AL ty_AL E.o (E.t _ tw_Es_9) (E.t _ tw_inst_AL) (E.t _ tw_ini_AL) E.K hM E.zz hS rfl (by decide +kernel) (by decide) (by decide) dd_Es_init_5 (fun q5 H hq5 hM hS => ?_)
  have hM : mw_at D mg_cl z (va_up M q5 (some (.inr (4, [.null, .int (0), .int (0)])))) H := hM
  obtain ⟨M1, hM1⟩ : ∃ M9 : mw_M, M9 = va_up M q5 (some (.inr (4, [.null, .int (0), .int (0)]))) := ⟨_, rfl⟩
  rw [← hM1] at hM
  have wb := mw_un hM1 hq5 wb
  have w_q5 := mw_us hM1
  have hF := mw_fn hM1 hq5 hF
  have hA := mn_nn hM1 hq5 hA
  refine lv_dup hx hb dd_Es_init_8 rfl ?_
  refine mw_I (As := []) (rest := [.ref q5, .ref b]) E (cc_AL_init l D z (M1) q5 w_q5) ky_AL_init kv_AL_init tw_Es_11 hM hS rfl hl.1 rfl (Nat.le_of_ble_eq_true rfl) dd_Es_init_9 (by decide) (by decide) (fun v M1 H locs hp hM hS => ?_)
  obtain ⟨rfl, wn_q5, hF2⟩ := hp
  have wb := hF2.at wb (mw_ne wb w_q5 (fun q => by cases q))
  have hF := hF.trans (hF2.mono (fun q9 h9 => by rw [h9]; exact mn_out (pre := q5 :: (b :: ([]))) hA 0 rfl))
  have hA := mn_fr hA hF2
  have w_q5 := wn_q5
  refine pf_Es_12 E hnm hM hS wb (Nat.le_of_ble_eq_true rfl) dd_Es_init_12 (fun H locs hM hS => ?_)
  have hM : mw_at D mg_cl z (va_up M1 b (some (.inr (3, [.ref q5, .int (0)])))) H := hM
  obtain ⟨M1, hM1⟩ : ∃ M9 : mw_M, M9 = va_up M1 b (some (.inr (3, [.ref q5, .int (0)]))) := ⟨_, rfl⟩
  rw [← hM1] at hM
  have w_q5 := mw_uu hM1 w_q5 (mw_ne w_q5 wb (fun q => by cases q))
  have wb := mw_us hM1
  have hA := mn_uu hM1 hA
  have hF := mw_fu hM1 hF (mn_out (pre := q5 :: (b :: ([]))) hA 1 rfl)
  refine mr_v E hr hk hM hS (by decide) (by decide) ?_ dd_Es_init_15
  exact ⟨rfl, q5, wb, w_q5, hA, hF⟩
theorem cc_Rs_init (l : Launch) (D : va_G) (z : Nat) (M : mw_M) (b : Nat) (L0 : List Nat) (hA : mn_l (b :: L0) M) (wb : M b = some (.inr (5, [.null, .int (0), .int (0), .int (0)]))) : mw_C l yy_Rs_init bb_Rs_init 1 (Option.none : Option Jvm.ClassFile.FieldType) 4 80 1 3 D z M [.ref b] (fun v M' => v = none ∧ ∃ r, M' b = some (.inr (5, [.ref r, .int (0), .int (0), .int (0)])) ∧ M' r = some (.inr (4, [.ref (D.2 200 0), .int (nI 0), .int (nI 0)])) ∧ mn_l (r :: (b :: L0)) M' ∧ mw_fr (fun q => q ∉ L0) M M') := by
  refine mw_of (by decide) (Nat.le_of_ble_eq_true rfl) ?_
  intro p e s m below meth c ls E hr hk hnm hM hl
  have hx := E.x
  have hb := E.b
  have E : mw_E p m c bb_Rs_init 1 s _ D z "IdentityIssuer$Response" := E
  have hl : lv_has ls 1 [(0, .ref b)] := hl
  have hS : va_S (mw_A z) s.heap s.heap [] := va_S.rf
  have hF : mw_fr (fun q => q ∉ L0) M M := mw_fr.rf
  refine lv_aload_n hx hb dd_Rs_init_0 rfl (lv_at hl 0 rfl) ?_
  refine W.objInit hx hb E.o (E.t _ tw_Rs_3) (E.t _ kw_Ob_im) (E.t _ kw_Ob_code) rfl (by rw [E.ml]; exact hl.1) rfl dd_Rs_init_1 (Nat.le_of_ble_eq_true rfl) (Nat.le_of_ble_eq_true rfl) ?_
  refine W.eq (g2 := F0 m 4 ls []) rfl ?_
  refine lv_aload_n hx hb dd_Rs_init_4 rfl (lv_at hl 0 rfl) ?_
  refine mw_new (C := "java/util/ArrayList") (T := ff_AL) (N := 3) (ci := 4) (fs := [.null, .int (0), .int (0)]) hx hb E.t in_AL tt_AL ty_AL E.o (E.t _ tw_Rs_9) (E.t _ tw_inst_AL) (E.t _ tw_ini_AL) E.K hM E.zz hS rfl (by decide +kernel) (by decide) (by decide) dd_Rs_init_5 (fun q5 H hq5 hM hS => ?_)
  have hM : mw_at D mg_cl z (va_up M q5 (some (.inr (4, [.null, .int (0), .int (0)])))) H := hM
  obtain ⟨M1, hM1⟩ : ∃ M9 : mw_M, M9 = va_up M q5 (some (.inr (4, [.null, .int (0), .int (0)]))) := ⟨_, rfl⟩
  rw [← hM1] at hM
  have wb := mw_un hM1 hq5 wb
  have w_q5 := mw_us hM1
  have hF := mw_fn hM1 hq5 hF
  have hA := mn_nn hM1 hq5 hA
  refine lv_dup hx hb dd_Rs_init_8 rfl ?_
  refine mw_I (As := []) (rest := [.ref q5, .ref b]) E (cc_AL_init l D z (M1) q5 w_q5) ky_AL_init kv_AL_init tw_Rs_11 hM hS rfl hl.1 rfl (Nat.le_of_ble_eq_true rfl) dd_Rs_init_9 (by decide) (by decide) (fun v M1 H locs hp hM hS => ?_)
  obtain ⟨rfl, wn_q5, hF2⟩ := hp
  have wb := hF2.at wb (mw_ne wb w_q5 (fun q => by cases q))
  have hF := hF.trans (hF2.mono (fun q9 h9 => by rw [h9]; exact mn_out (pre := q5 :: (b :: ([]))) hA 0 rfl))
  have hA := mn_fr hA hF2
  have w_q5 := wn_q5
  refine pf_Rs_12 E hnm hM hS wb (Nat.le_of_ble_eq_true rfl) dd_Rs_init_12 (fun H locs hM hS => ?_)
  have hM : mw_at D mg_cl z (va_up M1 b (some (.inr (5, [.ref q5, .int (0), .int (0), .int (0)])))) H := hM
  obtain ⟨M1, hM1⟩ : ∃ M9 : mw_M, M9 = va_up M1 b (some (.inr (5, [.ref q5, .int (0), .int (0), .int (0)]))) := ⟨_, rfl⟩
  rw [← hM1] at hM
  have w_q5 := mw_uu hM1 w_q5 (mw_ne w_q5 wb (fun q => by cases q))
  have wb := mw_us hM1
  have hA := mn_uu hM1 hA
  have hF := mw_fu hM1 hF (mn_out (pre := q5 :: (b :: ([]))) hA 1 rfl)
  refine mr_v E hr hk hM hS (by decide) (by decide) ?_ dd_Rs_init_15
  exact ⟨rfl, q5, wb, w_q5, hA, hF⟩
theorem cc_Rd_init (l : Launch) (D : va_G) (z : Nat) (M : mw_M) (b : Nat) (L0 : List Nat) (hA : mn_l (b :: L0) M) (wb : M b = some (.inr (6, [.null, .int (0), .int (0), .int (0), .int (0), .int (0), .int (0), .int (0), .int (0)]))) : mw_C l yy_Rd_init bb_Rd_init 1 (Option.none : Option Jvm.ClassFile.FieldType) 2 40 2 102 D z M [.ref b] (fun v M' => v = none ∧ ∃ r y, M' b = some (.inr (6, [.ref y, .int (0), .int (0), .int (0), .int (0), .int (0), .int (0), .int (0), .int (0)])) ∧ M' r = some (.inl (D.1 100, 100, .inl (fun _ => 0))) ∧ M' y = some (.inr (1, [.ref r, .int (nI 0)])) ∧ mn_l (r :: (y :: (b :: L0))) M' ∧ mw_fr (fun q => q ∉ L0) M M') := by
  refine mw_of (by decide) (Nat.le_of_ble_eq_true rfl) ?_
  intro p e s m below meth c ls E hr hk hnm hM hl
  have hx := E.x
  have hb := E.b
  have E : mw_E p m c bb_Rd_init 1 s _ D z "IdentityIssuer$Reader" := E
  have hl : lv_has ls 1 [(0, .ref b)] := hl
  have hS : va_S (mw_A z) s.heap s.heap [] := va_S.rf
  have hF : mw_fr (fun q => q ∉ L0) M M := mw_fr.rf
  refine lv_aload_n hx hb dd_Rd_init_0 rfl (lv_at hl 0 rfl) ?_
  refine W.objInit hx hb E.o (E.t _ tw_Rd_3) (E.t _ kw_Ob_im) (E.t _ kw_Ob_code) rfl (by rw [E.ml]; exact hl.1) rfl dd_Rd_init_1 (Nat.le_of_ble_eq_true rfl) (Nat.le_of_ble_eq_true rfl) ?_
  refine W.eq (g2 := F0 m 4 ls []) rfl ?_
  refine lv_aload_n hx hb dd_Rd_init_4 rfl (lv_at hl 0 rfl) ?_
  refine mw_new (C := "IdentityIssuer$Bytes") (T := ff_By) (N := 2) (ci := 1) (fs := [.null, .int (0)]) hx hb E.t in_By tt_By ty_By E.o (E.t _ tw_Rd_9) (E.t _ tw_inst_By) (E.t _ tw_ini_By) E.K hM E.zz hS rfl (by decide +kernel) (by decide) (by decide) dd_Rd_init_5 (fun q5 H hq5 hM hS => ?_)
  have hM : mw_at D mg_cl z (va_up M q5 (some (.inr (1, [.null, .int (0)])))) H := hM
  obtain ⟨M1, hM1⟩ : ∃ M9 : mw_M, M9 = va_up M q5 (some (.inr (1, [.null, .int (0)]))) := ⟨_, rfl⟩
  rw [← hM1] at hM
  have wb := mw_un hM1 hq5 wb
  have w_q5 := mw_us hM1
  have hF := mw_fn hM1 hq5 hF
  have hA := mn_nn hM1 hq5 hA
  refine lv_dup hx hb dd_Rd_init_8 rfl ?_
  refine mw_IN (As := []) (rest := [.ref q5, .ref b]) E (cc_By_init l D z (M1) q5 (b :: (L0)) hA w_q5) ky_By_init kv_By_init tw_Rd_11 hM hS rfl hl.1 rfl (Nat.le_of_ble_eq_true rfl) dd_Rd_init_9 (by decide) (by decide) (fun v M1 H locs hp hM hS => ?_)
  obtain ⟨rfl, r9, w_q5, w_r9, hA, hF2⟩ := hp
  have wb := hF2.at wb (mn_in 0 rfl)
  have hF := hF.trans (hF2.mono (mn_suf (pre := b :: ([]))))
  have w_q5 : M1 q5 = some (.inr (1, [.ref r9, .int (nI 0)])) := w_q5
  refine pf_Rd_12 E hM hS wb (Nat.le_of_ble_eq_true rfl) dd_Rd_init_12 (fun H locs hM hS => ?_)
  have hM : mw_at D mg_cl z (va_up M1 b (some (.inr (6, [.ref q5, .int (0), .int (0), .int (0), .int (0), .int (0), .int (0), .int (0), .int (0)])))) H := hM
  obtain ⟨M1, hM1⟩ : ∃ M9 : mw_M, M9 = va_up M1 b (some (.inr (6, [.ref q5, .int (0), .int (0), .int (0), .int (0), .int (0), .int (0), .int (0), .int (0)]))) := ⟨_, rfl⟩
  rw [← hM1] at hM
  have w_q5 := mw_uu hM1 w_q5 (mw_ne w_q5 wb (fun q => by cases q))
  have w_r9 := mw_uu hM1 w_r9 (mw_ne w_r9 wb (fun q => by cases q))
  have wb := mw_us hM1
  have hA := mn_uu hM1 hA
  have hF := mw_fu hM1 hF (mn_out (pre := r9 :: (q5 :: (b :: ([])))) hA 2 rfl)
  refine mr_v E hr hk hM hS (by decide) (by decide) ?_ dd_Rd_init_15
  exact ⟨rfl, r9, q5, wb, w_r9, w_q5, hA, hF⟩
theorem cc_Wr_init (l : Launch) (D : va_G) (z : Nat) (M : mw_M) (b : Nat) (L0 : List Nat) (hA : mn_l (b :: L0) M) (wb : M b = some (.inr (7, [.null, .int (0)]))) : mw_C l yy_Wr_init bb_Wr_init 1 (Option.none : Option Jvm.ClassFile.FieldType) 2 40 2 102 D z M [.ref b] (fun v M' => v = none ∧ ∃ r y, M' b = some (.inr (7, [.ref y, .int (0)])) ∧ M' r = some (.inl (D.1 100, 100, .inl (fun _ => 0))) ∧ M' y = some (.inr (1, [.ref r, .int (nI 0)])) ∧ mn_l (r :: (y :: (b :: L0))) M' ∧ mw_fr (fun q => q ∉ L0) M M') := by
  refine mw_of (by decide) (Nat.le_of_ble_eq_true rfl) ?_
  intro p e s m below meth c ls E hr hk hnm hM hl
  have hx := E.x
  have hb := E.b
  have E : mw_E p m c bb_Wr_init 1 s _ D z "IdentityIssuer$Writer" := E
  have hl : lv_has ls 1 [(0, .ref b)] := hl
  have hS : va_S (mw_A z) s.heap s.heap [] := va_S.rf
  have hF : mw_fr (fun q => q ∉ L0) M M := mw_fr.rf
  refine lv_aload_n hx hb dd_Wr_init_0 rfl (lv_at hl 0 rfl) ?_
  refine W.objInit hx hb E.o (E.t _ tw_Wr_3) (E.t _ kw_Ob_im) (E.t _ kw_Ob_code) rfl (by rw [E.ml]; exact hl.1) rfl dd_Wr_init_1 (Nat.le_of_ble_eq_true rfl) (Nat.le_of_ble_eq_true rfl) ?_
  refine W.eq (g2 := F0 m 4 ls []) rfl ?_
  refine lv_aload_n hx hb dd_Wr_init_4 rfl (lv_at hl 0 rfl) ?_
  refine mw_new (C := "IdentityIssuer$Bytes") (T := ff_By) (N := 2) (ci := 1) (fs := [.null, .int (0)]) hx hb E.t in_By tt_By ty_By E.o (E.t _ tw_Wr_9) (E.t _ tw_inst_By) (E.t _ tw_ini_By) E.K hM E.zz hS rfl (by decide +kernel) (by decide) (by decide) dd_Wr_init_5 (fun q5 H hq5 hM hS => ?_)
  have hM : mw_at D mg_cl z (va_up M q5 (some (.inr (1, [.null, .int (0)])))) H := hM
  obtain ⟨M1, hM1⟩ : ∃ M9 : mw_M, M9 = va_up M q5 (some (.inr (1, [.null, .int (0)]))) := ⟨_, rfl⟩
  rw [← hM1] at hM
  have wb := mw_un hM1 hq5 wb
  have w_q5 := mw_us hM1
  have hF := mw_fn hM1 hq5 hF
  have hA := mn_nn hM1 hq5 hA
  refine lv_dup hx hb dd_Wr_init_8 rfl ?_
  refine mw_IN (As := []) (rest := [.ref q5, .ref b]) E (cc_By_init l D z (M1) q5 (b :: (L0)) hA w_q5) ky_By_init kv_By_init tw_Wr_11 hM hS rfl hl.1 rfl (Nat.le_of_ble_eq_true rfl) dd_Wr_init_9 (by decide) (by decide) (fun v M1 H locs hp hM hS => ?_)
  obtain ⟨rfl, r9, w_q5, w_r9, hA, hF2⟩ := hp
  have wb := hF2.at wb (mn_in 0 rfl)
  have hF := hF.trans (hF2.mono (mn_suf (pre := b :: ([]))))
  have w_q5 : M1 q5 = some (.inr (1, [.ref r9, .int (nI 0)])) := w_q5
  refine pf_Wr_12 E hnm hM hS wb (Nat.le_of_ble_eq_true rfl) dd_Wr_init_12 (fun H locs hM hS => ?_)
  have hM : mw_at D mg_cl z (va_up M1 b (some (.inr (7, [.ref q5, .int (0)])))) H := hM
  obtain ⟨M1, hM1⟩ : ∃ M9 : mw_M, M9 = va_up M1 b (some (.inr (7, [.ref q5, .int (0)]))) := ⟨_, rfl⟩
  rw [← hM1] at hM
  have w_q5 := mw_uu hM1 w_q5 (mw_ne w_q5 wb (fun q => by cases q))
  have w_r9 := mw_uu hM1 w_r9 (mw_ne w_r9 wb (fun q => by cases q))
  have wb := mw_us hM1
  have hA := mn_uu hM1 hA
  have hF := mw_fu hM1 hF (mn_out (pre := r9 :: (q5 :: (b :: ([])))) hA 2 rfl)
  refine mr_v E hr hk hM hS (by decide) (by decide) ?_ dd_Wr_init_15
  exact ⟨rfl, r9, q5, wb, w_r9, w_q5, hA, hF⟩
