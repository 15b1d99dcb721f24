/-! Math, ArrayList: what needs no room to grow -/
theorem cc_Ac_init (l : Launch) (D : va_G) (z : Nat) (M : mw_M) (a : Nat)  : mw_C l yy_Ac_init bb_Ac_init 1 (Option.none : Option Jvm.ClassFile.FieldType) 1 20 0 0 D z M [.ref a] (fun v M' => v = none ∧ M' = M) := by
  refine mw_of (by decide) (Nat.le_of_ble_eq_true rfl) ?_
  intro p e s m below meth c ls E hr hk hnm hM hl
  have hx := E.x
  have hb := E.b
  have E : mw_E p m c bb_Ac_init 1 s _ D z "java/util/AbstractCollection" := E
  have hl : lv_has ls 1 [(0, .ref a)] := hl
  have hS : va_S (mw_A z) s.heap s.heap [] := va_S.rf
  refine lv_aload_n hx hb dd_Ac_init_0 rfl (lv_at hl 0 rfl) ?_
  refine W.objInit hx hb E.o (E.t _ tw_Ac_1) (E.t _ kw_Ob_im) (E.t _ kw_Ob_code) rfl (by rw [E.ml]; exact hl.1) rfl dd_Ac_init_1 (Nat.le_of_ble_eq_true rfl) (Nat.le_of_ble_eq_true rfl) ?_
  refine W.eq (g2 := F0 m 4 ls []) rfl ?_
  refine mr_v E hr hk hM hS (by decide) (by decide) ?_ dd_Ac_init_4
  exact ⟨rfl, rfl⟩
theorem cc_Ab_init (l : Launch) (D : va_G) (z : Nat) (M : mw_M) (a : Nat) (v0 : Value) (c0 m0 : Int32) (wa : M a = some (.inr (4, [v0, .int c0, .int m0]))) : mw_C l yy_Ab_init bb_Ab_init 1 (Option.none : Option Jvm.ClassFile.FieldType) 2 40 0 0 D z M [.ref a] (fun v M' => v = none ∧ M' a = some (.inr (4, [v0, .int c0, .int (nI 0)])) ∧ mw_fr (fun q => q = a) M M') := by
  refine mw_of (by decide) (Nat.le_of_ble_eq_true rfl) ?_
  intro p e s m below meth c ls E hr hk hnm hM hl
  have hx := E.x
  have hb := E.b
  have E : mw_E p m c bb_Ab_init 1 s _ D z "java/util/AbstractList" := E
  have hl : lv_has ls 1 [(0, .ref a)] := hl
  have hS : va_S (mw_A z) s.heap s.heap [] := va_S.rf
  have hF : mw_fr (fun q => q = a) M M := mw_fr.rf
  refine lv_aload_n hx hb dd_Ab_init_0 rfl (lv_at hl 0 rfl) ?_
  refine mw_I (As := []) (rest := []) E (cc_Ac_init l D z M a) ky_Ac_init kv_Ac_init tw_Ab_1 hM hS rfl hl.1 rfl (Nat.le_of_ble_eq_true rfl) dd_Ab_init_1 (by decide) (by decide) (fun v M1 H locs hp hM hS => ?_)
  obtain ⟨rfl, hq⟩ := hp
  have hq := hq.symm
  subst hq
  refine lv_aload_n hx hb dd_Ab_init_4 rfl (lv_at hl 0 rfl) ?_
  refine lv_iconst (v := nI 0) hx hb dd_Ab_init_5 (by decide) ?_
  refine pf_Ab_7 E hM hS wa (Nat.le_of_ble_eq_true rfl) dd_Ab_init_6 (fun H locs hM hS => ?_)
  have hM : mw_at D mg_cl z (va_up M a (some (.inr (4, [v0, .int (c0), .int (nI 0)])))) H := hM
  obtain ⟨M1, hM1⟩ : ∃ M9 : mw_M, M9 = va_up M a (some (.inr (4, [v0, .int (c0), .int (nI 0)]))) := ⟨_, rfl⟩
  rw [← hM1] at hM
  have wa := mw_us hM1
  have hF := mw_fu hM1 hF (rfl)
  refine mr_v E hr hk hM hS (by decide) (by decide) ?_ dd_Ab_init_9
  exact ⟨rfl, wa, hF⟩
theorem cc_AL_init (l : Launch) (D : va_G) (z : Nat) (M : mw_M) (a : Nat) (wa : M a = some (.inr (4, [.null, .int 0, .int 0]))) : mw_C l yy_AL_init bb_AL_init 1 (Option.none : Option Jvm.ClassFile.FieldType) 3 60 0 0 D z M [.ref a] (fun v M' => v = none ∧ M' a = some (.inr (4, [.ref (D.2 200 0), .int (nI 0), .int (nI 0)])) ∧ mw_fr (fun q => q = a) M M') := by
  refine mw_of (by decide) (Nat.le_of_ble_eq_true rfl) ?_
  intro p e s m below meth c ls E hr hk hnm hM hl
  have hx := E.x
  have hb := E.b
  have E : mw_E p m c bb_AL_init 1 s _ D z "java/util/ArrayList" := E
  have hl : lv_has ls 1 [(0, .ref a)] := hl
  have hS : va_S (mw_A z) s.heap s.heap [] := va_S.rf
  have hF : mw_fr (fun q => q = a) M M := mw_fr.rf
  refine lv_aload_n hx hb dd_AL_init_0 rfl (lv_at hl 0 rfl) ?_
  refine mw_I (As := []) (rest := []) E (cc_Ab_init l D z M a .null 0 0 wa) ky_Ab_init kv_Ab_init tw_AL_1 hM hS rfl hl.1 rfl (Nat.le_of_ble_eq_true rfl) dd_AL_init_1 (by decide) (by decide) (fun v M1 H locs hp hM hS => ?_)
  obtain ⟨rfl, wa, hF⟩ := hp
  have wa : M1 a = some (.inr (4, [.null, .int (nI 0), .int (nI 0)])) := wa
  refine lv_aload_n hx hb dd_AL_init_4 rfl (lv_at hl 0 rfl) ?_
  refine va_gets hx hb E.Z.1.1 hS E.o (E.t _ tw_AL_39) (fun _ h => h) dd_AL_init_5 ?_
  refine pf_AL_9 E hM hS wa (Nat.le_of_ble_eq_true rfl) dd_AL_init_8 (fun H locs hM hS => ?_)
  have hM : mw_at D mg_cl z (va_up M1 a (some (.inr (4, [.ref ((D.2 200 0)), .int (nI 0), .int (nI 0)])))) H := hM
  obtain ⟨M1, hM1⟩ : ∃ M9 : mw_M, M9 = va_up M1 a (some (.inr (4, [.ref ((D.2 200 0)), .int (nI 0), .int (nI 0)]))) := ⟨_, rfl⟩
  rw [← hM1] at hM
  have wa := mw_us hM1
  have hF := mw_fu hM1 hF (rfl)
  refine mr_v E hr hk hM hS (by decide) (by decide) ?_ dd_AL_init_11
  exact ⟨rfl, wa, hF⟩
theorem cc_AL_size (l : Launch) (D : va_G) (z : Nat) (M : mw_M) (a r : Nat) (k : Nat) (mo : Int32) (wa : M a = some (.inr (4, [.ref r, .int (nI k), .int mo]))) (hk0 : k < 2 ^ 31) : mw_C l yy_AL_size bb_AL_size 1 (Option.some Jvm.ClassFile.FieldType.int) 0 0 0 0 D z M [.ref a] (fun v M' => v = some (.int (nI k)) ∧ M' = M) := by
  refine mw_of (by decide) (Nat.le_of_ble_eq_true rfl) ?_
  intro p e s m below meth c ls E hr hk hnm hM hl
  have hx := E.x
  have hb := E.b
  have E : mw_E p m c bb_AL_size 1 s _ D z "java/util/ArrayList" := E
  have hl : lv_has ls 1 [(0, .ref a)] := hl
  have hS : va_S (mw_A z) s.heap s.heap [] := va_S.rf
  refine lv_aload_n hx hb dd_AL_size_0 rfl (lv_at hl 0 rfl) ?_
  refine gf_AL_48 E hM wa rfl dd_AL_size_1 ?_
  refine mr_i E hr hk hM hS (by decide) (by decide) ?_ dd_AL_size_4
  exact ⟨rfl, rfl⟩
theorem cc_AL_isEmpty (l : Launch) (D : va_G) (z : Nat) (M : mw_M) (a r : Nat) (k : Nat) (mo : Int32) (wa : M a = some (.inr (4, [.ref r, .int (nI k), .int mo]))) (hk0 : k < 2 ^ 31) : mw_C l yy_AL_isEmpty bb_AL_isEmpty 1 (Option.some Jvm.ClassFile.FieldType.boolean) 0 0 0 0 D z M [.ref a] (fun v M' => v = some (.int (if k = 0 then 1 else 0)) ∧ M' = M) := by
  refine mw_of (by decide) (Nat.le_of_ble_eq_true rfl) ?_
  intro p e s m below meth c ls E hr hk hnm hM hl
  have hx := E.x
  have hb := E.b
  have E : mw_E p m c bb_AL_isEmpty 1 s _ D z "java/util/ArrayList" := E
  have hl : lv_has ls 1 [(0, .ref a)] := hl
  have hS : va_S (mw_A z) s.heap s.heap [] := va_S.rf
  refine lv_aload_n hx hb dd_AL_isEmpty_0 rfl (lv_at hl 0 rfl) ?_
  refine gf_AL_48 E hM wa rfl dd_AL_isEmpty_1 ?_
  refine lv_if_ne (tgt := 11) hx hb dd_AL_isEmpty_4 (by decide) (fun h4 => ?_) (fun h4 => ?_)
  ·
    refine lv_iconst (v := nI 0) hx hb dd_AL_isEmpty_11 (by decide) ?_
    refine mr_z E hr hk hM hS (by decide) (by decide) (rfl) ?_ dd_AL_isEmpty_12
    exact ⟨by rw [if_neg (fun q => h4 (by rw [q]; rfl))]; rfl, rfl⟩
  ·
    refine lv_iconst (v := nI 1) hx hb dd_AL_isEmpty_7 (by decide) ?_
    refine lv_goto (tgt := 12) hx hb dd_AL_isEmpty_8 (by decide) ?_
    refine mr_z E hr hk hM hS (by decide) (by decide) (rfl) ?_ dd_AL_isEmpty_12
    exact ⟨by rw [if_pos ((nI_eq hk0 (by decide)).mp h4)]; rfl, rfl⟩
