/-! the reference's object: 52 fields, by a function of their places -/
def mo_l (F : Nat → Value) : List Value := (List.range 52).map F
theorem mo_len (F : Nat → Value) : (mo_l F).length = 52 := by rw [mo_l, List.length_map, List.length_range]
theorem mo_at {F : Nat → Value} {k : Nat} (h : k < 52) : (mo_l F)[k]? = some (F k) := by
  rw [mo_l, List.getElem?_map, List.getElem?_range h]
  rfl
theorem mo_set {F : Nat → Value} {k : Nat} {v : Value} (h : k < 52) : (mo_l F).set k v = mo_l (va_up F k v) := by
  apply List.ext_getElem?
  intro j
  by_cases hj : j < 52
  · rw [mo_at hj]
    by_cases e : j = k
    · subst e
      rw [List.getElem?_set_self (by rw [mo_len]; exact hj), va_up_self]
    · rw [List.getElem?_set_ne (Ne.symm e), mo_at hj, va_up_ne _ _ e]
  · rw [List.getElem?_eq_none (by rw [List.length_set, mo_len]; omega), List.getElem?_eq_none (by rw [mo_len]; omega)]
theorem mo_s {F F1 : Nat → Value} {k : Nat} {v : Value} (h : F1 = va_up F k v) : F1 k = v := by rw [h]; exact va_up_self _ _ _
theorem mo_n {F F1 : Nat → Value} {k j : Nat} {v w : Value} (h : F1 = va_up F k v) (hj : F j = w) (hn : j ≠ k) : F1 j = w := by rw [h, va_up_ne _ _ hn]; exact hj
/-- arrays and what they hold -/
def mo_w (L : List (Nat × (ClassId × vp_A))) (M : mw_M) : Prop := ∀ p ∈ L, M p.1 = some (.inl p.2)
theorem mo_wn {L : List (Nat × (ClassId × vp_A))} {M M1 : mw_M} {q : Nat} {y : ClassId × vp_A} (hE : M1 = va_up M q (some (.inl y))) (hq : M q = none) (h : mo_w L M) : mo_w ((q, y) :: L) M1 := fun p hp => by
  rcases List.mem_cons.mp hp with rfl | hp
  · exact mw_us hE
  · exact mw_un hE hq (h p hp)
theorem mo_wu {L : List (Nat × (ClassId × vp_A))} {M M1 : mw_M} {m : Nat} {x : Nat × List Value} {y : va_E} (hE : M1 = va_up M m (some y)) (hm : M m = some (.inr x)) (h : mo_w L M) : mo_w L M1 := fun p hp => mw_uu hE (h p hp) (mw_ne (h p hp) hm (fun q => by cases q))
theorem mo_wf {L : List (Nat × (ClassId × vp_A))} {P : Nat → Prop} {M M1 : mw_M} (h : mo_w L M) (hf : mw_fr P M M1) (hp : ∀ p ∈ L, ¬ P p.1) : mo_w L M1 := fun p hq => hf.at (h p hq) (hp p hq)
theorem mo_wg {L : List (Nat × (ClassId × vp_A))} {M : mw_M} (h : mo_w L M) (i : Nat) {a : Nat} {y : ClassId × vp_A} (hi : L[i]? = some (a, y)) : M a = some (.inl y) := h (a, y) (List.mem_of_getElem? hi)
def mo_life (x : Int32) : Int32 := if x < nI 32 then nI 32 else if nI 256 < x then nI 256 else x
set_option maxHeartbeats 4000000 in
set_option maxRecDepth 100000 in
theorem cc_Mo_init (l : Launch) (D : va_G) (z : Nat) (M : mw_M) (mm : Nat) (L0 : List Nat) (x : Int32) (hA : mn_l (mm :: L0) M) (wm : M mm = some (.inr (13, [.int 0, .int 0, .null, .int 0, .int 0, .null, .null, .null, .int 0, .int 0, .null, .int 0, .int 0, .null, .int 0, .int 0, .null, .null, .null, .null, .null, .null, .int 0, .int 0, .null, .null, .null, .null, .null, .null, .null, .null, .null, .int 0, .null, .null, .null, .null, .null, .null, .null, .int 0, .null, .int 0, .null, .int 0, .int 0, .null, .int 0, .null, .int 0, .int 0]))) : mw_C l yy_Mo_init bb_Mo_init 2 (Option.none : Option Jvm.ClassFile.FieldType) 1 20 40 3000 D z M [.ref mm, .int x] (fun v M' => v = none ∧ ∃ q250 q242 q234 q227 q219 q212 q204 q197 q189 q182 q175 q168 q161 q154 q146 q137 q128 q119 q110 q103 q96 q88 q80 q72 q64 q56 q48 q41 q32 q24 q16 q7, M' mm = some (.inr (13, [.int (mo_life x), .int 0, .ref q7, .int 0, .int 0, .ref q16, .ref q24, .ref q32, .int 0, .int (nI 1), .ref q41, .int 0, .int (-1), .ref q48, .int 0, .int 0, .ref q56, .ref q64, .ref q72, .ref q80, .ref q88, .ref q96, .int 0, .int 0, .ref q103, .ref q110, .ref q119, .ref q128, .ref q137, .ref q146, .ref q154, .ref q161, .ref q168, .int 0, .ref q175, .ref q182, .ref q189, .ref q197, .ref q204, .ref q212, .ref q219, .int 0, .ref q227, .int 0, .ref q234, .int 0, .int 0, .ref q242, .int 0, .ref q250, .int 0, .int 0])) ∧ mo_w [(q250, (D.1 100, 100, .inl (fun _ => 0))), (q242, (D.1 100, 12, .inl (fun _ => 0))), (q234, (D.1 100, 4, .inl (fun _ => 0))), (q227, (D.1 100, 60, .inl (fun _ => 0))), (q219, (D.1 100, 4, .inl (fun _ => 0))), (q212, (D.1 100, 16, .inl (fun _ => 0))), (q204, (D.1 100, 4, .inl (fun _ => 0))), (q197, (D.1 100, 48, .inl (fun _ => 0))), (q189, (D.1 100, 4, .inl (fun _ => 0))), (q182, (D.1 100, 4, .inl (fun _ => 0))), (q175, (D.1 100, 4, .inl (fun _ => 0))), (q168, (D.1 100, 3, .inl (fun _ => 0))), (q161, (D.1 100, 3, .inl (fun _ => 0))), (q154, (D.1 100, 12, .inl (fun _ => 0))), (q146, (D.1 100, 180, .inl (fun _ => 0))), (q137, (D.1 100, 180, .inl (fun _ => 0))), (q128, (D.1 100, 180, .inl (fun _ => 0))), (q119, (D.1 100, 180, .inl (fun _ => 0))), (q110, (D.1 100, 3, .inl (fun _ => 0))), (q103, (D.1 100, 3, .inl (fun _ => 0))), (q96, (D.1 100, 60, .inl (fun _ => 0))), (q88, (D.1 100, 60, .inl (fun _ => 0))), (q80, (D.1 100, 60, .inl (fun _ => 0))), (q72, (D.1 100, 60, .inl (fun _ => 0))), (q64, (D.1 100, 60, .inl (fun _ => 0))), (q56, (D.1 102, 60, .inl (fun _ => 0))), (q48, (D.1 101, 4, .inr (.inl (fun _ => 0)))), (q41, (D.1 100, 600, .inl (fun _ => 0))), (q32, (D.1 100, 12, .inl (fun _ => 0))), (q24, (D.1 100, 12, .inl (fun _ => 0))), (q16, (D.1 100, 480, .inl (fun _ => 0))), (q7, (D.1 100, 100, .inl (fun _ => 0)))] M' ∧ mn_l (q250 :: (q242 :: (q234 :: (q227 :: (q219 :: (q212 :: (q204 :: (q197 :: (q189 :: (q182 :: (q175 :: (q168 :: (q161 :: (q154 :: (q146 :: (q137 :: (q128 :: (q119 :: (q110 :: (q103 :: (q96 :: (q88 :: (q80 :: (q72 :: (q64 :: (q56 :: (q48 :: (q41 :: (q32 :: (q24 :: (q16 :: (q7 :: (mm :: (L0)))))))))))))))))))))))))))))))))) M' ∧ mw_fr (fun q => q ∉ L0) M M') := by
  refine mw_of (by decide) (Nat.le_of_ble_eq_true rfl) ?_
  intro p e s m below meth c ls E hr hk hnm hM hl
  have hx := E.x
  have hb := E.b
  have E : mw_E p m c bb_Mo_init 2 s _ D z "IdentityIssuerModel" := E
  have hl : lv_has ls 2 [(0, .ref mm), (1, .int x)] := hl
  have hS : va_S (mw_A z) s.heap s.heap [] := va_S.rf
  refine lv_aload_n hx hb dd_Mo_init_0 rfl (lv_at hl 0 rfl) ?_
  refine W.objInit hx hb E.o (E.t _ tw_Mo_1) (E.t _ kw_Ob_im) (E.t _ kw_Ob_code) rfl (by rw [E.ml]; exact hl.1) rfl dd_Mo_init_1 (Nat.le_of_ble_eq_true rfl) (Nat.le_of_ble_eq_true rfl) ?_
  refine W.eq (g2 := F0 m 4 ls []) rfl ?_
  have hF : mw_fr (fun q => q ∉ L0) M M := mw_fr.rf
  have hW : mo_w [] M := fun p hp => absurd hp List.not_mem_nil
  refine lv_aload_n hx hb dd_Mo_init_4 rfl (lv_at hl 0 rfl) ?_
  refine lv_bipush (v := nI 100) hx hb dd_Mo_init_5 (by decide) ?_
  refine mw_newa (atype := .int) (ty := .int) (a0 := (100, .inl (fun _ => 0))) hx hb (E.t _ tw_ac_int) rfl E.K hM E.zz hS 0 rfl (fun _ => rfl) (by decide) (by decide) (by decide) (by decide) (by decide) dd_Mo_init_7 (fun q7 H hq hM hS => ?_)
  obtain ⟨M1, hM1⟩ : ∃ M9 : mw_M, M9 = va_up M q7 (some (.inl (D.1 100, 100, .inl (fun _ => 0)))) := ⟨_, rfl⟩
  rw [← hM1] at hM
  have wm := mw_un hM1 hq wm
  have hW := mo_wn hM1 hq hW
  have hF := mw_fn hM1 hq hF
  have hA := mn_nn hM1 hq hA
  refine pf_Mo_7 E hnm hM hS wm (Nat.le_of_ble_eq_true rfl) dd_Mo_init_9 (fun H locs hM hS => ?_)
  obtain ⟨M1, hM1⟩ : ∃ M9 : mw_M, M9 = va_up M1 mm (some (.inr (13, [.int 0, .int 0, .ref q7, .int 0, .int 0, .null, .null, .null, .int 0, .int 0, .null, .int 0, .int 0, .null, .int 0, .int 0, .null, .null, .null, .null, .null, .null, .int 0, .int 0, .null, .null, .null, .null, .null, .null, .null, .null, .null, .int 0, .null, .null, .null, .null, .null, .null, .null, .int 0, .null, .int 0, .null, .int 0, .int 0, .null, .int 0, .null, .int 0, .int 0]))) := ⟨_, rfl⟩
  have hM := (show mw_at D mg_cl z (va_up _ mm (some (.inr (13, [.int 0, .int 0, .ref q7, .int 0, .int 0, .null, .null, .null, .int 0, .int 0, .null, .int 0, .int 0, .null, .int 0, .int 0, .null, .null, .null, .null, .null, .null, .int 0, .int 0, .null, .null, .null, .null, .null, .null, .null, .null, .null, .int 0, .null, .null, .null, .null, .null, .null, .null, .int 0, .null, .int 0, .null, .int 0, .int 0, .null, .int 0, .null, .int 0, .int 0])))) H from hM)
  rw [← hM1] at hM
  have hW := mo_wu hM1 wm hW
  have wm := mw_us hM1
  have hA := mn_uu hM1 hA
  have hF := mw_fu hM1 hF (mn_out (pre := q7 :: (mm :: ([]))) hA 1 rfl)
  refine lv_aload_n hx hb dd_Mo_init_12 rfl (lv_at hl 0 rfl) ?_
  refine lv_sipush (v := nI 480) hx hb dd_Mo_init_13 (by decide) ?_
  refine mw_newa (atype := .int) (ty := .int) (a0 := (480, .inl (fun _ => 0))) hx hb (E.t _ tw_ac_int) rfl E.K hM E.zz hS 0 rfl (fun _ => rfl) (by decide) (by decide) (by decide) (by decide) (by decide) dd_Mo_init_16 (fun q16 H hq hM hS => ?_)
  obtain ⟨M1, hM1⟩ : ∃ M9 : mw_M, M9 = va_up M1 q16 (some (.inl (D.1 100, 480, .inl (fun _ => 0)))) := ⟨_, rfl⟩
  rw [← hM1] at hM
  have wm := mw_un hM1 hq wm
  have hW := mo_wn hM1 hq hW
  have hF := mw_fn hM1 hq hF
  have hA := mn_nn hM1 hq hA
  refine pf_Mo_13 E hnm hM hS wm (Nat.le_of_ble_eq_true rfl) dd_Mo_init_18 (fun H locs hM hS => ?_)
  obtain ⟨M1, hM1⟩ : ∃ M9 : mw_M, M9 = va_up M1 mm (some (.inr (13, [.int 0, .int 0, .ref q7, .int 0, .int 0, .ref q16, .null, .null, .int 0, .int 0, .null, .int 0, .int 0, .null, .int 0, .int 0, .null, .null, .null, .null, .null, .null, .int 0, .int 0, .null, .null, .null, .null, .null, .null, .null, .null, .null, .int 0, .null, .null, .null, .null, .null, .null, .null, .int 0, .null, .int 0, .null, .int 0, .int 0, .null, .int 0, .null, .int 0, .int 0]))) := ⟨_, rfl⟩
  have hM := (show mw_at D mg_cl z (va_up _ mm (some (.inr (13, [.int 0, .int 0, .ref q7, .int 0, .int 0, .ref q16, .null, .null, .int 0, .int 0, .null, .int 0, .int 0, .null, .int 0, .int 0, .null, .null, .null, .null, .null, .null, .int 0, .int 0, .null, .null, .null, .null, .null, .null, .null, .null, .null, .int 0, .null, .null, .null, .null, .null, .null, .null, .int 0, .null, .int 0, .null, .int 0, .int 0, .null, .int 0, .null, .int 0, .int 0])))) H from hM)
  rw [← hM1] at hM
  have hW := mo_wu hM1 wm hW
  have wm := mw_us hM1
  have hA := mn_uu hM1 hA
  have hF := mw_fu hM1 hF (mn_out (pre := q16 :: (q7 :: (mm :: ([])))) hA 2 rfl)
  refine lv_aload_n hx hb dd_Mo_init_21 rfl (lv_at hl 0 rfl) ?_
  refine lv_bipush (v := nI 12) hx hb dd_Mo_init_22 (by decide) ?_
  refine mw_newa (atype := .int) (ty := .int) (a0 := (12, .inl (fun _ => 0))) hx hb (E.t _ tw_ac_int) rfl E.K hM E.zz hS 0 rfl (fun _ => rfl) (by decide) (by decide) (by decide) (by decide) (by decide) dd_Mo_init_24 (fun q24 H hq hM hS => ?_)
  obtain ⟨M1, hM1⟩ : ∃ M9 : mw_M, M9 = va_up M1 q24 (some (.inl (D.1 100, 12, .inl (fun _ => 0)))) := ⟨_, rfl⟩
  rw [← hM1] at hM
  have wm := mw_un hM1 hq wm
  have hW := mo_wn hM1 hq hW
  have hF := mw_fn hM1 hq hF
  have hA := mn_nn hM1 hq hA
  refine pf_Mo_16 E hnm hM hS wm (Nat.le_of_ble_eq_true rfl) dd_Mo_init_26 (fun H locs hM hS => ?_)
  obtain ⟨M1, hM1⟩ : ∃ M9 : mw_M, M9 = va_up M1 mm (some (.inr (13, [.int 0, .int 0, .ref q7, .int 0, .int 0, .ref q16, .ref q24, .null, .int 0, .int 0, .null, .int 0, .int 0, .null, .int 0, .int 0, .null, .null, .null, .null, .null, .null, .int 0, .int 0, .null, .null, .null, .null, .null, .null, .null, .null, .null, .int 0, .null, .null, .null, .null, .null, .null, .null, .int 0, .null, .int 0, .null, .int 0, .int 0, .null, .int 0, .null, .int 0, .int 0]))) := ⟨_, rfl⟩
  have hM := (show mw_at D mg_cl z (va_up _ mm (some (.inr (13, [.int 0, .int 0, .ref q7, .int 0, .int 0, .ref q16, .ref q24, .null, .int 0, .int 0, .null, .int 0, .int 0, .null, .int 0, .int 0, .null, .null, .null, .null, .null, .null, .int 0, .int 0, .null, .null, .null, .null, .null, .null, .null, .null, .null, .int 0, .null, .null, .null, .null, .null, .null, .null, .int 0, .null, .int 0, .null, .int 0, .int 0, .null, .int 0, .null, .int 0, .int 0])))) H from hM)
  rw [← hM1] at hM
  have hW := mo_wu hM1 wm hW
  have wm := mw_us hM1
  have hA := mn_uu hM1 hA
  have hF := mw_fu hM1 hF (mn_out (pre := q24 :: (q16 :: (q7 :: (mm :: ([]))))) hA 3 rfl)
  refine lv_aload_n hx hb dd_Mo_init_29 rfl (lv_at hl 0 rfl) ?_
  refine lv_bipush (v := nI 12) hx hb dd_Mo_init_30 (by decide) ?_
  refine mw_newa (atype := .int) (ty := .int) (a0 := (12, .inl (fun _ => 0))) hx hb (E.t _ tw_ac_int) rfl E.K hM E.zz hS 0 rfl (fun _ => rfl) (by decide) (by decide) (by decide) (by decide) (by decide) dd_Mo_init_32 (fun q32 H hq hM hS => ?_)
  obtain ⟨M1, hM1⟩ : ∃ M9 : mw_M, M9 = va_up M1 q32 (some (.inl (D.1 100, 12, .inl (fun _ => 0)))) := ⟨_, rfl⟩
  rw [← hM1] at hM
  have wm := mw_un hM1 hq wm
  have hW := mo_wn hM1 hq hW
  have hF := mw_fn hM1 hq hF
  have hA := mn_nn hM1 hq hA
  refine pf_Mo_19 E hnm hM hS wm (Nat.le_of_ble_eq_true rfl) dd_Mo_init_34 (fun H locs hM hS => ?_)
  obtain ⟨M1, hM1⟩ : ∃ M9 : mw_M, M9 = va_up M1 mm (some (.inr (13, [.int 0, .int 0, .ref q7, .int 0, .int 0, .ref q16, .ref q24, .ref q32, .int 0, .int 0, .null, .int 0, .int 0, .null, .int 0, .int 0, .null, .null, .null, .null, .null, .null, .int 0, .int 0, .null, .null, .null, .null, .null, .null, .null, .null, .null, .int 0, .null, .null, .null, .null, .null, .null, .null, .int 0, .null, .int 0, .null, .int 0, .int 0, .null, .int 0, .null, .int 0, .int 0]))) := ⟨_, rfl⟩
  have hM := (show mw_at D mg_cl z (va_up _ mm (some (.inr (13, [.int 0, .int 0, .ref q7, .int 0, .int 0, .ref q16, .ref q24, .ref q32, .int 0, .int 0, .null, .int 0, .int 0, .null, .int 0, .int 0, .null, .null, .null, .null, .null, .null, .int 0, .int 0, .null, .null, .null, .null, .null, .null, .null, .null, .null, .int 0, .null, .null, .null, .null, .null, .null, .null, .int 0, .null, .int 0, .null, .int 0, .int 0, .null, .int 0, .null, .int 0, .int 0])))) H from hM)
  rw [← hM1] at hM
  have hW := mo_wu hM1 wm hW
  have wm := mw_us hM1
  have hA := mn_uu hM1 hA
  have hF := mw_fu hM1 hF (mn_out (pre := q32 :: (q24 :: (q16 :: (q7 :: (mm :: ([])))))) hA 4 rfl)
  refine lv_aload_n hx hb dd_Mo_init_37 rfl (lv_at hl 0 rfl) ?_
  refine lv_sipush (v := nI 600) hx hb dd_Mo_init_38 (by decide) ?_
  refine mw_newa (atype := .int) (ty := .int) (a0 := (600, .inl (fun _ => 0))) hx hb (E.t _ tw_ac_int) rfl E.K hM E.zz hS 0 rfl (fun _ => rfl) (by decide) (by decide) (by decide) (by decide) (by decide) dd_Mo_init_41 (fun q41 H hq hM hS => ?_)
  obtain ⟨M1, hM1⟩ : ∃ M9 : mw_M, M9 = va_up M1 q41 (some (.inl (D.1 100, 600, .inl (fun _ => 0)))) := ⟨_, rfl⟩
  rw [← hM1] at hM
  have wm := mw_un hM1 hq wm
  have hW := mo_wn hM1 hq hW
  have hF := mw_fn hM1 hq hF
  have hA := mn_nn hM1 hq hA
  refine pf_Mo_22 E hnm hM hS wm (Nat.le_of_ble_eq_true rfl) dd_Mo_init_43 (fun H locs hM hS => ?_)
  obtain ⟨M1, hM1⟩ : ∃ M9 : mw_M, M9 = va_up M1 mm (some (.inr (13, [.int 0, .int 0, .ref q7, .int 0, .int 0, .ref q16, .ref q24, .ref q32, .int 0, .int 0, .ref q41, .int 0, .int 0, .null, .int 0, .int 0, .null, .null, .null, .null, .null, .null, .int 0, .int 0, .null, .null, .null, .null, .null, .null, .null, .null, .null, .int 0, .null, .null, .null, .null, .null, .null, .null, .int 0, .null, .int 0, .null, .int 0, .int 0, .null, .int 0, .null, .int 0, .int 0]))) := ⟨_, rfl⟩
  have hM := (show mw_at D mg_cl z (va_up _ mm (some (.inr (13, [.int 0, .int 0, .ref q7, .int 0, .int 0, .ref q16, .ref q24, .ref q32, .int 0, .int 0, .ref q41, .int 0, .int 0, .null, .int 0, .int 0, .null, .null, .null, .null, .null, .null, .int 0, .int 0, .null, .null, .null, .null, .null, .null, .null, .null, .null, .int 0, .null, .null, .null, .null, .null, .null, .null, .int 0, .null, .int 0, .null, .int 0, .int 0, .null, .int 0, .null, .int 0, .int 0])))) H from hM)
  rw [← hM1] at hM
  have hW := mo_wu hM1 wm hW
  have wm := mw_us hM1
  have hA := mn_uu hM1 hA
  have hF := mw_fu hM1 hF (mn_out (pre := q41 :: (q32 :: (q24 :: (q16 :: (q7 :: (mm :: ([]))))))) hA 5 rfl)
  refine lv_aload_n hx hb dd_Mo_init_46 rfl (lv_at hl 0 rfl) ?_
  refine lv_iconst (v := nI 4) hx hb dd_Mo_init_47 (by decide) ?_
  refine mw_newa (atype := .long) (ty := .long) (a0 := (4, .inr (.inl (fun _ => 0)))) hx hb (E.t _ tw_ac_long) rfl E.K hM E.zz hS 1 rfl (fun _ => rfl) (by decide) (by decide) (by decide) (by decide) (by decide) dd_Mo_init_48 (fun q48 H hq hM hS => ?_)
  obtain ⟨M1, hM1⟩ : ∃ M9 : mw_M, M9 = va_up M1 q48 (some (.inl (D.1 101, 4, .inr (.inl (fun _ => 0))))) := ⟨_, rfl⟩
  rw [← hM1] at hM
  have wm := mw_un hM1 hq wm
  have hW := mo_wn hM1 hq hW
  have hF := mw_fn hM1 hq hF
  have hA := mn_nn hM1 hq hA
  refine pf_Mo_25 E hnm hM hS wm (Nat.le_of_ble_eq_true rfl) dd_Mo_init_50 (fun H locs hM hS => ?_)
  obtain ⟨M1, hM1⟩ : ∃ M9 : mw_M, M9 = va_up M1 mm (some (.inr (13, [.int 0, .int 0, .ref q7, .int 0, .int 0, .ref q16, .ref q24, .ref q32, .int 0, .int 0, .ref q41, .int 0, .int 0, .ref q48, .int 0, .int 0, .null, .null, .null, .null, .null, .null, .int 0, .int 0, .null, .null, .null, .null, .null, .null, .null, .null, .null, .int 0, .null, .null, .null, .null, .null, .null, .null, .int 0, .null, .int 0, .null, .int 0, .int 0, .null, .int 0, .null, .int 0, .int 0]))) := ⟨_, rfl⟩
  have hM := (show mw_at D mg_cl z (va_up _ mm (some (.inr (13, [.int 0, .int 0, .ref q7, .int 0, .int 0, .ref q16, .ref q24, .ref q32, .int 0, .int 0, .ref q41, .int 0, .int 0, .ref q48, .int 0, .int 0, .null, .null, .null, .null, .null, .null, .int 0, .int 0, .null, .null, .null, .null, .null, .null, .null, .null, .null, .int 0, .null, .null, .null, .null, .null, .null, .null, .int 0, .null, .int 0, .null, .int 0, .int 0, .null, .int 0, .null, .int 0, .int 0])))) H from hM)
  rw [← hM1] at hM
  have hW := mo_wu hM1 wm hW
  have wm := mw_us hM1
  have hA := mn_uu hM1 hA
  have hF := mw_fu hM1 hF (mn_out (pre := q48 :: (q41 :: (q32 :: (q24 :: (q16 :: (q7 :: (mm :: ([])))))))) hA 6 rfl)
  refine lv_aload_n hx hb dd_Mo_init_53 rfl (lv_at hl 0 rfl) ?_
  refine lv_bipush (v := nI 60) hx hb dd_Mo_init_54 (by decide) ?_
  refine mw_newa (atype := .boolean) (ty := .boolean) (a0 := (60, .inl (fun _ => 0))) hx hb (E.t _ tw_ac_boolean) rfl E.K hM E.zz hS 2 rfl (fun _ => rfl) (by decide) (by decide) (by decide) (by decide) (by decide) dd_Mo_init_56 (fun q56 H hq hM hS => ?_)
  obtain ⟨M1, hM1⟩ : ∃ M9 : mw_M, M9 = va_up M1 q56 (some (.inl (D.1 102, 60, .inl (fun _ => 0)))) := ⟨_, rfl⟩
  rw [← hM1] at hM
  have wm := mw_un hM1 hq wm
  have hW := mo_wn hM1 hq hW
  have hF := mw_fn hM1 hq hF
  have hA := mn_nn hM1 hq hA
  refine pf_Mo_29 E hnm hM hS wm (Nat.le_of_ble_eq_true rfl) dd_Mo_init_58 (fun H locs hM hS => ?_)
  obtain ⟨M1, hM1⟩ : ∃ M9 : mw_M, M9 = va_up M1 mm (some (.inr (13, [.int 0, .int 0, .ref q7, .int 0, .int 0, .ref q16, .ref q24, .ref q32, .int 0, .int 0, .ref q41, .int 0, .int 0, .ref q48, .int 0, .int 0, .ref q56, .null, .null, .null, .null, .null, .int 0, .int 0, .null, .null, .null, .null, .null, .null, .null, .null, .null, .int 0, .null, .null, .null, .null, .null, .null, .null, .int 0, .null, .int 0, .null, .int 0, .int 0, .null, .int 0, .null, .int 0, .int 0]))) := ⟨_, rfl⟩
  have hM := (show mw_at D mg_cl z (va_up _ mm (some (.inr (13, [.int 0, .int 0, .ref q7, .int 0, .int 0, .ref q16, .ref q24, .ref q32, .int 0, .int 0, .ref q41, .int 0, .int 0, .ref q48, .int 0, .int 0, .ref q56, .null, .null, .null, .null, .null, .int 0, .int 0, .null, .null, .null, .null, .null, .null, .null, .null, .null, .int 0, .null, .null, .null, .null, .null, .null, .null, .int 0, .null, .int 0, .null, .int 0, .int 0, .null, .int 0, .null, .int 0, .int 0])))) H from hM)
  rw [← hM1] at hM
  have hW := mo_wu hM1 wm hW
  have wm := mw_us hM1
  have hA := mn_uu hM1 hA
  have hF := mw_fu hM1 hF (mn_out (pre := q56 :: (q48 :: (q41 :: (q32 :: (q24 :: (q16 :: (q7 :: (mm :: ([]))))))))) hA 7 rfl)
  refine lv_aload_n hx hb dd_Mo_init_61 rfl (lv_at hl 0 rfl) ?_
  refine lv_bipush (v := nI 60) hx hb dd_Mo_init_62 (by decide) ?_
  refine mw_newa (atype := .int) (ty := .int) (a0 := (60, .inl (fun _ => 0))) hx hb (E.t _ tw_ac_int) rfl E.K hM E.zz hS 0 rfl (fun _ => rfl) (by decide) (by decide) (by decide) (by decide) (by decide) dd_Mo_init_64 (fun q64 H hq hM hS => ?_)
  obtain ⟨M1, hM1⟩ : ∃ M9 : mw_M, M9 = va_up M1 q64 (some (.inl (D.1 100, 60, .inl (fun _ => 0)))) := ⟨_, rfl⟩
  rw [← hM1] at hM
  have wm := mw_un hM1 hq wm
  have hW := mo_wn hM1 hq hW
  have hF := mw_fn hM1 hq hF
  have hA := mn_nn hM1 hq hA
  refine pf_Mo_33 E hnm hM hS wm (Nat.le_of_ble_eq_true rfl) dd_Mo_init_66 (fun H locs hM hS => ?_)
  obtain ⟨M1, hM1⟩ : ∃ M9 : mw_M, M9 = va_up M1 mm (some (.inr (13, [.int 0, .int 0, .ref q7, .int 0, .int 0, .ref q16, .ref q24, .ref q32, .int 0, .int 0, .ref q41, .int 0, .int 0, .ref q48, .int 0, .int 0, .ref q56, .ref q64, .null, .null, .null, .null, .int 0, .int 0, .null, .null, .null, .null, .null, .null, .null, .null, .null, .int 0, .null, .null, .null, .null, .null, .null, .null, .int 0, .null, .int 0, .null, .int 0, .int 0, .null, .int 0, .null, .int 0, .int 0]))) := ⟨_, rfl⟩
  have hM := (show mw_at D mg_cl z (va_up _ mm (some (.inr (13, [.int 0, .int 0, .ref q7, .int 0, .int 0, .ref q16, .ref q24, .ref q32, .int 0, .int 0, .ref q41, .int 0, .int 0, .ref q48, .int 0, .int 0, .ref q56, .ref q64, .null, .null, .null, .null, .int 0, .int 0, .null, .null, .null, .null, .null, .null, .null, .null, .null, .int 0, .null, .null, .null, .null, .null, .null, .null, .int 0, .null, .int 0, .null, .int 0, .int 0, .null, .int 0, .null, .int 0, .int 0])))) H from hM)
  rw [← hM1] at hM
  have hW := mo_wu hM1 wm hW
  have wm := mw_us hM1
  have hA := mn_uu hM1 hA
  have hF := mw_fu hM1 hF (mn_out (pre := q64 :: (q56 :: (q48 :: (q41 :: (q32 :: (q24 :: (q16 :: (q7 :: (mm :: ([])))))))))) hA 8 rfl)
  refine lv_aload_n hx hb dd_Mo_init_69 rfl (lv_at hl 0 rfl) ?_
  refine lv_bipush (v := nI 60) hx hb dd_Mo_init_70 (by decide) ?_
  refine mw_newa (atype := .int) (ty := .int) (a0 := (60, .inl (fun _ => 0))) hx hb (E.t _ tw_ac_int) rfl E.K hM E.zz hS 0 rfl (fun _ => rfl) (by decide) (by decide) (by decide) (by decide) (by decide) dd_Mo_init_72 (fun q72 H hq hM hS => ?_)
  obtain ⟨M1, hM1⟩ : ∃ M9 : mw_M, M9 = va_up M1 q72 (some (.inl (D.1 100, 60, .inl (fun _ => 0)))) := ⟨_, rfl⟩
  rw [← hM1] at hM
  have wm := mw_un hM1 hq wm
  have hW := mo_wn hM1 hq hW
  have hF := mw_fn hM1 hq hF
  have hA := mn_nn hM1 hq hA
  refine pf_Mo_36 E hnm hM hS wm (Nat.le_of_ble_eq_true rfl) dd_Mo_init_74 (fun H locs hM hS => ?_)
  obtain ⟨M1, hM1⟩ : ∃ M9 : mw_M, M9 = va_up M1 mm (some (.inr (13, [.int 0, .int 0, .ref q7, .int 0, .int 0, .ref q16, .ref q24, .ref q32, .int 0, .int 0, .ref q41, .int 0, .int 0, .ref q48, .int 0, .int 0, .ref q56, .ref q64, .ref q72, .null, .null, .null, .int 0, .int 0, .null, .null, .null, .null, .null, .null, .null, .null, .null, .int 0, .null, .null, .null, .null, .null, .null, .null, .int 0, .null, .int 0, .null, .int 0, .int 0, .null, .int 0, .null, .int 0, .int 0]))) := ⟨_, rfl⟩
  have hM := (show mw_at D mg_cl z (va_up _ mm (some (.inr (13, [.int 0, .int 0, .ref q7, .int 0, .int 0, .ref q16, .ref q24, .ref q32, .int 0, .int 0, .ref q41, .int 0, .int 0, .ref q48, .int 0, .int 0, .ref q56, .ref q64, .ref q72, .null, .null, .null, .int 0, .int 0, .null, .null, .null, .null, .null, .null, .null, .null, .null, .int 0, .null, .null, .null, .null, .null, .null, .null, .int 0, .null, .int 0, .null, .int 0, .int 0, .null, .int 0, .null, .int 0, .int 0])))) H from hM)
  rw [← hM1] at hM
  have hW := mo_wu hM1 wm hW
  have wm := mw_us hM1
  have hA := mn_uu hM1 hA
  have hF := mw_fu hM1 hF (mn_out (pre := q72 :: (q64 :: (q56 :: (q48 :: (q41 :: (q32 :: (q24 :: (q16 :: (q7 :: (mm :: ([]))))))))))) hA 9 rfl)
  refine lv_aload_n hx hb dd_Mo_init_77 rfl (lv_at hl 0 rfl) ?_
  refine lv_bipush (v := nI 60) hx hb dd_Mo_init_78 (by decide) ?_
  refine mw_newa (atype := .int) (ty := .int) (a0 := (60, .inl (fun _ => 0))) hx hb (E.t _ tw_ac_int) rfl E.K hM E.zz hS 0 rfl (fun _ => rfl) (by decide) (by decide) (by decide) (by decide) (by decide) dd_Mo_init_80 (fun q80 H hq hM hS => ?_)
  obtain ⟨M1, hM1⟩ : ∃ M9 : mw_M, M9 = va_up M1 q80 (some (.inl (D.1 100, 60, .inl (fun _ => 0)))) := ⟨_, rfl⟩
  rw [← hM1] at hM
  have wm := mw_un hM1 hq wm
  have hW := mo_wn hM1 hq hW
  have hF := mw_fn hM1 hq hF
  have hA := mn_nn hM1 hq hA
  refine pf_Mo_39 E hnm hM hS wm (Nat.le_of_ble_eq_true rfl) dd_Mo_init_82 (fun H locs hM hS => ?_)
  obtain ⟨M1, hM1⟩ : ∃ M9 : mw_M, M9 = va_up M1 mm (some (.inr (13, [.int 0, .int 0, .ref q7, .int 0, .int 0, .ref q16, .ref q24, .ref q32, .int 0, .int 0, .ref q41, .int 0, .int 0, .ref q48, .int 0, .int 0, .ref q56, .ref q64, .ref q72, .ref q80, .null, .null, .int 0, .int 0, .null, .null, .null, .null, .null, .null, .null, .null, .null, .int 0, .null, .null, .null, .null, .null, .null, .null, .int 0, .null, .int 0, .null, .int 0, .int 0, .null, .int 0, .null, .int 0, .int 0]))) := ⟨_, rfl⟩
  have hM := (show mw_at D mg_cl z (va_up _ mm (some (.inr (13, [.int 0, .int 0, .ref q7, .int 0, .int 0, .ref q16, .ref q24, .ref q32, .int 0, .int 0, .ref q41, .int 0, .int 0, .ref q48, .int 0, .int 0, .ref q56, .ref q64, .ref q72, .ref q80, .null, .null, .int 0, .int 0, .null, .null, .null, .null, .null, .null, .null, .null, .null, .int 0, .null, .null, .null, .null, .null, .null, .null, .int 0, .null, .int 0, .null, .int 0, .int 0, .null, .int 0, .null, .int 0, .int 0])))) H from hM)
  rw [← hM1] at hM
  have hW := mo_wu hM1 wm hW
  have wm := mw_us hM1
  have hA := mn_uu hM1 hA
  have hF := mw_fu hM1 hF (mn_out (pre := q80 :: (q72 :: (q64 :: (q56 :: (q48 :: (q41 :: (q32 :: (q24 :: (q16 :: (q7 :: (mm :: ([])))))))))))) hA 10 rfl)
  refine lv_aload_n hx hb dd_Mo_init_85 rfl (lv_at hl 0 rfl) ?_
  refine lv_bipush (v := nI 60) hx hb dd_Mo_init_86 (by decide) ?_
  refine mw_newa (atype := .int) (ty := .int) (a0 := (60, .inl (fun _ => 0))) hx hb (E.t _ tw_ac_int) rfl E.K hM E.zz hS 0 rfl (fun _ => rfl) (by decide) (by decide) (by decide) (by decide) (by decide) dd_Mo_init_88 (fun q88 H hq hM hS => ?_)
  obtain ⟨M1, hM1⟩ : ∃ M9 : mw_M, M9 = va_up M1 q88 (some (.inl (D.1 100, 60, .inl (fun _ => 0)))) := ⟨_, rfl⟩
  rw [← hM1] at hM
  have wm := mw_un hM1 hq wm
  have hW := mo_wn hM1 hq hW
  have hF := mw_fn hM1 hq hF
  have hA := mn_nn hM1 hq hA
  refine pf_Mo_42 E hnm hM hS wm (Nat.le_of_ble_eq_true rfl) dd_Mo_init_90 (fun H locs hM hS => ?_)
  obtain ⟨M1, hM1⟩ : ∃ M9 : mw_M, M9 = va_up M1 mm (some (.inr (13, [.int 0, .int 0, .ref q7, .int 0, .int 0, .ref q16, .ref q24, .ref q32, .int 0, .int 0, .ref q41, .int 0, .int 0, .ref q48, .int 0, .int 0, .ref q56, .ref q64, .ref q72, .ref q80, .ref q88, .null, .int 0, .int 0, .null, .null, .null, .null, .null, .null, .null, .null, .null, .int 0, .null, .null, .null, .null, .null, .null, .null, .int 0, .null, .int 0, .null, .int 0, .int 0, .null, .int 0, .null, .int 0, .int 0]))) := ⟨_, rfl⟩
  have hM := (show mw_at D mg_cl z (va_up _ mm (some (.inr (13, [.int 0, .int 0, .ref q7, .int 0, .int 0, .ref q16, .ref q24, .ref q32, .int 0, .int 0, .ref q41, .int 0, .int 0, .ref q48, .int 0, .int 0, .ref q56, .ref q64, .ref q72, .ref q80, .ref q88, .null, .int 0, .int 0, .null, .null, .null, .null, .null, .null, .null, .null, .null, .int 0, .null, .null, .null, .null, .null, .null, .null, .int 0, .null, .int 0, .null, .int 0, .int 0, .null, .int 0, .null, .int 0, .int 0])))) H from hM)
  rw [← hM1] at hM
  have hW := mo_wu hM1 wm hW
  have wm := mw_us hM1
  have hA := mn_uu hM1 hA
  have hF := mw_fu hM1 hF (mn_out (pre := q88 :: (q80 :: (q72 :: (q64 :: (q56 :: (q48 :: (q41 :: (q32 :: (q24 :: (q16 :: (q7 :: (mm :: ([]))))))))))))) hA 11 rfl)
  refine lv_aload_n hx hb dd_Mo_init_93 rfl (lv_at hl 0 rfl) ?_
  refine lv_bipush (v := nI 60) hx hb dd_Mo_init_94 (by decide) ?_
  refine mw_newa (atype := .int) (ty := .int) (a0 := (60, .inl (fun _ => 0))) hx hb (E.t _ tw_ac_int) rfl E.K hM E.zz hS 0 rfl (fun _ => rfl) (by decide) (by decide) (by decide) (by decide) (by decide) dd_Mo_init_96 (fun q96 H hq hM hS => ?_)
  obtain ⟨M1, hM1⟩ : ∃ M9 : mw_M, M9 = va_up M1 q96 (some (.inl (D.1 100, 60, .inl (fun _ => 0)))) := ⟨_, rfl⟩
  rw [← hM1] at hM
  have wm := mw_un hM1 hq wm
  have hW := mo_wn hM1 hq hW
  have hF := mw_fn hM1 hq hF
  have hA := mn_nn hM1 hq hA
  refine pf_Mo_45 E hnm hM hS wm (Nat.le_of_ble_eq_true rfl) dd_Mo_init_98 (fun H locs hM hS => ?_)
  obtain ⟨M1, hM1⟩ : ∃ M9 : mw_M, M9 = va_up M1 mm (some (.inr (13, [.int 0, .int 0, .ref q7, .int 0, .int 0, .ref q16, .ref q24, .ref q32, .int 0, .int 0, .ref q41, .int 0, .int 0, .ref q48, .int 0, .int 0, .ref q56, .ref q64, .ref q72, .ref q80, .ref q88, .ref q96, .int 0, .int 0, .null, .null, .null, .null, .null, .null, .null, .null, .null, .int 0, .null, .null, .null, .null, .null, .null, .null, .int 0, .null, .int 0, .null, .int 0, .int 0, .null, .int 0, .null, .int 0, .int 0]))) := ⟨_, rfl⟩
  have hM := (show mw_at D mg_cl z (va_up _ mm (some (.inr (13, [.int 0, .int 0, .ref q7, .int 0, .int 0, .ref q16, .ref q24, .ref q32, .int 0, .int 0, .ref q41, .int 0, .int 0, .ref q48, .int 0, .int 0, .ref q56, .ref q64, .ref q72, .ref q80, .ref q88, .ref q96, .int 0, .int 0, .null, .null, .null, .null, .null, .null, .null, .null, .null, .int 0, .null, .null, .null, .null, .null, .null, .null, .int 0, .null, .int 0, .null, .int 0, .int 0, .null, .int 0, .null, .int 0, .int 0])))) H from hM)
  rw [← hM1] at hM
  have hW := mo_wu hM1 wm hW
  have wm := mw_us hM1
  have hA := mn_uu hM1 hA
  have hF := mw_fu hM1 hF (mn_out (pre := q96 :: (q88 :: (q80 :: (q72 :: (q64 :: (q56 :: (q48 :: (q41 :: (q32 :: (q24 :: (q16 :: (q7 :: (mm :: ([])))))))))))))) hA 12 rfl)
  refine lv_aload_n hx hb dd_Mo_init_101 rfl (lv_at hl 0 rfl) ?_
  refine lv_iconst (v := nI 3) hx hb dd_Mo_init_102 (by decide) ?_
  refine mw_newa (atype := .int) (ty := .int) (a0 := (3, .inl (fun _ => 0))) hx hb (E.t _ tw_ac_int) rfl E.K hM E.zz hS 0 rfl (fun _ => rfl) (by decide) (by decide) (by decide) (by decide) (by decide) dd_Mo_init_103 (fun q103 H hq hM hS => ?_)
  obtain ⟨M1, hM1⟩ : ∃ M9 : mw_M, M9 = va_up M1 q103 (some (.inl (D.1 100, 3, .inl (fun _ => 0)))) := ⟨_, rfl⟩
  rw [← hM1] at hM
  have wm := mw_un hM1 hq wm
  have hW := mo_wn hM1 hq hW
  have hF := mw_fn hM1 hq hF
  have hA := mn_nn hM1 hq hA
  refine pf_Mo_48 E hnm hM hS wm (Nat.le_of_ble_eq_true rfl) dd_Mo_init_105 (fun H locs hM hS => ?_)
  obtain ⟨M1, hM1⟩ : ∃ M9 : mw_M, M9 = va_up M1 mm (some (.inr (13, [.int 0, .int 0, .ref q7, .int 0, .int 0, .ref q16, .ref q24, .ref q32, .int 0, .int 0, .ref q41, .int 0, .int 0, .ref q48, .int 0, .int 0, .ref q56, .ref q64, .ref q72, .ref q80, .ref q88, .ref q96, .int 0, .int 0, .ref q103, .null, .null, .null, .null, .null, .null, .null, .null, .int 0, .null, .null, .null, .null, .null, .null, .null, .int 0, .null, .int 0, .null, .int 0, .int 0, .null, .int 0, .null, .int 0, .int 0]))) := ⟨_, rfl⟩
  have hM := (show mw_at D mg_cl z (va_up _ mm (some (.inr (13, [.int 0, .int 0, .ref q7, .int 0, .int 0, .ref q16, .ref q24, .ref q32, .int 0, .int 0, .ref q41, .int 0, .int 0, .ref q48, .int 0, .int 0, .ref q56, .ref q64, .ref q72, .ref q80, .ref q88, .ref q96, .int 0, .int 0, .ref q103, .null, .null, .null, .null, .null, .null, .null, .null, .int 0, .null, .null, .null, .null, .null, .null, .null, .int 0, .null, .int 0, .null, .int 0, .int 0, .null, .int 0, .null, .int 0, .int 0])))) H from hM)
  rw [← hM1] at hM
  have hW := mo_wu hM1 wm hW
  have wm := mw_us hM1
  have hA := mn_uu hM1 hA
  have hF := mw_fu hM1 hF (mn_out (pre := q103 :: (q96 :: (q88 :: (q80 :: (q72 :: (q64 :: (q56 :: (q48 :: (q41 :: (q32 :: (q24 :: (q16 :: (q7 :: (mm :: ([]))))))))))))))) hA 13 rfl)
  refine lv_aload_n hx hb dd_Mo_init_108 rfl (lv_at hl 0 rfl) ?_
  refine lv_iconst (v := nI 3) hx hb dd_Mo_init_109 (by decide) ?_
  refine mw_newa (atype := .int) (ty := .int) (a0 := (3, .inl (fun _ => 0))) hx hb (E.t _ tw_ac_int) rfl E.K hM E.zz hS 0 rfl (fun _ => rfl) (by decide) (by decide) (by decide) (by decide) (by decide) dd_Mo_init_110 (fun q110 H hq hM hS => ?_)
  obtain ⟨M1, hM1⟩ : ∃ M9 : mw_M, M9 = va_up M1 q110 (some (.inl (D.1 100, 3, .inl (fun _ => 0)))) := ⟨_, rfl⟩
  rw [← hM1] at hM
  have wm := mw_un hM1 hq wm
  have hW := mo_wn hM1 hq hW
  have hF := mw_fn hM1 hq hF
  have hA := mn_nn hM1 hq hA
  refine pf_Mo_51 E hnm hM hS wm (Nat.le_of_ble_eq_true rfl) dd_Mo_init_112 (fun H locs hM hS => ?_)
  obtain ⟨M1, hM1⟩ : ∃ M9 : mw_M, M9 = va_up M1 mm (some (.inr (13, [.int 0, .int 0, .ref q7, .int 0, .int 0, .ref q16, .ref q24, .ref q32, .int 0, .int 0, .ref q41, .int 0, .int 0, .ref q48, .int 0, .int 0, .ref q56, .ref q64, .ref q72, .ref q80, .ref q88, .ref q96, .int 0, .int 0, .ref q103, .ref q110, .null, .null, .null, .null, .null, .null, .null, .int 0, .null, .null, .null, .null, .null, .null, .null, .int 0, .null, .int 0, .null, .int 0, .int 0, .null, .int 0, .null, .int 0, .int 0]))) := ⟨_, rfl⟩
  have hM := (show mw_at D mg_cl z (va_up _ mm (some (.inr (13, [.int 0, .int 0, .ref q7, .int 0, .int 0, .ref q16, .ref q24, .ref q32, .int 0, .int 0, .ref q41, .int 0, .int 0, .ref q48, .int 0, .int 0, .ref q56, .ref q64, .ref q72, .ref q80, .ref q88, .ref q96, .int 0, .int 0, .ref q103, .ref q110, .null, .null, .null, .null, .null, .null, .null, .int 0, .null, .null, .null, .null, .null, .null, .null, .int 0, .null, .int 0, .null, .int 0, .int 0, .null, .int 0, .null, .int 0, .int 0])))) H from hM)
  rw [← hM1] at hM
  have hW := mo_wu hM1 wm hW
  have wm := mw_us hM1
  have hA := mn_uu hM1 hA
  have hF := mw_fu hM1 hF (mn_out (pre := q110 :: (q103 :: (q96 :: (q88 :: (q80 :: (q72 :: (q64 :: (q56 :: (q48 :: (q41 :: (q32 :: (q24 :: (q16 :: (q7 :: (mm :: ([])))))))))))))))) hA 14 rfl)
  refine lv_aload_n hx hb dd_Mo_init_115 rfl (lv_at hl 0 rfl) ?_
  refine lv_sipush (v := nI 180) hx hb dd_Mo_init_116 (by decide) ?_
  refine mw_newa (atype := .int) (ty := .int) (a0 := (180, .inl (fun _ => 0))) hx hb (E.t _ tw_ac_int) rfl E.K hM E.zz hS 0 rfl (fun _ => rfl) (by decide) (by decide) (by decide) (by decide) (by decide) dd_Mo_init_119 (fun q119 H hq hM hS => ?_)
  obtain ⟨M1, hM1⟩ : ∃ M9 : mw_M, M9 = va_up M1 q119 (some (.inl (D.1 100, 180, .inl (fun _ => 0)))) := ⟨_, rfl⟩
  rw [← hM1] at hM
  have wm := mw_un hM1 hq wm
  have hW := mo_wn hM1 hq hW
  have hF := mw_fn hM1 hq hF
  have hA := mn_nn hM1 hq hA
  refine pf_Mo_54 E hnm hM hS wm (Nat.le_of_ble_eq_true rfl) dd_Mo_init_121 (fun H locs hM hS => ?_)
  obtain ⟨M1, hM1⟩ : ∃ M9 : mw_M, M9 = va_up M1 mm (some (.inr (13, [.int 0, .int 0, .ref q7, .int 0, .int 0, .ref q16, .ref q24, .ref q32, .int 0, .int 0, .ref q41, .int 0, .int 0, .ref q48, .int 0, .int 0, .ref q56, .ref q64, .ref q72, .ref q80, .ref q88, .ref q96, .int 0, .int 0, .ref q103, .ref q110, .ref q119, .null, .null, .null, .null, .null, .null, .int 0, .null, .null, .null, .null, .null, .null, .null, .int 0, .null, .int 0, .null, .int 0, .int 0, .null, .int 0, .null, .int 0, .int 0]))) := ⟨_, rfl⟩
  have hM := (show mw_at D mg_cl z (va_up _ mm (some (.inr (13, [.int 0, .int 0, .ref q7, .int 0, .int 0, .ref q16, .ref q24, .ref q32, .int 0, .int 0, .ref q41, .int 0, .int 0, .ref q48, .int 0, .int 0, .ref q56, .ref q64, .ref q72, .ref q80, .ref q88, .ref q96, .int 0, .int 0, .ref q103, .ref q110, .ref q119, .null, .null, .null, .null, .null, .null, .int 0, .null, .null, .null, .null, .null, .null, .null, .int 0, .null, .int 0, .null, .int 0, .int 0, .null, .int 0, .null, .int 0, .int 0])))) H from hM)
  rw [← hM1] at hM
  have hW := mo_wu hM1 wm hW
  have wm := mw_us hM1
  have hA := mn_uu hM1 hA
  have hF := mw_fu hM1 hF (mn_out (pre := q119 :: (q110 :: (q103 :: (q96 :: (q88 :: (q80 :: (q72 :: (q64 :: (q56 :: (q48 :: (q41 :: (q32 :: (q24 :: (q16 :: (q7 :: (mm :: ([]))))))))))))))))) hA 15 rfl)
  refine lv_aload_n hx hb dd_Mo_init_124 rfl (lv_at hl 0 rfl) ?_
  refine lv_sipush (v := nI 180) hx hb dd_Mo_init_125 (by decide) ?_
  refine mw_newa (atype := .int) (ty := .int) (a0 := (180, .inl (fun _ => 0))) hx hb (E.t _ tw_ac_int) rfl E.K hM E.zz hS 0 rfl (fun _ => rfl) (by decide) (by decide) (by decide) (by decide) (by decide) dd_Mo_init_128 (fun q128 H hq hM hS => ?_)
  obtain ⟨M1, hM1⟩ : ∃ M9 : mw_M, M9 = va_up M1 q128 (some (.inl (D.1 100, 180, .inl (fun _ => 0)))) := ⟨_, rfl⟩
  rw [← hM1] at hM
  have wm := mw_un hM1 hq wm
  have hW := mo_wn hM1 hq hW
  have hF := mw_fn hM1 hq hF
  have hA := mn_nn hM1 hq hA
  refine pf_Mo_57 E hnm hM hS wm (Nat.le_of_ble_eq_true rfl) dd_Mo_init_130 (fun H locs hM hS => ?_)
  obtain ⟨M1, hM1⟩ : ∃ M9 : mw_M, M9 = va_up M1 mm (some (.inr (13, [.int 0, .int 0, .ref q7, .int 0, .int 0, .ref q16, .ref q24, .ref q32, .int 0, .int 0, .ref q41, .int 0, .int 0, .ref q48, .int 0, .int 0, .ref q56, .ref q64, .ref q72, .ref q80, .ref q88, .ref q96, .int 0, .int 0, .ref q103, .ref q110, .ref q119, .ref q128, .null, .null, .null, .null, .null, .int 0, .null, .null, .null, .null, .null, .null, .null, .int 0, .null, .int 0, .null, .int 0, .int 0, .null, .int 0, .null, .int 0, .int 0]))) := ⟨_, rfl⟩
  have hM := (show mw_at D mg_cl z (va_up _ mm (some (.inr (13, [.int 0, .int 0, .ref q7, .int 0, .int 0, .ref q16, .ref q24, .ref q32, .int 0, .int 0, .ref q41, .int 0, .int 0, .ref q48, .int 0, .int 0, .ref q56, .ref q64, .ref q72, .ref q80, .ref q88, .ref q96, .int 0, .int 0, .ref q103, .ref q110, .ref q119, .ref q128, .null, .null, .null, .null, .null, .int 0, .null, .null, .null, .null, .null, .null, .null, .int 0, .null, .int 0, .null, .int 0, .int 0, .null, .int 0, .null, .int 0, .int 0])))) H from hM)
  rw [← hM1] at hM
  have hW := mo_wu hM1 wm hW
  have wm := mw_us hM1
  have hA := mn_uu hM1 hA
  have hF := mw_fu hM1 hF (mn_out (pre := q128 :: (q119 :: (q110 :: (q103 :: (q96 :: (q88 :: (q80 :: (q72 :: (q64 :: (q56 :: (q48 :: (q41 :: (q32 :: (q24 :: (q16 :: (q7 :: (mm :: ([])))))))))))))))))) hA 16 rfl)
  refine lv_aload_n hx hb dd_Mo_init_133 rfl (lv_at hl 0 rfl) ?_
  refine lv_sipush (v := nI 180) hx hb dd_Mo_init_134 (by decide) ?_
  refine mw_newa (atype := .int) (ty := .int) (a0 := (180, .inl (fun _ => 0))) hx hb (E.t _ tw_ac_int) rfl E.K hM E.zz hS 0 rfl (fun _ => rfl) (by decide) (by decide) (by decide) (by decide) (by decide) dd_Mo_init_137 (fun q137 H hq hM hS => ?_)
  obtain ⟨M1, hM1⟩ : ∃ M9 : mw_M, M9 = va_up M1 q137 (some (.inl (D.1 100, 180, .inl (fun _ => 0)))) := ⟨_, rfl⟩
  rw [← hM1] at hM
  have wm := mw_un hM1 hq wm
  have hW := mo_wn hM1 hq hW
  have hF := mw_fn hM1 hq hF
  have hA := mn_nn hM1 hq hA
  refine pf_Mo_60 E hnm hM hS wm (Nat.le_of_ble_eq_true rfl) dd_Mo_init_139 (fun H locs hM hS => ?_)
  obtain ⟨M1, hM1⟩ : ∃ M9 : mw_M, M9 = va_up M1 mm (some (.inr (13, [.int 0, .int 0, .ref q7, .int 0, .int 0, .ref q16, .ref q24, .ref q32, .int 0, .int 0, .ref q41, .int 0, .int 0, .ref q48, .int 0, .int 0, .ref q56, .ref q64, .ref q72, .ref q80, .ref q88, .ref q96, .int 0, .int 0, .ref q103, .ref q110, .ref q119, .ref q128, .ref q137, .null, .null, .null, .null, .int 0, .null, .null, .null, .null, .null, .null, .null, .int 0, .null, .int 0, .null, .int 0, .int 0, .null, .int 0, .null, .int 0, .int 0]))) := ⟨_, rfl⟩
  have hM := (show mw_at D mg_cl z (va_up _ mm (some (.inr (13, [.int 0, .int 0, .ref q7, .int 0, .int 0, .ref q16, .ref q24, .ref q32, .int 0, .int 0, .ref q41, .int 0, .int 0, .ref q48, .int 0, .int 0, .ref q56, .ref q64, .ref q72, .ref q80, .ref q88, .ref q96, .int 0, .int 0, .ref q103, .ref q110, .ref q119, .ref q128, .ref q137, .null, .null, .null, .null, .int 0, .null, .null, .null, .null, .null, .null, .null, .int 0, .null, .int 0, .null, .int 0, .int 0, .null, .int 0, .null, .int 0, .int 0])))) H from hM)
  rw [← hM1] at hM
  have hW := mo_wu hM1 wm hW
  have wm := mw_us hM1
  have hA := mn_uu hM1 hA
  have hF := mw_fu hM1 hF (mn_out (pre := q137 :: (q128 :: (q119 :: (q110 :: (q103 :: (q96 :: (q88 :: (q80 :: (q72 :: (q64 :: (q56 :: (q48 :: (q41 :: (q32 :: (q24 :: (q16 :: (q7 :: (mm :: ([]))))))))))))))))))) hA 17 rfl)
  refine lv_aload_n hx hb dd_Mo_init_142 rfl (lv_at hl 0 rfl) ?_
  refine lv_sipush (v := nI 180) hx hb dd_Mo_init_143 (by decide) ?_
  refine mw_newa (atype := .int) (ty := .int) (a0 := (180, .inl (fun _ => 0))) hx hb (E.t _ tw_ac_int) rfl E.K hM E.zz hS 0 rfl (fun _ => rfl) (by decide) (by decide) (by decide) (by decide) (by decide) dd_Mo_init_146 (fun q146 H hq hM hS => ?_)
  obtain ⟨M1, hM1⟩ : ∃ M9 : mw_M, M9 = va_up M1 q146 (some (.inl (D.1 100, 180, .inl (fun _ => 0)))) := ⟨_, rfl⟩
  rw [← hM1] at hM
  have wm := mw_un hM1 hq wm
  have hW := mo_wn hM1 hq hW
  have hF := mw_fn hM1 hq hF
  have hA := mn_nn hM1 hq hA
  refine pf_Mo_63 E hnm hM hS wm (Nat.le_of_ble_eq_true rfl) dd_Mo_init_148 (fun H locs hM hS => ?_)
  obtain ⟨M1, hM1⟩ : ∃ M9 : mw_M, M9 = va_up M1 mm (some (.inr (13, [.int 0, .int 0, .ref q7, .int 0, .int 0, .ref q16, .ref q24, .ref q32, .int 0, .int 0, .ref q41, .int 0, .int 0, .ref q48, .int 0, .int 0, .ref q56, .ref q64, .ref q72, .ref q80, .ref q88, .ref q96, .int 0, .int 0, .ref q103, .ref q110, .ref q119, .ref q128, .ref q137, .ref q146, .null, .null, .null, .int 0, .null, .null, .null, .null, .null, .null, .null, .int 0, .null, .int 0, .null, .int 0, .int 0, .null, .int 0, .null, .int 0, .int 0]))) := ⟨_, rfl⟩
  have hM := (show mw_at D mg_cl z (va_up _ mm (some (.inr (13, [.int 0, .int 0, .ref q7, .int 0, .int 0, .ref q16, .ref q24, .ref q32, .int 0, .int 0, .ref q41, .int 0, .int 0, .ref q48, .int 0, .int 0, .ref q56, .ref q64, .ref q72, .ref q80, .ref q88, .ref q96, .int 0, .int 0, .ref q103, .ref q110, .ref q119, .ref q128, .ref q137, .ref q146, .null, .null, .null, .int 0, .null, .null, .null, .null, .null, .null, .null, .int 0, .null, .int 0, .null, .int 0, .int 0, .null, .int 0, .null, .int 0, .int 0])))) H from hM)
  rw [← hM1] at hM
  have hW := mo_wu hM1 wm hW
  have wm := mw_us hM1
  have hA := mn_uu hM1 hA
  have hF := mw_fu hM1 hF (mn_out (pre := q146 :: (q137 :: (q128 :: (q119 :: (q110 :: (q103 :: (q96 :: (q88 :: (q80 :: (q72 :: (q64 :: (q56 :: (q48 :: (q41 :: (q32 :: (q24 :: (q16 :: (q7 :: (mm :: ([])))))))))))))))))))) hA 18 rfl)
  refine lv_aload_n hx hb dd_Mo_init_151 rfl (lv_at hl 0 rfl) ?_
  refine lv_bipush (v := nI 12) hx hb dd_Mo_init_152 (by decide) ?_
  refine mw_newa (atype := .int) (ty := .int) (a0 := (12, .inl (fun _ => 0))) hx hb (E.t _ tw_ac_int) rfl E.K hM E.zz hS 0 rfl (fun _ => rfl) (by decide) (by decide) (by decide) (by decide) (by decide) dd_Mo_init_154 (fun q154 H hq hM hS => ?_)
  obtain ⟨M1, hM1⟩ : ∃ M9 : mw_M, M9 = va_up M1 q154 (some (.inl (D.1 100, 12, .inl (fun _ => 0)))) := ⟨_, rfl⟩
  rw [← hM1] at hM
  have wm := mw_un hM1 hq wm
  have hW := mo_wn hM1 hq hW
  have hF := mw_fn hM1 hq hF
  have hA := mn_nn hM1 hq hA
  refine pf_Mo_66 E hnm hM hS wm (Nat.le_of_ble_eq_true rfl) dd_Mo_init_156 (fun H locs hM hS => ?_)
  obtain ⟨M1, hM1⟩ : ∃ M9 : mw_M, M9 = va_up M1 mm (some (.inr (13, [.int 0, .int 0, .ref q7, .int 0, .int 0, .ref q16, .ref q24, .ref q32, .int 0, .int 0, .ref q41, .int 0, .int 0, .ref q48, .int 0, .int 0, .ref q56, .ref q64, .ref q72, .ref q80, .ref q88, .ref q96, .int 0, .int 0, .ref q103, .ref q110, .ref q119, .ref q128, .ref q137, .ref q146, .ref q154, .null, .null, .int 0, .null, .null, .null, .null, .null, .null, .null, .int 0, .null, .int 0, .null, .int 0, .int 0, .null, .int 0, .null, .int 0, .int 0]))) := ⟨_, rfl⟩
  have hM := (show mw_at D mg_cl z (va_up _ mm (some (.inr (13, [.int 0, .int 0, .ref q7, .int 0, .int 0, .ref q16, .ref q24, .ref q32, .int 0, .int 0, .ref q41, .int 0, .int 0, .ref q48, .int 0, .int 0, .ref q56, .ref q64, .ref q72, .ref q80, .ref q88, .ref q96, .int 0, .int 0, .ref q103, .ref q110, .ref q119, .ref q128, .ref q137, .ref q146, .ref q154, .null, .null, .int 0, .null, .null, .null, .null, .null, .null, .null, .int 0, .null, .int 0, .null, .int 0, .int 0, .null, .int 0, .null, .int 0, .int 0])))) H from hM)
  rw [← hM1] at hM
  have hW := mo_wu hM1 wm hW
  have wm := mw_us hM1
  have hA := mn_uu hM1 hA
  have hF := mw_fu hM1 hF (mn_out (pre := q154 :: (q146 :: (q137 :: (q128 :: (q119 :: (q110 :: (q103 :: (q96 :: (q88 :: (q80 :: (q72 :: (q64 :: (q56 :: (q48 :: (q41 :: (q32 :: (q24 :: (q16 :: (q7 :: (mm :: ([]))))))))))))))))))))) hA 19 rfl)
  refine lv_aload_n hx hb dd_Mo_init_159 rfl (lv_at hl 0 rfl) ?_
  refine lv_iconst (v := nI 3) hx hb dd_Mo_init_160 (by decide) ?_
  refine mw_newa (atype := .int) (ty := .int) (a0 := (3, .inl (fun _ => 0))) hx hb (E.t _ tw_ac_int) rfl E.K hM E.zz hS 0 rfl (fun _ => rfl) (by decide) (by decide) (by decide) (by decide) (by decide) dd_Mo_init_161 (fun q161 H hq hM hS => ?_)
  obtain ⟨M1, hM1⟩ : ∃ M9 : mw_M, M9 = va_up M1 q161 (some (.inl (D.1 100, 3, .inl (fun _ => 0)))) := ⟨_, rfl⟩
  rw [← hM1] at hM
  have wm := mw_un hM1 hq wm
  have hW := mo_wn hM1 hq hW
  have hF := mw_fn hM1 hq hF
  have hA := mn_nn hM1 hq hA
  refine pf_Mo_69 E hnm hM hS wm (Nat.le_of_ble_eq_true rfl) dd_Mo_init_163 (fun H locs hM hS => ?_)
  obtain ⟨M1, hM1⟩ : ∃ M9 : mw_M, M9 = va_up M1 mm (some (.inr (13, [.int 0, .int 0, .ref q7, .int 0, .int 0, .ref q16, .ref q24, .ref q32, .int 0, .int 0, .ref q41, .int 0, .int 0, .ref q48, .int 0, .int 0, .ref q56, .ref q64, .ref q72, .ref q80, .ref q88, .ref q96, .int 0, .int 0, .ref q103, .ref q110, .ref q119, .ref q128, .ref q137, .ref q146, .ref q154, .ref q161, .null, .int 0, .null, .null, .null, .null, .null, .null, .null, .int 0, .null, .int 0, .null, .int 0, .int 0, .null, .int 0, .null, .int 0, .int 0]))) := ⟨_, rfl⟩
  have hM := (show mw_at D mg_cl z (va_up _ mm (some (.inr (13, [.int 0, .int 0, .ref q7, .int 0, .int 0, .ref q16, .ref q24, .ref q32, .int 0, .int 0, .ref q41, .int 0, .int 0, .ref q48, .int 0, .int 0, .ref q56, .ref q64, .ref q72, .ref q80, .ref q88, .ref q96, .int 0, .int 0, .ref q103, .ref q110, .ref q119, .ref q128, .ref q137, .ref q146, .ref q154, .ref q161, .null, .int 0, .null, .null, .null, .null, .null, .null, .null, .int 0, .null, .int 0, .null, .int 0, .int 0, .null, .int 0, .null, .int 0, .int 0])))) H from hM)
  rw [← hM1] at hM
  have hW := mo_wu hM1 wm hW
  have wm := mw_us hM1
  have hA := mn_uu hM1 hA
  have hF := mw_fu hM1 hF (mn_out (pre := q161 :: (q154 :: (q146 :: (q137 :: (q128 :: (q119 :: (q110 :: (q103 :: (q96 :: (q88 :: (q80 :: (q72 :: (q64 :: (q56 :: (q48 :: (q41 :: (q32 :: (q24 :: (q16 :: (q7 :: (mm :: ([])))))))))))))))))))))) hA 20 rfl)
  refine lv_aload_n hx hb dd_Mo_init_166 rfl (lv_at hl 0 rfl) ?_
  refine lv_iconst (v := nI 3) hx hb dd_Mo_init_167 (by decide) ?_
  refine mw_newa (atype := .int) (ty := .int) (a0 := (3, .inl (fun _ => 0))) hx hb (E.t _ tw_ac_int) rfl E.K hM E.zz hS 0 rfl (fun _ => rfl) (by decide) (by decide) (by decide) (by decide) (by decide) dd_Mo_init_168 (fun q168 H hq hM hS => ?_)
  obtain ⟨M1, hM1⟩ : ∃ M9 : mw_M, M9 = va_up M1 q168 (some (.inl (D.1 100, 3, .inl (fun _ => 0)))) := ⟨_, rfl⟩
  rw [← hM1] at hM
  have wm := mw_un hM1 hq wm
  have hW := mo_wn hM1 hq hW
  have hF := mw_fn hM1 hq hF
  have hA := mn_nn hM1 hq hA
  refine pf_Mo_72 E hnm hM hS wm (Nat.le_of_ble_eq_true rfl) dd_Mo_init_170 (fun H locs hM hS => ?_)
  obtain ⟨M1, hM1⟩ : ∃ M9 : mw_M, M9 = va_up M1 mm (some (.inr (13, [.int 0, .int 0, .ref q7, .int 0, .int 0, .ref q16, .ref q24, .ref q32, .int 0, .int 0, .ref q41, .int 0, .int 0, .ref q48, .int 0, .int 0, .ref q56, .ref q64, .ref q72, .ref q80, .ref q88, .ref q96, .int 0, .int 0, .ref q103, .ref q110, .ref q119, .ref q128, .ref q137, .ref q146, .ref q154, .ref q161, .ref q168, .int 0, .null, .null, .null, .null, .null, .null, .null, .int 0, .null, .int 0, .null, .int 0, .int 0, .null, .int 0, .null, .int 0, .int 0]))) := ⟨_, rfl⟩
  have hM := (show mw_at D mg_cl z (va_up _ mm (some (.inr (13, [.int 0, .int 0, .ref q7, .int 0, .int 0, .ref q16, .ref q24, .ref q32, .int 0, .int 0, .ref q41, .int 0, .int 0, .ref q48, .int 0, .int 0, .ref q56, .ref q64, .ref q72, .ref q80, .ref q88, .ref q96, .int 0, .int 0, .ref q103, .ref q110, .ref q119, .ref q128, .ref q137, .ref q146, .ref q154, .ref q161, .ref q168, .int 0, .null, .null, .null, .null, .null, .null, .null, .int 0, .null, .int 0, .null, .int 0, .int 0, .null, .int 0, .null, .int 0, .int 0])))) H from hM)
  rw [← hM1] at hM
  have hW := mo_wu hM1 wm hW
  have wm := mw_us hM1
  have hA := mn_uu hM1 hA
  have hF := mw_fu hM1 hF (mn_out (pre := q168 :: (q161 :: (q154 :: (q146 :: (q137 :: (q128 :: (q119 :: (q110 :: (q103 :: (q96 :: (q88 :: (q80 :: (q72 :: (q64 :: (q56 :: (q48 :: (q41 :: (q32 :: (q24 :: (q16 :: (q7 :: (mm :: ([]))))))))))))))))))))))) hA 21 rfl)
  refine lv_aload_n hx hb dd_Mo_init_173 rfl (lv_at hl 0 rfl) ?_
  refine lv_iconst (v := nI 4) hx hb dd_Mo_init_174 (by decide) ?_
  refine mw_newa (atype := .int) (ty := .int) (a0 := (4, .inl (fun _ => 0))) hx hb (E.t _ tw_ac_int) rfl E.K hM E.zz hS 0 rfl (fun _ => rfl) (by decide) (by decide) (by decide) (by decide) (by decide) dd_Mo_init_175 (fun q175 H hq hM hS => ?_)
  obtain ⟨M1, hM1⟩ : ∃ M9 : mw_M, M9 = va_up M1 q175 (some (.inl (D.1 100, 4, .inl (fun _ => 0)))) := ⟨_, rfl⟩
  rw [← hM1] at hM
  have wm := mw_un hM1 hq wm
  have hW := mo_wn hM1 hq hW
  have hF := mw_fn hM1 hq hF
  have hA := mn_nn hM1 hq hA
  refine pf_Mo_75 E hnm hM hS wm (Nat.le_of_ble_eq_true rfl) dd_Mo_init_177 (fun H locs hM hS => ?_)
  obtain ⟨M1, hM1⟩ : ∃ M9 : mw_M, M9 = va_up M1 mm (some (.inr (13, [.int 0, .int 0, .ref q7, .int 0, .int 0, .ref q16, .ref q24, .ref q32, .int 0, .int 0, .ref q41, .int 0, .int 0, .ref q48, .int 0, .int 0, .ref q56, .ref q64, .ref q72, .ref q80, .ref q88, .ref q96, .int 0, .int 0, .ref q103, .ref q110, .ref q119, .ref q128, .ref q137, .ref q146, .ref q154, .ref q161, .ref q168, .int 0, .ref q175, .null, .null, .null, .null, .null, .null, .int 0, .null, .int 0, .null, .int 0, .int 0, .null, .int 0, .null, .int 0, .int 0]))) := ⟨_, rfl⟩
  have hM := (show mw_at D mg_cl z (va_up _ mm (some (.inr (13, [.int 0, .int 0, .ref q7, .int 0, .int 0, .ref q16, .ref q24, .ref q32, .int 0, .int 0, .ref q41, .int 0, .int 0, .ref q48, .int 0, .int 0, .ref q56, .ref q64, .ref q72, .ref q80, .ref q88, .ref q96, .int 0, .int 0, .ref q103, .ref q110, .ref q119, .ref q128, .ref q137, .ref q146, .ref q154, .ref q161, .ref q168, .int 0, .ref q175, .null, .null, .null, .null, .null, .null, .int 0, .null, .int 0, .null, .int 0, .int 0, .null, .int 0, .null, .int 0, .int 0])))) H from hM)
  rw [← hM1] at hM
  have hW := mo_wu hM1 wm hW
  have wm := mw_us hM1
  have hA := mn_uu hM1 hA
  have hF := mw_fu hM1 hF (mn_out (pre := q175 :: (q168 :: (q161 :: (q154 :: (q146 :: (q137 :: (q128 :: (q119 :: (q110 :: (q103 :: (q96 :: (q88 :: (q80 :: (q72 :: (q64 :: (q56 :: (q48 :: (q41 :: (q32 :: (q24 :: (q16 :: (q7 :: (mm :: ([])))))))))))))))))))))))) hA 22 rfl)
  refine lv_aload_n hx hb dd_Mo_init_180 rfl (lv_at hl 0 rfl) ?_
  refine lv_iconst (v := nI 4) hx hb dd_Mo_init_181 (by decide) ?_
  refine mw_newa (atype := .int) (ty := .int) (a0 := (4, .inl (fun _ => 0))) hx hb (E.t _ tw_ac_int) rfl E.K hM E.zz hS 0 rfl (fun _ => rfl) (by decide) (by decide) (by decide) (by decide) (by decide) dd_Mo_init_182 (fun q182 H hq hM hS => ?_)
  obtain ⟨M1, hM1⟩ : ∃ M9 : mw_M, M9 = va_up M1 q182 (some (.inl (D.1 100, 4, .inl (fun _ => 0)))) := ⟨_, rfl⟩
  rw [← hM1] at hM
  have wm := mw_un hM1 hq wm
  have hW := mo_wn hM1 hq hW
  have hF := mw_fn hM1 hq hF
  have hA := mn_nn hM1 hq hA
  refine pf_Mo_78 E hnm hM hS wm (Nat.le_of_ble_eq_true rfl) dd_Mo_init_184 (fun H locs hM hS => ?_)
  obtain ⟨M1, hM1⟩ : ∃ M9 : mw_M, M9 = va_up M1 mm (some (.inr (13, [.int 0, .int 0, .ref q7, .int 0, .int 0, .ref q16, .ref q24, .ref q32, .int 0, .int 0, .ref q41, .int 0, .int 0, .ref q48, .int 0, .int 0, .ref q56, .ref q64, .ref q72, .ref q80, .ref q88, .ref q96, .int 0, .int 0, .ref q103, .ref q110, .ref q119, .ref q128, .ref q137, .ref q146, .ref q154, .ref q161, .ref q168, .int 0, .ref q175, .ref q182, .null, .null, .null, .null, .null, .int 0, .null, .int 0, .null, .int 0, .int 0, .null, .int 0, .null, .int 0, .int 0]))) := ⟨_, rfl⟩
  have hM := (show mw_at D mg_cl z (va_up _ mm (some (.inr (13, [.int 0, .int 0, .ref q7, .int 0, .int 0, .ref q16, .ref q24, .ref q32, .int 0, .int 0, .ref q41, .int 0, .int 0, .ref q48, .int 0, .int 0, .ref q56, .ref q64, .ref q72, .ref q80, .ref q88, .ref q96, .int 0, .int 0, .ref q103, .ref q110, .ref q119, .ref q128, .ref q137, .ref q146, .ref q154, .ref q161, .ref q168, .int 0, .ref q175, .ref q182, .null, .null, .null, .null, .null, .int 0, .null, .int 0, .null, .int 0, .int 0, .null, .int 0, .null, .int 0, .int 0])))) H from hM)
  rw [← hM1] at hM
  have hW := mo_wu hM1 wm hW
  have wm := mw_us hM1
  have hA := mn_uu hM1 hA
  have hF := mw_fu hM1 hF (mn_out (pre := q182 :: (q175 :: (q168 :: (q161 :: (q154 :: (q146 :: (q137 :: (q128 :: (q119 :: (q110 :: (q103 :: (q96 :: (q88 :: (q80 :: (q72 :: (q64 :: (q56 :: (q48 :: (q41 :: (q32 :: (q24 :: (q16 :: (q7 :: (mm :: ([]))))))))))))))))))))))))) hA 23 rfl)
  refine lv_aload_n hx hb dd_Mo_init_187 rfl (lv_at hl 0 rfl) ?_
  refine lv_iconst (v := nI 4) hx hb dd_Mo_init_188 (by decide) ?_
  refine mw_newa (atype := .int) (ty := .int) (a0 := (4, .inl (fun _ => 0))) hx hb (E.t _ tw_ac_int) rfl E.K hM E.zz hS 0 rfl (fun _ => rfl) (by decide) (by decide) (by decide) (by decide) (by decide) dd_Mo_init_189 (fun q189 H hq hM hS => ?_)
  obtain ⟨M1, hM1⟩ : ∃ M9 : mw_M, M9 = va_up M1 q189 (some (.inl (D.1 100, 4, .inl (fun _ => 0)))) := ⟨_, rfl⟩
  rw [← hM1] at hM
  have wm := mw_un hM1 hq wm
  have hW := mo_wn hM1 hq hW
  have hF := mw_fn hM1 hq hF
  have hA := mn_nn hM1 hq hA
  refine pf_Mo_81 E hnm hM hS wm (Nat.le_of_ble_eq_true rfl) dd_Mo_init_191 (fun H locs hM hS => ?_)
  obtain ⟨M1, hM1⟩ : ∃ M9 : mw_M, M9 = va_up M1 mm (some (.inr (13, [.int 0, .int 0, .ref q7, .int 0, .int 0, .ref q16, .ref q24, .ref q32, .int 0, .int 0, .ref q41, .int 0, .int 0, .ref q48, .int 0, .int 0, .ref q56, .ref q64, .ref q72, .ref q80, .ref q88, .ref q96, .int 0, .int 0, .ref q103, .ref q110, .ref q119, .ref q128, .ref q137, .ref q146, .ref q154, .ref q161, .ref q168, .int 0, .ref q175, .ref q182, .ref q189, .null, .null, .null, .null, .int 0, .null, .int 0, .null, .int 0, .int 0, .null, .int 0, .null, .int 0, .int 0]))) := ⟨_, rfl⟩
  have hM := (show mw_at D mg_cl z (va_up _ mm (some (.inr (13, [.int 0, .int 0, .ref q7, .int 0, .int 0, .ref q16, .ref q24, .ref q32, .int 0, .int 0, .ref q41, .int 0, .int 0, .ref q48, .int 0, .int 0, .ref q56, .ref q64, .ref q72, .ref q80, .ref q88, .ref q96, .int 0, .int 0, .ref q103, .ref q110, .ref q119, .ref q128, .ref q137, .ref q146, .ref q154, .ref q161, .ref q168, .int 0, .ref q175, .ref q182, .ref q189, .null, .null, .null, .null, .int 0, .null, .int 0, .null, .int 0, .int 0, .null, .int 0, .null, .int 0, .int 0])))) H from hM)
  rw [← hM1] at hM
  have hW := mo_wu hM1 wm hW
  have wm := mw_us hM1
  have hA := mn_uu hM1 hA
  have hF := mw_fu hM1 hF (mn_out (pre := q189 :: (q182 :: (q175 :: (q168 :: (q161 :: (q154 :: (q146 :: (q137 :: (q128 :: (q119 :: (q110 :: (q103 :: (q96 :: (q88 :: (q80 :: (q72 :: (q64 :: (q56 :: (q48 :: (q41 :: (q32 :: (q24 :: (q16 :: (q7 :: (mm :: ([])))))))))))))))))))))))))) hA 24 rfl)
  refine lv_aload_n hx hb dd_Mo_init_194 rfl (lv_at hl 0 rfl) ?_
  refine lv_bipush (v := nI 48) hx hb dd_Mo_init_195 (by decide) ?_
  refine mw_newa (atype := .int) (ty := .int) (a0 := (48, .inl (fun _ => 0))) hx hb (E.t _ tw_ac_int) rfl E.K hM E.zz hS 0 rfl (fun _ => rfl) (by decide) (by decide) (by decide) (by decide) (by decide) dd_Mo_init_197 (fun q197 H hq hM hS => ?_)
  obtain ⟨M1, hM1⟩ : ∃ M9 : mw_M, M9 = va_up M1 q197 (some (.inl (D.1 100, 48, .inl (fun _ => 0)))) := ⟨_, rfl⟩
  rw [← hM1] at hM
  have wm := mw_un hM1 hq wm
  have hW := mo_wn hM1 hq hW
  have hF := mw_fn hM1 hq hF
  have hA := mn_nn hM1 hq hA
  refine pf_Mo_84 E hnm hM hS wm (Nat.le_of_ble_eq_true rfl) dd_Mo_init_199 (fun H locs hM hS => ?_)
  obtain ⟨M1, hM1⟩ : ∃ M9 : mw_M, M9 = va_up M1 mm (some (.inr (13, [.int 0, .int 0, .ref q7, .int 0, .int 0, .ref q16, .ref q24, .ref q32, .int 0, .int 0, .ref q41, .int 0, .int 0, .ref q48, .int 0, .int 0, .ref q56, .ref q64, .ref q72, .ref q80, .ref q88, .ref q96, .int 0, .int 0, .ref q103, .ref q110, .ref q119, .ref q128, .ref q137, .ref q146, .ref q154, .ref q161, .ref q168, .int 0, .ref q175, .ref q182, .ref q189, .ref q197, .null, .null, .null, .int 0, .null, .int 0, .null, .int 0, .int 0, .null, .int 0, .null, .int 0, .int 0]))) := ⟨_, rfl⟩
  have hM := (show mw_at D mg_cl z (va_up _ mm (some (.inr (13, [.int 0, .int 0, .ref q7, .int 0, .int 0, .ref q16, .ref q24, .ref q32, .int 0, .int 0, .ref q41, .int 0, .int 0, .ref q48, .int 0, .int 0, .ref q56, .ref q64, .ref q72, .ref q80, .ref q88, .ref q96, .int 0, .int 0, .ref q103, .ref q110, .ref q119, .ref q128, .ref q137, .ref q146, .ref q154, .ref q161, .ref q168, .int 0, .ref q175, .ref q182, .ref q189, .ref q197, .null, .null, .null, .int 0, .null, .int 0, .null, .int 0, .int 0, .null, .int 0, .null, .int 0, .int 0])))) H from hM)
  rw [← hM1] at hM
  have hW := mo_wu hM1 wm hW
  have wm := mw_us hM1
  have hA := mn_uu hM1 hA
  have hF := mw_fu hM1 hF (mn_out (pre := q197 :: (q189 :: (q182 :: (q175 :: (q168 :: (q161 :: (q154 :: (q146 :: (q137 :: (q128 :: (q119 :: (q110 :: (q103 :: (q96 :: (q88 :: (q80 :: (q72 :: (q64 :: (q56 :: (q48 :: (q41 :: (q32 :: (q24 :: (q16 :: (q7 :: (mm :: ([]))))))))))))))))))))))))))) hA 25 rfl)
  refine lv_aload_n hx hb dd_Mo_init_202 rfl (lv_at hl 0 rfl) ?_
  refine lv_iconst (v := nI 4) hx hb dd_Mo_init_203 (by decide) ?_
  refine mw_newa (atype := .int) (ty := .int) (a0 := (4, .inl (fun _ => 0))) hx hb (E.t _ tw_ac_int) rfl E.K hM E.zz hS 0 rfl (fun _ => rfl) (by decide) (by decide) (by decide) (by decide) (by decide) dd_Mo_init_204 (fun q204 H hq hM hS => ?_)
  obtain ⟨M1, hM1⟩ : ∃ M9 : mw_M, M9 = va_up M1 q204 (some (.inl (D.1 100, 4, .inl (fun _ => 0)))) := ⟨_, rfl⟩
  rw [← hM1] at hM
  have wm := mw_un hM1 hq wm
  have hW := mo_wn hM1 hq hW
  have hF := mw_fn hM1 hq hF
  have hA := mn_nn hM1 hq hA
  refine pf_Mo_87 E hnm hM hS wm (Nat.le_of_ble_eq_true rfl) dd_Mo_init_206 (fun H locs hM hS => ?_)
  obtain ⟨M1, hM1⟩ : ∃ M9 : mw_M, M9 = va_up M1 mm (some (.inr (13, [.int 0, .int 0, .ref q7, .int 0, .int 0, .ref q16, .ref q24, .ref q32, .int 0, .int 0, .ref q41, .int 0, .int 0, .ref q48, .int 0, .int 0, .ref q56, .ref q64, .ref q72, .ref q80, .ref q88, .ref q96, .int 0, .int 0, .ref q103, .ref q110, .ref q119, .ref q128, .ref q137, .ref q146, .ref q154, .ref q161, .ref q168, .int 0, .ref q175, .ref q182, .ref q189, .ref q197, .ref q204, .null, .null, .int 0, .null, .int 0, .null, .int 0, .int 0, .null, .int 0, .null, .int 0, .int 0]))) := ⟨_, rfl⟩
  have hM := (show mw_at D mg_cl z (va_up _ mm (some (.inr (13, [.int 0, .int 0, .ref q7, .int 0, .int 0, .ref q16, .ref q24, .ref q32, .int 0, .int 0, .ref q41, .int 0, .int 0, .ref q48, .int 0, .int 0, .ref q56, .ref q64, .ref q72, .ref q80, .ref q88, .ref q96, .int 0, .int 0, .ref q103, .ref q110, .ref q119, .ref q128, .ref q137, .ref q146, .ref q154, .ref q161, .ref q168, .int 0, .ref q175, .ref q182, .ref q189, .ref q197, .ref q204, .null, .null, .int 0, .null, .int 0, .null, .int 0, .int 0, .null, .int 0, .null, .int 0, .int 0])))) H from hM)
  rw [← hM1] at hM
  have hW := mo_wu hM1 wm hW
  have wm := mw_us hM1
  have hA := mn_uu hM1 hA
  have hF := mw_fu hM1 hF (mn_out (pre := q204 :: (q197 :: (q189 :: (q182 :: (q175 :: (q168 :: (q161 :: (q154 :: (q146 :: (q137 :: (q128 :: (q119 :: (q110 :: (q103 :: (q96 :: (q88 :: (q80 :: (q72 :: (q64 :: (q56 :: (q48 :: (q41 :: (q32 :: (q24 :: (q16 :: (q7 :: (mm :: ([])))))))))))))))))))))))))))) hA 26 rfl)
  refine lv_aload_n hx hb dd_Mo_init_209 rfl (lv_at hl 0 rfl) ?_
  refine lv_bipush (v := nI 16) hx hb dd_Mo_init_210 (by decide) ?_
  refine mw_newa (atype := .int) (ty := .int) (a0 := (16, .inl (fun _ => 0))) hx hb (E.t _ tw_ac_int) rfl E.K hM E.zz hS 0 rfl (fun _ => rfl) (by decide) (by decide) (by decide) (by decide) (by decide) dd_Mo_init_212 (fun q212 H hq hM hS => ?_)
  obtain ⟨M1, hM1⟩ : ∃ M9 : mw_M, M9 = va_up M1 q212 (some (.inl (D.1 100, 16, .inl (fun _ => 0)))) := ⟨_, rfl⟩
  rw [← hM1] at hM
  have wm := mw_un hM1 hq wm
  have hW := mo_wn hM1 hq hW
  have hF := mw_fn hM1 hq hF
  have hA := mn_nn hM1 hq hA
  refine pf_Mo_90 E hnm hM hS wm (Nat.le_of_ble_eq_true rfl) dd_Mo_init_214 (fun H locs hM hS => ?_)
  obtain ⟨M1, hM1⟩ : ∃ M9 : mw_M, M9 = va_up M1 mm (some (.inr (13, [.int 0, .int 0, .ref q7, .int 0, .int 0, .ref q16, .ref q24, .ref q32, .int 0, .int 0, .ref q41, .int 0, .int 0, .ref q48, .int 0, .int 0, .ref q56, .ref q64, .ref q72, .ref q80, .ref q88, .ref q96, .int 0, .int 0, .ref q103, .ref q110, .ref q119, .ref q128, .ref q137, .ref q146, .ref q154, .ref q161, .ref q168, .int 0, .ref q175, .ref q182, .ref q189, .ref q197, .ref q204, .ref q212, .null, .int 0, .null, .int 0, .null, .int 0, .int 0, .null, .int 0, .null, .int 0, .int 0]))) := ⟨_, rfl⟩
  have hM := (show mw_at D mg_cl z (va_up _ mm (some (.inr (13, [.int 0, .int 0, .ref q7, .int 0, .int 0, .ref q16, .ref q24, .ref q32, .int 0, .int 0, .ref q41, .int 0, .int 0, .ref q48, .int 0, .int 0, .ref q56, .ref q64, .ref q72, .ref q80, .ref q88, .ref q96, .int 0, .int 0, .ref q103, .ref q110, .ref q119, .ref q128, .ref q137, .ref q146, .ref q154, .ref q161, .ref q168, .int 0, .ref q175, .ref q182, .ref q189, .ref q197, .ref q204, .ref q212, .null, .int 0, .null, .int 0, .null, .int 0, .int 0, .null, .int 0, .null, .int 0, .int 0])))) H from hM)
  rw [← hM1] at hM
  have hW := mo_wu hM1 wm hW
  have wm := mw_us hM1
  have hA := mn_uu hM1 hA
  have hF := mw_fu hM1 hF (mn_out (pre := q212 :: (q204 :: (q197 :: (q189 :: (q182 :: (q175 :: (q168 :: (q161 :: (q154 :: (q146 :: (q137 :: (q128 :: (q119 :: (q110 :: (q103 :: (q96 :: (q88 :: (q80 :: (q72 :: (q64 :: (q56 :: (q48 :: (q41 :: (q32 :: (q24 :: (q16 :: (q7 :: (mm :: ([]))))))))))))))))))))))))))))) hA 27 rfl)
  refine lv_aload_n hx hb dd_Mo_init_217 rfl (lv_at hl 0 rfl) ?_
  refine lv_iconst (v := nI 4) hx hb dd_Mo_init_218 (by decide) ?_
  refine mw_newa (atype := .int) (ty := .int) (a0 := (4, .inl (fun _ => 0))) hx hb (E.t _ tw_ac_int) rfl E.K hM E.zz hS 0 rfl (fun _ => rfl) (by decide) (by decide) (by decide) (by decide) (by decide) dd_Mo_init_219 (fun q219 H hq hM hS => ?_)
  obtain ⟨M1, hM1⟩ : ∃ M9 : mw_M, M9 = va_up M1 q219 (some (.inl (D.1 100, 4, .inl (fun _ => 0)))) := ⟨_, rfl⟩
  rw [← hM1] at hM
  have wm := mw_un hM1 hq wm
  have hW := mo_wn hM1 hq hW
  have hF := mw_fn hM1 hq hF
  have hA := mn_nn hM1 hq hA
  refine pf_Mo_93 E hnm hM hS wm (Nat.le_of_ble_eq_true rfl) dd_Mo_init_221 (fun H locs hM hS => ?_)
  obtain ⟨M1, hM1⟩ : ∃ M9 : mw_M, M9 = va_up M1 mm (some (.inr (13, [.int 0, .int 0, .ref q7, .int 0, .int 0, .ref q16, .ref q24, .ref q32, .int 0, .int 0, .ref q41, .int 0, .int 0, .ref q48, .int 0, .int 0, .ref q56, .ref q64, .ref q72, .ref q80, .ref q88, .ref q96, .int 0, .int 0, .ref q103, .ref q110, .ref q119, .ref q128, .ref q137, .ref q146, .ref q154, .ref q161, .ref q168, .int 0, .ref q175, .ref q182, .ref q189, .ref q197, .ref q204, .ref q212, .ref q219, .int 0, .null, .int 0, .null, .int 0, .int 0, .null, .int 0, .null, .int 0, .int 0]))) := ⟨_, rfl⟩
  have hM := (show mw_at D mg_cl z (va_up _ mm (some (.inr (13, [.int 0, .int 0, .ref q7, .int 0, .int 0, .ref q16, .ref q24, .ref q32, .int 0, .int 0, .ref q41, .int 0, .int 0, .ref q48, .int 0, .int 0, .ref q56, .ref q64, .ref q72, .ref q80, .ref q88, .ref q96, .int 0, .int 0, .ref q103, .ref q110, .ref q119, .ref q128, .ref q137, .ref q146, .ref q154, .ref q161, .ref q168, .int 0, .ref q175, .ref q182, .ref q189, .ref q197, .ref q204, .ref q212, .ref q219, .int 0, .null, .int 0, .null, .int 0, .int 0, .null, .int 0, .null, .int 0, .int 0])))) H from hM)
  rw [← hM1] at hM
  have hW := mo_wu hM1 wm hW
  have wm := mw_us hM1
  have hA := mn_uu hM1 hA
  have hF := mw_fu hM1 hF (mn_out (pre := q219 :: (q212 :: (q204 :: (q197 :: (q189 :: (q182 :: (q175 :: (q168 :: (q161 :: (q154 :: (q146 :: (q137 :: (q128 :: (q119 :: (q110 :: (q103 :: (q96 :: (q88 :: (q80 :: (q72 :: (q64 :: (q56 :: (q48 :: (q41 :: (q32 :: (q24 :: (q16 :: (q7 :: (mm :: ([])))))))))))))))))))))))))))))) hA 28 rfl)
  refine lv_aload_n hx hb dd_Mo_init_224 rfl (lv_at hl 0 rfl) ?_
  refine lv_bipush (v := nI 60) hx hb dd_Mo_init_225 (by decide) ?_
  refine mw_newa (atype := .int) (ty := .int) (a0 := (60, .inl (fun _ => 0))) hx hb (E.t _ tw_ac_int) rfl E.K hM E.zz hS 0 rfl (fun _ => rfl) (by decide) (by decide) (by decide) (by decide) (by decide) dd_Mo_init_227 (fun q227 H hq hM hS => ?_)
  obtain ⟨M1, hM1⟩ : ∃ M9 : mw_M, M9 = va_up M1 q227 (some (.inl (D.1 100, 60, .inl (fun _ => 0)))) := ⟨_, rfl⟩
  rw [← hM1] at hM
  have wm := mw_un hM1 hq wm
  have hW := mo_wn hM1 hq hW
  have hF := mw_fn hM1 hq hF
  have hA := mn_nn hM1 hq hA
  refine pf_Mo_96 E hnm hM hS wm (Nat.le_of_ble_eq_true rfl) dd_Mo_init_229 (fun H locs hM hS => ?_)
  obtain ⟨M1, hM1⟩ : ∃ M9 : mw_M, M9 = va_up M1 mm (some (.inr (13, [.int 0, .int 0, .ref q7, .int 0, .int 0, .ref q16, .ref q24, .ref q32, .int 0, .int 0, .ref q41, .int 0, .int 0, .ref q48, .int 0, .int 0, .ref q56, .ref q64, .ref q72, .ref q80, .ref q88, .ref q96, .int 0, .int 0, .ref q103, .ref q110, .ref q119, .ref q128, .ref q137, .ref q146, .ref q154, .ref q161, .ref q168, .int 0, .ref q175, .ref q182, .ref q189, .ref q197, .ref q204, .ref q212, .ref q219, .int 0, .ref q227, .int 0, .null, .int 0, .int 0, .null, .int 0, .null, .int 0, .int 0]))) := ⟨_, rfl⟩
  have hM := (show mw_at D mg_cl z (va_up _ mm (some (.inr (13, [.int 0, .int 0, .ref q7, .int 0, .int 0, .ref q16, .ref q24, .ref q32, .int 0, .int 0, .ref q41, .int 0, .int 0, .ref q48, .int 0, .int 0, .ref q56, .ref q64, .ref q72, .ref q80, .ref q88, .ref q96, .int 0, .int 0, .ref q103, .ref q110, .ref q119, .ref q128, .ref q137, .ref q146, .ref q154, .ref q161, .ref q168, .int 0, .ref q175, .ref q182, .ref q189, .ref q197, .ref q204, .ref q212, .ref q219, .int 0, .ref q227, .int 0, .null, .int 0, .int 0, .null, .int 0, .null, .int 0, .int 0])))) H from hM)
  rw [← hM1] at hM
  have hW := mo_wu hM1 wm hW
  have wm := mw_us hM1
  have hA := mn_uu hM1 hA
  have hF := mw_fu hM1 hF (mn_out (pre := q227 :: (q219 :: (q212 :: (q204 :: (q197 :: (q189 :: (q182 :: (q175 :: (q168 :: (q161 :: (q154 :: (q146 :: (q137 :: (q128 :: (q119 :: (q110 :: (q103 :: (q96 :: (q88 :: (q80 :: (q72 :: (q64 :: (q56 :: (q48 :: (q41 :: (q32 :: (q24 :: (q16 :: (q7 :: (mm :: ([]))))))))))))))))))))))))))))))) hA 29 rfl)
  refine lv_aload_n hx hb dd_Mo_init_232 rfl (lv_at hl 0 rfl) ?_
  refine lv_iconst (v := nI 4) hx hb dd_Mo_init_233 (by decide) ?_
  refine mw_newa (atype := .int) (ty := .int) (a0 := (4, .inl (fun _ => 0))) hx hb (E.t _ tw_ac_int) rfl E.K hM E.zz hS 0 rfl (fun _ => rfl) (by decide) (by decide) (by decide) (by decide) (by decide) dd_Mo_init_234 (fun q234 H hq hM hS => ?_)
  obtain ⟨M1, hM1⟩ : ∃ M9 : mw_M, M9 = va_up M1 q234 (some (.inl (D.1 100, 4, .inl (fun _ => 0)))) := ⟨_, rfl⟩
  rw [← hM1] at hM
  have wm := mw_un hM1 hq wm
  have hW := mo_wn hM1 hq hW
  have hF := mw_fn hM1 hq hF
  have hA := mn_nn hM1 hq hA
  refine pf_Mo_99 E hnm hM hS wm (Nat.le_of_ble_eq_true rfl) dd_Mo_init_236 (fun H locs hM hS => ?_)
  obtain ⟨M1, hM1⟩ : ∃ M9 : mw_M, M9 = va_up M1 mm (some (.inr (13, [.int 0, .int 0, .ref q7, .int 0, .int 0, .ref q16, .ref q24, .ref q32, .int 0, .int 0, .ref q41, .int 0, .int 0, .ref q48, .int 0, .int 0, .ref q56, .ref q64, .ref q72, .ref q80, .ref q88, .ref q96, .int 0, .int 0, .ref q103, .ref q110, .ref q119, .ref q128, .ref q137, .ref q146, .ref q154, .ref q161, .ref q168, .int 0, .ref q175, .ref q182, .ref q189, .ref q197, .ref q204, .ref q212, .ref q219, .int 0, .ref q227, .int 0, .ref q234, .int 0, .int 0, .null, .int 0, .null, .int 0, .int 0]))) := ⟨_, rfl⟩
  have hM := (show mw_at D mg_cl z (va_up _ mm (some (.inr (13, [.int 0, .int 0, .ref q7, .int 0, .int 0, .ref q16, .ref q24, .ref q32, .int 0, .int 0, .ref q41, .int 0, .int 0, .ref q48, .int 0, .int 0, .ref q56, .ref q64, .ref q72, .ref q80, .ref q88, .ref q96, .int 0, .int 0, .ref q103, .ref q110, .ref q119, .ref q128, .ref q137, .ref q146, .ref q154, .ref q161, .ref q168, .int 0, .ref q175, .ref q182, .ref q189, .ref q197, .ref q204, .ref q212, .ref q219, .int 0, .ref q227, .int 0, .ref q234, .int 0, .int 0, .null, .int 0, .null, .int 0, .int 0])))) H from hM)
  rw [← hM1] at hM
  have hW := mo_wu hM1 wm hW
  have wm := mw_us hM1
  have hA := mn_uu hM1 hA
  have hF := mw_fu hM1 hF (mn_out (pre := q234 :: (q227 :: (q219 :: (q212 :: (q204 :: (q197 :: (q189 :: (q182 :: (q175 :: (q168 :: (q161 :: (q154 :: (q146 :: (q137 :: (q128 :: (q119 :: (q110 :: (q103 :: (q96 :: (q88 :: (q80 :: (q72 :: (q64 :: (q56 :: (q48 :: (q41 :: (q32 :: (q24 :: (q16 :: (q7 :: (mm :: ([])))))))))))))))))))))))))))))))) hA 30 rfl)
  refine lv_aload_n hx hb dd_Mo_init_239 rfl (lv_at hl 0 rfl) ?_
  refine lv_bipush (v := nI 12) hx hb dd_Mo_init_240 (by decide) ?_
  refine mw_newa (atype := .int) (ty := .int) (a0 := (12, .inl (fun _ => 0))) hx hb (E.t _ tw_ac_int) rfl E.K hM E.zz hS 0 rfl (fun _ => rfl) (by decide) (by decide) (by decide) (by decide) (by decide) dd_Mo_init_242 (fun q242 H hq hM hS => ?_)
  obtain ⟨M1, hM1⟩ : ∃ M9 : mw_M, M9 = va_up M1 q242 (some (.inl (D.1 100, 12, .inl (fun _ => 0)))) := ⟨_, rfl⟩
  rw [← hM1] at hM
  have wm := mw_un hM1 hq wm
  have hW := mo_wn hM1 hq hW
  have hF := mw_fn hM1 hq hF
  have hA := mn_nn hM1 hq hA
  refine pf_Mo_102 E hnm hM hS wm (Nat.le_of_ble_eq_true rfl) dd_Mo_init_244 (fun H locs hM hS => ?_)
  obtain ⟨M1, hM1⟩ : ∃ M9 : mw_M, M9 = va_up M1 mm (some (.inr (13, [.int 0, .int 0, .ref q7, .int 0, .int 0, .ref q16, .ref q24, .ref q32, .int 0, .int 0, .ref q41, .int 0, .int 0, .ref q48, .int 0, .int 0, .ref q56, .ref q64, .ref q72, .ref q80, .ref q88, .ref q96, .int 0, .int 0, .ref q103, .ref q110, .ref q119, .ref q128, .ref q137, .ref q146, .ref q154, .ref q161, .ref q168, .int 0, .ref q175, .ref q182, .ref q189, .ref q197, .ref q204, .ref q212, .ref q219, .int 0, .ref q227, .int 0, .ref q234, .int 0, .int 0, .ref q242, .int 0, .null, .int 0, .int 0]))) := ⟨_, rfl⟩
  have hM := (show mw_at D mg_cl z (va_up _ mm (some (.inr (13, [.int 0, .int 0, .ref q7, .int 0, .int 0, .ref q16, .ref q24, .ref q32, .int 0, .int 0, .ref q41, .int 0, .int 0, .ref q48, .int 0, .int 0, .ref q56, .ref q64, .ref q72, .ref q80, .ref q88, .ref q96, .int 0, .int 0, .ref q103, .ref q110, .ref q119, .ref q128, .ref q137, .ref q146, .ref q154, .ref q161, .ref q168, .int 0, .ref q175, .ref q182, .ref q189, .ref q197, .ref q204, .ref q212, .ref q219, .int 0, .ref q227, .int 0, .ref q234, .int 0, .int 0, .ref q242, .int 0, .null, .int 0, .int 0])))) H from hM)
  rw [← hM1] at hM
  have hW := mo_wu hM1 wm hW
  have wm := mw_us hM1
  have hA := mn_uu hM1 hA
  have hF := mw_fu hM1 hF (mn_out (pre := q242 :: (q234 :: (q227 :: (q219 :: (q212 :: (q204 :: (q197 :: (q189 :: (q182 :: (q175 :: (q168 :: (q161 :: (q154 :: (q146 :: (q137 :: (q128 :: (q119 :: (q110 :: (q103 :: (q96 :: (q88 :: (q80 :: (q72 :: (q64 :: (q56 :: (q48 :: (q41 :: (q32 :: (q24 :: (q16 :: (q7 :: (mm :: ([]))))))))))))))))))))))))))))))))) hA 31 rfl)
  refine lv_aload_n hx hb dd_Mo_init_247 rfl (lv_at hl 0 rfl) ?_
  refine lv_bipush (v := nI 100) hx hb dd_Mo_init_248 (by decide) ?_
  refine mw_newa (atype := .int) (ty := .int) (a0 := (100, .inl (fun _ => 0))) hx hb (E.t _ tw_ac_int) rfl E.K hM E.zz hS 0 rfl (fun _ => rfl) (by decide) (by decide) (by decide) (by decide) (by decide) dd_Mo_init_250 (fun q250 H hq hM hS => ?_)
  obtain ⟨M1, hM1⟩ : ∃ M9 : mw_M, M9 = va_up M1 q250 (some (.inl (D.1 100, 100, .inl (fun _ => 0)))) := ⟨_, rfl⟩
  rw [← hM1] at hM
  have wm := mw_un hM1 hq wm
  have hW := mo_wn hM1 hq hW
  have hF := mw_fn hM1 hq hF
  have hA := mn_nn hM1 hq hA
  refine pf_Mo_105 E hnm hM hS wm (Nat.le_of_ble_eq_true rfl) dd_Mo_init_252 (fun H locs hM hS => ?_)
  obtain ⟨M1, hM1⟩ : ∃ M9 : mw_M, M9 = va_up M1 mm (some (.inr (13, [.int 0, .int 0, .ref q7, .int 0, .int 0, .ref q16, .ref q24, .ref q32, .int 0, .int 0, .ref q41, .int 0, .int 0, .ref q48, .int 0, .int 0, .ref q56, .ref q64, .ref q72, .ref q80, .ref q88, .ref q96, .int 0, .int 0, .ref q103, .ref q110, .ref q119, .ref q128, .ref q137, .ref q146, .ref q154, .ref q161, .ref q168, .int 0, .ref q175, .ref q182, .ref q189, .ref q197, .ref q204, .ref q212, .ref q219, .int 0, .ref q227, .int 0, .ref q234, .int 0, .int 0, .ref q242, .int 0, .ref q250, .int 0, .int 0]))) := ⟨_, rfl⟩
  have hM := (show mw_at D mg_cl z (va_up _ mm (some (.inr (13, [.int 0, .int 0, .ref q7, .int 0, .int 0, .ref q16, .ref q24, .ref q32, .int 0, .int 0, .ref q41, .int 0, .int 0, .ref q48, .int 0, .int 0, .ref q56, .ref q64, .ref q72, .ref q80, .ref q88, .ref q96, .int 0, .int 0, .ref q103, .ref q110, .ref q119, .ref q128, .ref q137, .ref q146, .ref q154, .ref q161, .ref q168, .int 0, .ref q175, .ref q182, .ref q189, .ref q197, .ref q204, .ref q212, .ref q219, .int 0, .ref q227, .int 0, .ref q234, .int 0, .int 0, .ref q242, .int 0, .ref q250, .int 0, .int 0])))) H from hM)
  rw [← hM1] at hM
  have hW := mo_wu hM1 wm hW
  have wm := mw_us hM1
  have hA := mn_uu hM1 hA
  have hF := mw_fu hM1 hF (mn_out (pre := q250 :: (q242 :: (q234 :: (q227 :: (q219 :: (q212 :: (q204 :: (q197 :: (q189 :: (q182 :: (q175 :: (q168 :: (q161 :: (q154 :: (q146 :: (q137 :: (q128 :: (q119 :: (q110 :: (q103 :: (q96 :: (q88 :: (q80 :: (q72 :: (q64 :: (q56 :: (q48 :: (q41 :: (q32 :: (q24 :: (q16 :: (q7 :: (mm :: ([])))))))))))))))))))))))))))))))))) hA 32 rfl)
  refine lv_aload_n hx hb dd_Mo_init_255 rfl (lv_at hl 0 rfl) ?_
  refine lv_iload_n hx hb dd_Mo_init_256 rfl (lv_at hl 1 rfl) ?_
  refine lv_bipush (v := nI 32) hx hb dd_Mo_init_257 (by decide) ?_
  refine lv_icmp_ge (tgt := 267) hx hb dd_Mo_init_259 (by decide) (fun h => ?_) (fun h => ?_)
  ·
    have h1 : ¬ x < nI 32 := fun q => Int32.lt_irrefl (Int32.lt_of_lt_of_le q h)
    refine lv_iload_n hx hb dd_Mo_init_267 rfl (lv_at hl 1 rfl) ?_
    refine lv_sipush (v := nI 256) hx hb dd_Mo_init_268 (by decide) ?_
    refine lv_icmp_le (tgt := 280) hx hb dd_Mo_init_271 (by decide) (fun h2 => ?_) (fun h2 => ?_)
    ·
      refine lv_iload_n hx hb dd_Mo_init_280 rfl (lv_at hl 1 rfl) ?_
      refine pf_Mo_108 E hnm hM hS wm (Nat.le_of_ble_eq_true rfl) dd_Mo_init_281 (fun H locs hM hS => ?_)
      obtain ⟨M1, hM1⟩ : ∃ M9 : mw_M, M9 = va_up M1 mm (some (.inr (13, [.int (x), .int 0, .ref q7, .int 0, .int 0, .ref q16, .ref q24, .ref q32, .int 0, .int 0, .ref q41, .int 0, .int 0, .ref q48, .int 0, .int 0, .ref q56, .ref q64, .ref q72, .ref q80, .ref q88, .ref q96, .int 0, .int 0, .ref q103, .ref q110, .ref q119, .ref q128, .ref q137, .ref q146, .ref q154, .ref q161, .ref q168, .int 0, .ref q175, .ref q182, .ref q189, .ref q197, .ref q204, .ref q212, .ref q219, .int 0, .ref q227, .int 0, .ref q234, .int 0, .int 0, .ref q242, .int 0, .ref q250, .int 0, .int 0]))) := ⟨_, rfl⟩
      have hM := (show mw_at D mg_cl z (va_up _ mm (some (.inr (13, [.int (x), .int 0, .ref q7, .int 0, .int 0, .ref q16, .ref q24, .ref q32, .int 0, .int 0, .ref q41, .int 0, .int 0, .ref q48, .int 0, .int 0, .ref q56, .ref q64, .ref q72, .ref q80, .ref q88, .ref q96, .int 0, .int 0, .ref q103, .ref q110, .ref q119, .ref q128, .ref q137, .ref q146, .ref q154, .ref q161, .ref q168, .int 0, .ref q175, .ref q182, .ref q189, .ref q197, .ref q204, .ref q212, .ref q219, .int 0, .ref q227, .int 0, .ref q234, .int 0, .int 0, .ref q242, .int 0, .ref q250, .int 0, .int 0])))) H from hM)
      rw [← hM1] at hM
      have hW := mo_wu hM1 wm hW
      have wm := mw_us hM1
      have hA := mn_uu hM1 hA
      have hF := mw_fu hM1 hF (mn_out (pre := q250 :: (q242 :: (q234 :: (q227 :: (q219 :: (q212 :: (q204 :: (q197 :: (q189 :: (q182 :: (q175 :: (q168 :: (q161 :: (q154 :: (q146 :: (q137 :: (q128 :: (q119 :: (q110 :: (q103 :: (q96 :: (q88 :: (q80 :: (q72 :: (q64 :: (q56 :: (q48 :: (q41 :: (q32 :: (q24 :: (q16 :: (q7 :: (mm :: ([])))))))))))))))))))))))))))))))))) hA 32 rfl)
      refine lv_aload_n hx hb dd_Mo_init_284 rfl (lv_at hl 0 rfl) ?_
      refine lv_iconst (v := nI 1) hx hb dd_Mo_init_285 (by decide) ?_
      refine pf_Mo_112 E hM hS wm (Nat.le_of_ble_eq_true rfl) dd_Mo_init_286 (fun H locs hM hS => ?_)
      obtain ⟨M1, hM1⟩ : ∃ M9 : mw_M, M9 = va_up M1 mm (some (.inr (13, [.int (x), .int 0, .ref q7, .int 0, .int 0, .ref q16, .ref q24, .ref q32, .int 0, .int (nI 1), .ref q41, .int 0, .int 0, .ref q48, .int 0, .int 0, .ref q56, .ref q64, .ref q72, .ref q80, .ref q88, .ref q96, .int 0, .int 0, .ref q103, .ref q110, .ref q119, .ref q128, .ref q137, .ref q146, .ref q154, .ref q161, .ref q168, .int 0, .ref q175, .ref q182, .ref q189, .ref q197, .ref q204, .ref q212, .ref q219, .int 0, .ref q227, .int 0, .ref q234, .int 0, .int 0, .ref q242, .int 0, .ref q250, .int 0, .int 0]))) := ⟨_, rfl⟩
      have hM := (show mw_at D mg_cl z (va_up _ mm (some (.inr (13, [.int (x), .int 0, .ref q7, .int 0, .int 0, .ref q16, .ref q24, .ref q32, .int 0, .int (nI 1), .ref q41, .int 0, .int 0, .ref q48, .int 0, .int 0, .ref q56, .ref q64, .ref q72, .ref q80, .ref q88, .ref q96, .int 0, .int 0, .ref q103, .ref q110, .ref q119, .ref q128, .ref q137, .ref q146, .ref q154, .ref q161, .ref q168, .int 0, .ref q175, .ref q182, .ref q189, .ref q197, .ref q204, .ref q212, .ref q219, .int 0, .ref q227, .int 0, .ref q234, .int 0, .int 0, .ref q242, .int 0, .ref q250, .int 0, .int 0])))) H from hM)
      rw [← hM1] at hM
      have hW := mo_wu hM1 wm hW
      have wm := mw_us hM1
      have hA := mn_uu hM1 hA
      have hF := mw_fu hM1 hF (mn_out (pre := q250 :: (q242 :: (q234 :: (q227 :: (q219 :: (q212 :: (q204 :: (q197 :: (q189 :: (q182 :: (q175 :: (q168 :: (q161 :: (q154 :: (q146 :: (q137 :: (q128 :: (q119 :: (q110 :: (q103 :: (q96 :: (q88 :: (q80 :: (q72 :: (q64 :: (q56 :: (q48 :: (q41 :: (q32 :: (q24 :: (q16 :: (q7 :: (mm :: ([])))))))))))))))))))))))))))))))))) hA 32 rfl)
      refine lv_aload_n hx hb dd_Mo_init_289 rfl (lv_at hl 0 rfl) ?_
      refine lv_iconst (v := -1) hx hb dd_Mo_init_290 (by decide) ?_
      refine pf_Mo_115 E hM hS wm (Nat.le_of_ble_eq_true rfl) dd_Mo_init_291 (fun H locs hM hS => ?_)
      obtain ⟨M1, hM1⟩ : ∃ M9 : mw_M, M9 = va_up M1 mm (some (.inr (13, [.int (x), .int 0, .ref q7, .int 0, .int 0, .ref q16, .ref q24, .ref q32, .int 0, .int (nI 1), .ref q41, .int 0, .int (-1), .ref q48, .int 0, .int 0, .ref q56, .ref q64, .ref q72, .ref q80, .ref q88, .ref q96, .int 0, .int 0, .ref q103, .ref q110, .ref q119, .ref q128, .ref q137, .ref q146, .ref q154, .ref q161, .ref q168, .int 0, .ref q175, .ref q182, .ref q189, .ref q197, .ref q204, .ref q212, .ref q219, .int 0, .ref q227, .int 0, .ref q234, .int 0, .int 0, .ref q242, .int 0, .ref q250, .int 0, .int 0]))) := ⟨_, rfl⟩
      have hM := (show mw_at D mg_cl z (va_up _ mm (some (.inr (13, [.int (x), .int 0, .ref q7, .int 0, .int 0, .ref q16, .ref q24, .ref q32, .int 0, .int (nI 1), .ref q41, .int 0, .int (-1), .ref q48, .int 0, .int 0, .ref q56, .ref q64, .ref q72, .ref q80, .ref q88, .ref q96, .int 0, .int 0, .ref q103, .ref q110, .ref q119, .ref q128, .ref q137, .ref q146, .ref q154, .ref q161, .ref q168, .int 0, .ref q175, .ref q182, .ref q189, .ref q197, .ref q204, .ref q212, .ref q219, .int 0, .ref q227, .int 0, .ref q234, .int 0, .int 0, .ref q242, .int 0, .ref q250, .int 0, .int 0])))) H from hM)
      rw [← hM1] at hM
      have hW := mo_wu hM1 wm hW
      have wm := mw_us hM1
      have hA := mn_uu hM1 hA
      have hF := mw_fu hM1 hF (mn_out (pre := q250 :: (q242 :: (q234 :: (q227 :: (q219 :: (q212 :: (q204 :: (q197 :: (q189 :: (q182 :: (q175 :: (q168 :: (q161 :: (q154 :: (q146 :: (q137 :: (q128 :: (q119 :: (q110 :: (q103 :: (q96 :: (q88 :: (q80 :: (q72 :: (q64 :: (q56 :: (q48 :: (q41 :: (q32 :: (q24 :: (q16 :: (q7 :: (mm :: ([])))))))))))))))))))))))))))))))))) hA 32 rfl)
      refine mr_v E hr hk hM hS (by decide) (by decide) ?_ dd_Mo_init_294
      exact ⟨rfl, q250, q242, q234, q227, q219, q212, q204, q197, q189, q182, q175, q168, q161, q154, q146, q137, q128, q119, q110, q103, q96, q88, q80, q72, q64, q56, q48, q41, q32, q24, q16, q7, by rw [show mo_life x = x by rw [mo_life, if_neg h1, if_neg (fun q => Int32.lt_irrefl (Int32.lt_of_lt_of_le q h2))]]; exact wm, hW, hA, hF⟩
    ·
      refine lv_sipush (v := nI 256) hx hb dd_Mo_init_274 (by decide) ?_
      refine lv_goto (tgt := 281) hx hb dd_Mo_init_277 (by decide) ?_
      refine pf_Mo_108 E hnm hM hS wm (Nat.le_of_ble_eq_true rfl) dd_Mo_init_281 (fun H locs hM hS => ?_)
      obtain ⟨M1, hM1⟩ : ∃ M9 : mw_M, M9 = va_up M1 mm (some (.inr (13, [.int (nI 256), .int 0, .ref q7, .int 0, .int 0, .ref q16, .ref q24, .ref q32, .int 0, .int 0, .ref q41, .int 0, .int 0, .ref q48, .int 0, .int 0, .ref q56, .ref q64, .ref q72, .ref q80, .ref q88, .ref q96, .int 0, .int 0, .ref q103, .ref q110, .ref q119, .ref q128, .ref q137, .ref q146, .ref q154, .ref q161, .ref q168, .int 0, .ref q175, .ref q182, .ref q189, .ref q197, .ref q204, .ref q212, .ref q219, .int 0, .ref q227, .int 0, .ref q234, .int 0, .int 0, .ref q242, .int 0, .ref q250, .int 0, .int 0]))) := ⟨_, rfl⟩
      have hM := (show mw_at D mg_cl z (va_up _ mm (some (.inr (13, [.int (nI 256), .int 0, .ref q7, .int 0, .int 0, .ref q16, .ref q24, .ref q32, .int 0, .int 0, .ref q41, .int 0, .int 0, .ref q48, .int 0, .int 0, .ref q56, .ref q64, .ref q72, .ref q80, .ref q88, .ref q96, .int 0, .int 0, .ref q103, .ref q110, .ref q119, .ref q128, .ref q137, .ref q146, .ref q154, .ref q161, .ref q168, .int 0, .ref q175, .ref q182, .ref q189, .ref q197, .ref q204, .ref q212, .ref q219, .int 0, .ref q227, .int 0, .ref q234, .int 0, .int 0, .ref q242, .int 0, .ref q250, .int 0, .int 0])))) H from hM)
      rw [← hM1] at hM
      have hW := mo_wu hM1 wm hW
      have wm := mw_us hM1
      have hA := mn_uu hM1 hA
      have hF := mw_fu hM1 hF (mn_out (pre := q250 :: (q242 :: (q234 :: (q227 :: (q219 :: (q212 :: (q204 :: (q197 :: (q189 :: (q182 :: (q175 :: (q168 :: (q161 :: (q154 :: (q146 :: (q137 :: (q128 :: (q119 :: (q110 :: (q103 :: (q96 :: (q88 :: (q80 :: (q72 :: (q64 :: (q56 :: (q48 :: (q41 :: (q32 :: (q24 :: (q16 :: (q7 :: (mm :: ([])))))))))))))))))))))))))))))))))) hA 32 rfl)
      refine lv_aload_n hx hb dd_Mo_init_284 rfl (lv_at hl 0 rfl) ?_
      refine lv_iconst (v := nI 1) hx hb dd_Mo_init_285 (by decide) ?_
      refine pf_Mo_112 E hM hS wm (Nat.le_of_ble_eq_true rfl) dd_Mo_init_286 (fun H locs hM hS => ?_)
      obtain ⟨M1, hM1⟩ : ∃ M9 : mw_M, M9 = va_up M1 mm (some (.inr (13, [.int (nI 256), .int 0, .ref q7, .int 0, .int 0, .ref q16, .ref q24, .ref q32, .int 0, .int (nI 1), .ref q41, .int 0, .int 0, .ref q48, .int 0, .int 0, .ref q56, .ref q64, .ref q72, .ref q80, .ref q88, .ref q96, .int 0, .int 0, .ref q103, .ref q110, .ref q119, .ref q128, .ref q137, .ref q146, .ref q154, .ref q161, .ref q168, .int 0, .ref q175, .ref q182, .ref q189, .ref q197, .ref q204, .ref q212, .ref q219, .int 0, .ref q227, .int 0, .ref q234, .int 0, .int 0, .ref q242, .int 0, .ref q250, .int 0, .int 0]))) := ⟨_, rfl⟩
      have hM := (show mw_at D mg_cl z (va_up _ mm (some (.inr (13, [.int (nI 256), .int 0, .ref q7, .int 0, .int 0, .ref q16, .ref q24, .ref q32, .int 0, .int (nI 1), .ref q41, .int 0, .int 0, .ref q48, .int 0, .int 0, .ref q56, .ref q64, .ref q72, .ref q80, .ref q88, .ref q96, .int 0, .int 0, .ref q103, .ref q110, .ref q119, .ref q128, .ref q137, .ref q146, .ref q154, .ref q161, .ref q168, .int 0, .ref q175, .ref q182, .ref q189, .ref q197, .ref q204, .ref q212, .ref q219, .int 0, .ref q227, .int 0, .ref q234, .int 0, .int 0, .ref q242, .int 0, .ref q250, .int 0, .int 0])))) H from hM)
      rw [← hM1] at hM
      have hW := mo_wu hM1 wm hW
      have wm := mw_us hM1
      have hA := mn_uu hM1 hA
      have hF := mw_fu hM1 hF (mn_out (pre := q250 :: (q242 :: (q234 :: (q227 :: (q219 :: (q212 :: (q204 :: (q197 :: (q189 :: (q182 :: (q175 :: (q168 :: (q161 :: (q154 :: (q146 :: (q137 :: (q128 :: (q119 :: (q110 :: (q103 :: (q96 :: (q88 :: (q80 :: (q72 :: (q64 :: (q56 :: (q48 :: (q41 :: (q32 :: (q24 :: (q16 :: (q7 :: (mm :: ([])))))))))))))))))))))))))))))))))) hA 32 rfl)
      refine lv_aload_n hx hb dd_Mo_init_289 rfl (lv_at hl 0 rfl) ?_
      refine lv_iconst (v := -1) hx hb dd_Mo_init_290 (by decide) ?_
      refine pf_Mo_115 E hM hS wm (Nat.le_of_ble_eq_true rfl) dd_Mo_init_291 (fun H locs hM hS => ?_)
      obtain ⟨M1, hM1⟩ : ∃ M9 : mw_M, M9 = va_up M1 mm (some (.inr (13, [.int (nI 256), .int 0, .ref q7, .int 0, .int 0, .ref q16, .ref q24, .ref q32, .int 0, .int (nI 1), .ref q41, .int 0, .int (-1), .ref q48, .int 0, .int 0, .ref q56, .ref q64, .ref q72, .ref q80, .ref q88, .ref q96, .int 0, .int 0, .ref q103, .ref q110, .ref q119, .ref q128, .ref q137, .ref q146, .ref q154, .ref q161, .ref q168, .int 0, .ref q175, .ref q182, .ref q189, .ref q197, .ref q204, .ref q212, .ref q219, .int 0, .ref q227, .int 0, .ref q234, .int 0, .int 0, .ref q242, .int 0, .ref q250, .int 0, .int 0]))) := ⟨_, rfl⟩
      have hM := (show mw_at D mg_cl z (va_up _ mm (some (.inr (13, [.int (nI 256), .int 0, .ref q7, .int 0, .int 0, .ref q16, .ref q24, .ref q32, .int 0, .int (nI 1), .ref q41, .int 0, .int (-1), .ref q48, .int 0, .int 0, .ref q56, .ref q64, .ref q72, .ref q80, .ref q88, .ref q96, .int 0, .int 0, .ref q103, .ref q110, .ref q119, .ref q128, .ref q137, .ref q146, .ref q154, .ref q161, .ref q168, .int 0, .ref q175, .ref q182, .ref q189, .ref q197, .ref q204, .ref q212, .ref q219, .int 0, .ref q227, .int 0, .ref q234, .int 0, .int 0, .ref q242, .int 0, .ref q250, .int 0, .int 0])))) H from hM)
      rw [← hM1] at hM
      have hW := mo_wu hM1 wm hW
      have wm := mw_us hM1
      have hA := mn_uu hM1 hA
      have hF := mw_fu hM1 hF (mn_out (pre := q250 :: (q242 :: (q234 :: (q227 :: (q219 :: (q212 :: (q204 :: (q197 :: (q189 :: (q182 :: (q175 :: (q168 :: (q161 :: (q154 :: (q146 :: (q137 :: (q128 :: (q119 :: (q110 :: (q103 :: (q96 :: (q88 :: (q80 :: (q72 :: (q64 :: (q56 :: (q48 :: (q41 :: (q32 :: (q24 :: (q16 :: (q7 :: (mm :: ([])))))))))))))))))))))))))))))))))) hA 32 rfl)
      refine mr_v E hr hk hM hS (by decide) (by decide) ?_ dd_Mo_init_294
      exact ⟨rfl, q250, q242, q234, q227, q219, q212, q204, q197, q189, q182, q175, q168, q161, q154, q146, q137, q128, q119, q110, q103, q96, q88, q80, q72, q64, q56, q48, q41, q32, q24, q16, q7, by rw [show mo_life x = nI 256 by rw [mo_life, if_neg h1, if_pos (Int32.not_le.mp h2)]]; exact wm, hW, hA, hF⟩
  ·
    refine lv_bipush (v := nI 32) hx hb dd_Mo_init_262 (by decide) ?_
    refine lv_goto (tgt := 281) hx hb dd_Mo_init_264 (by decide) ?_
    refine pf_Mo_108 E hnm hM hS wm (Nat.le_of_ble_eq_true rfl) dd_Mo_init_281 (fun H locs hM hS => ?_)
    obtain ⟨M1, hM1⟩ : ∃ M9 : mw_M, M9 = va_up M1 mm (some (.inr (13, [.int (nI 32), .int 0, .ref q7, .int 0, .int 0, .ref q16, .ref q24, .ref q32, .int 0, .int 0, .ref q41, .int 0, .int 0, .ref q48, .int 0, .int 0, .ref q56, .ref q64, .ref q72, .ref q80, .ref q88, .ref q96, .int 0, .int 0, .ref q103, .ref q110, .ref q119, .ref q128, .ref q137, .ref q146, .ref q154, .ref q161, .ref q168, .int 0, .ref q175, .ref q182, .ref q189, .ref q197, .ref q204, .ref q212, .ref q219, .int 0, .ref q227, .int 0, .ref q234, .int 0, .int 0, .ref q242, .int 0, .ref q250, .int 0, .int 0]))) := ⟨_, rfl⟩
    have hM := (show mw_at D mg_cl z (va_up _ mm (some (.inr (13, [.int (nI 32), .int 0, .ref q7, .int 0, .int 0, .ref q16, .ref q24, .ref q32, .int 0, .int 0, .ref q41, .int 0, .int 0, .ref q48, .int 0, .int 0, .ref q56, .ref q64, .ref q72, .ref q80, .ref q88, .ref q96, .int 0, .int 0, .ref q103, .ref q110, .ref q119, .ref q128, .ref q137, .ref q146, .ref q154, .ref q161, .ref q168, .int 0, .ref q175, .ref q182, .ref q189, .ref q197, .ref q204, .ref q212, .ref q219, .int 0, .ref q227, .int 0, .ref q234, .int 0, .int 0, .ref q242, .int 0, .ref q250, .int 0, .int 0])))) H from hM)
    rw [← hM1] at hM
    have hW := mo_wu hM1 wm hW
    have wm := mw_us hM1
    have hA := mn_uu hM1 hA
    have hF := mw_fu hM1 hF (mn_out (pre := q250 :: (q242 :: (q234 :: (q227 :: (q219 :: (q212 :: (q204 :: (q197 :: (q189 :: (q182 :: (q175 :: (q168 :: (q161 :: (q154 :: (q146 :: (q137 :: (q128 :: (q119 :: (q110 :: (q103 :: (q96 :: (q88 :: (q80 :: (q72 :: (q64 :: (q56 :: (q48 :: (q41 :: (q32 :: (q24 :: (q16 :: (q7 :: (mm :: ([])))))))))))))))))))))))))))))))))) hA 32 rfl)
    refine lv_aload_n hx hb dd_Mo_init_284 rfl (lv_at hl 0 rfl) ?_
    refine lv_iconst (v := nI 1) hx hb dd_Mo_init_285 (by decide) ?_
    refine pf_Mo_112 E hM hS wm (Nat.le_of_ble_eq_true rfl) dd_Mo_init_286 (fun H locs hM hS => ?_)
    obtain ⟨M1, hM1⟩ : ∃ M9 : mw_M, M9 = va_up M1 mm (some (.inr (13, [.int (nI 32), .int 0, .ref q7, .int 0, .int 0, .ref q16, .ref q24, .ref q32, .int 0, .int (nI 1), .ref q41, .int 0, .int 0, .ref q48, .int 0, .int 0, .ref q56, .ref q64, .ref q72, .ref q80, .ref q88, .ref q96, .int 0, .int 0, .ref q103, .ref q110, .ref q119, .ref q128, .ref q137, .ref q146, .ref q154, .ref q161, .ref q168, .int 0, .ref q175, .ref q182, .ref q189, .ref q197, .ref q204, .ref q212, .ref q219, .int 0, .ref q227, .int 0, .ref q234, .int 0, .int 0, .ref q242, .int 0, .ref q250, .int 0, .int 0]))) := ⟨_, rfl⟩
    have hM := (show mw_at D mg_cl z (va_up _ mm (some (.inr (13, [.int (nI 32), .int 0, .ref q7, .int 0, .int 0, .ref q16, .ref q24, .ref q32, .int 0, .int (nI 1), .ref q41, .int 0, .int 0, .ref q48, .int 0, .int 0, .ref q56, .ref q64, .ref q72, .ref q80, .ref q88, .ref q96, .int 0, .int 0, .ref q103, .ref q110, .ref q119, .ref q128, .ref q137, .ref q146, .ref q154, .ref q161, .ref q168, .int 0, .ref q175, .ref q182, .ref q189, .ref q197, .ref q204, .ref q212, .ref q219, .int 0, .ref q227, .int 0, .ref q234, .int 0, .int 0, .ref q242, .int 0, .ref q250, .int 0, .int 0])))) H from hM)
    rw [← hM1] at hM
    have hW := mo_wu hM1 wm hW
    have wm := mw_us hM1
    have hA := mn_uu hM1 hA
    have hF := mw_fu hM1 hF (mn_out (pre := q250 :: (q242 :: (q234 :: (q227 :: (q219 :: (q212 :: (q204 :: (q197 :: (q189 :: (q182 :: (q175 :: (q168 :: (q161 :: (q154 :: (q146 :: (q137 :: (q128 :: (q119 :: (q110 :: (q103 :: (q96 :: (q88 :: (q80 :: (q72 :: (q64 :: (q56 :: (q48 :: (q41 :: (q32 :: (q24 :: (q16 :: (q7 :: (mm :: ([])))))))))))))))))))))))))))))))))) hA 32 rfl)
    refine lv_aload_n hx hb dd_Mo_init_289 rfl (lv_at hl 0 rfl) ?_
    refine lv_iconst (v := -1) hx hb dd_Mo_init_290 (by decide) ?_
    refine pf_Mo_115 E hM hS wm (Nat.le_of_ble_eq_true rfl) dd_Mo_init_291 (fun H locs hM hS => ?_)
    obtain ⟨M1, hM1⟩ : ∃ M9 : mw_M, M9 = va_up M1 mm (some (.inr (13, [.int (nI 32), .int 0, .ref q7, .int 0, .int 0, .ref q16, .ref q24, .ref q32, .int 0, .int (nI 1), .ref q41, .int 0, .int (-1), .ref q48, .int 0, .int 0, .ref q56, .ref q64, .ref q72, .ref q80, .ref q88, .ref q96, .int 0, .int 0, .ref q103, .ref q110, .ref q119, .ref q128, .ref q137, .ref q146, .ref q154, .ref q161, .ref q168, .int 0, .ref q175, .ref q182, .ref q189, .ref q197, .ref q204, .ref q212, .ref q219, .int 0, .ref q227, .int 0, .ref q234, .int 0, .int 0, .ref q242, .int 0, .ref q250, .int 0, .int 0]))) := ⟨_, rfl⟩
    have hM := (show mw_at D mg_cl z (va_up _ mm (some (.inr (13, [.int (nI 32), .int 0, .ref q7, .int 0, .int 0, .ref q16, .ref q24, .ref q32, .int 0, .int (nI 1), .ref q41, .int 0, .int (-1), .ref q48, .int 0, .int 0, .ref q56, .ref q64, .ref q72, .ref q80, .ref q88, .ref q96, .int 0, .int 0, .ref q103, .ref q110, .ref q119, .ref q128, .ref q137, .ref q146, .ref q154, .ref q161, .ref q168, .int 0, .ref q175, .ref q182, .ref q189, .ref q197, .ref q204, .ref q212, .ref q219, .int 0, .ref q227, .int 0, .ref q234, .int 0, .int 0, .ref q242, .int 0, .ref q250, .int 0, .int 0])))) H from hM)
    rw [← hM1] at hM
    have hW := mo_wu hM1 wm hW
    have wm := mw_us hM1
    have hA := mn_uu hM1 hA
    have hF := mw_fu hM1 hF (mn_out (pre := q250 :: (q242 :: (q234 :: (q227 :: (q219 :: (q212 :: (q204 :: (q197 :: (q189 :: (q182 :: (q175 :: (q168 :: (q161 :: (q154 :: (q146 :: (q137 :: (q128 :: (q119 :: (q110 :: (q103 :: (q96 :: (q88 :: (q80 :: (q72 :: (q64 :: (q56 :: (q48 :: (q41 :: (q32 :: (q24 :: (q16 :: (q7 :: (mm :: ([])))))))))))))))))))))))))))))))))) hA 32 rfl)
    refine mr_v E hr hk hM hS (by decide) (by decide) ?_ dd_Mo_init_294
    exact ⟨rfl, q250, q242, q234, q227, q219, q212, q204, q197, q189, q182, q175, q168, q161, q154, q146, q137, q128, q119, q110, q103, q96, q88, q80, q72, q64, q56, q48, q41, q32, q24, q16, q7, by rw [show mo_life x = nI 32 by rw [mo_life, if_pos (Int32.not_le.mp h)]]; exact wm, hW, hA, hF⟩
