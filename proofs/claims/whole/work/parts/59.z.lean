/-! Entries.make -/
theorem al_is.upd {D : va_G} {M M1 : mw_M} {a ar k cap d ci : Nat} {mo : Int32} {g : Nat → Option Nat} {vs : List Value} {x : va_E} (h : al_is D M a ar k cap mo g) (hM1 : M1 = va_up M d (some x)) (wd : M d = some (.inr (ci, vs))) (hda : d ≠ a) : al_is D M1 a ar k cap mo g :=
  ⟨mw_uu hM1 h.1 (Ne.symm hda), h.2.1, h.2.2.1, h.2.2.2.imp id (fun q => ⟨q.1, mw_uu hM1 q.2 (fun e => by
    have y := q.2
    rw [e, wd] at y
    cases y)⟩)⟩
theorem cc_Es_make (l : Launch) (D : va_G) (z : Nat) (M : mw_M) (d el ar k mk cap : Nat) (mo : Int32) (g : Nat → Option Nat) (e_i e_p e_s e_t e_f : Int32) (wd : M d = some (.inr (3, [.ref el, .int (nI mk)]))) (hal : al_is D M el ar k cap mo g) (hk0 : k < 15) (hel : el_ok M g 15) (hna : ∀ j : Nat, g j ≠ some el) (hda : d ≠ ar) : mw_C l yy_Es_make bb_Es_make 6 (Option.some Jvm.ClassFile.FieldType.int) 7 157 2 21 D z M [.ref d, .int (e_i), .int (e_p), .int (e_s), .int (e_t), .int (e_f)] (fun v M' => v = some (.int (nI (mk + 1) - nI 1)) ∧ ∃ q ar' cap', M q = none ∧ M' q = some (.inr (9, [.int (nI mk), .int e_i, .int e_p, .int e_s, .int e_t, .int e_f])) ∧ M' d = some (.inr (3, [.ref el, .int (nI (mk + 1))])) ∧ al_is D M' el ar' (k + 1) cap' (mo + nI 1) (va_up g k (some q)) ∧ mw_fr (fun q => q = d ∨ q = el ∨ q = ar) M M' ∧ (ar' = ar ∨ M ar' = none)) := by
  refine mw_of (by decide) (Nat.le_of_ble_eq_true rfl) ?_
  intro p e s m below meth c ls E hr hk hnm hM hl
  have hx := E.x
  have hb := E.b
  have E : mw_E p m c bb_Es_make 6 s _ D z "IdentityIssuer$Entries" := E
  have hl : lv_has ls 6 [(0, .ref d), (1, .int (e_i)), (2, .int (e_p)), (3, .int (e_s)), (4, .int (e_t)), (5, .int (e_f))] := hl
  have hS : va_S (mw_A z) s.heap s.heap [] := va_S.rf
  have hF : mw_fr (fun q => M q = none) M M := mw_fr.rf
  have wc := hal.1
  have wd0 := wd
  have wc0 := hal.1
  refine lv_aload_n hx hb dd_Es_make_0 rfl (lv_at hl 0 rfl) ?_
  refine gf_Es_12 E hM wd rfl dd_Es_make_1 ?_
  refine mw_new (C := "IdentityIssuer$Entry") (T := ff_En) (N := 6) (ci := 9) (fs := [.int (0), .int (0), .int (0), .int (0), .int (0), .int (0)]) hx hb E.t in_En tt_En ty_En E.o (E.t _ tw_Es_26) (E.t _ tw_inst_En) (E.t _ tw_ini_En) E.K hM E.zz hS rfl (by decide +kernel) (by decide) (by decide) dd_Es_make_4 (fun q4 H hq4 hM hS => ?_)
  have hM : mw_at D mg_cl z (va_up M q4 (some (.inr (9, [.int (0), .int (0), .int (0), .int (0), .int (0), .int (0)])))) H := hM
  obtain ⟨M1, hM1⟩ : ∃ M9 : mw_M, M9 = va_up M q4 (some (.inr (9, [.int (0), .int (0), .int (0), .int (0), .int (0), .int (0)]))) := ⟨_, rfl⟩
  rw [← hM1] at hM
  have wd := mw_un hM1 hq4 wd
  have wc := mw_un hM1 hq4 wc
  have w_q4 := mw_us hM1
  have hF := mw_fn hM1 hq4 hF
  refine lv_dup hx hb dd_Es_make_7 rfl ?_
  refine lv_aload_n hx hb dd_Es_make_8 rfl (lv_at hl 0 rfl) ?_
  refine gf_Es_28 E hM wd rfl dd_Es_make_9 ?_
  refine lv_iload_n hx hb dd_Es_make_12 rfl (lv_at hl 1 rfl) ?_
  refine lv_iload_n hx hb dd_Es_make_13 rfl (lv_at hl 2 rfl) ?_
  refine lv_iload_n hx hb dd_Es_make_14 rfl (lv_at hl 3 rfl) ?_
  refine lv_iload hx hb dd_Es_make_15 (lv_at hl 4 rfl) ?_
  refine lv_iload hx hb dd_Es_make_17 (lv_at hl 5 rfl) ?_
  refine mw_I (As := [.int (nI mk), .int (e_i), .int (e_p), .int (e_s), .int (e_t), .int (e_f)]) (rest := [.ref q4, .ref el]) E (cc_En_init l D z (M1) q4 (nI mk) e_i e_p e_s e_t e_f w_q4) ky_En_init kv_En_init tw_Es_32 hM hS rfl hl.1 rfl (Nat.le_of_ble_eq_true rfl) dd_Es_make_19 (by decide) (by decide) (fun v M1 H locs hp hM hS => ?_)
  obtain ⟨rfl, w_q4, hF2⟩ := hp
  have hF := hF.tr2 hF2 (fun q h => Or.inl (by rw [h]; exact hq4))
  have wd := hF.old wd0
  have wc := hF.old wc0
  refine W.eq (g2 := F0 m 22 ls [.ref q4, .ref el]) rfl ?_
  have nq : q4 ≠ el := (mw_neN wc0 hq4).symm
  have nqa : q4 ≠ ar := by
    rcases hal.2.2.2 with h | h
    · rw [h.1]
      exact mw_st (mw_stZ E.Z) hM w_q4
    · exact (mw_neN h.2 hq4).symm
  refine mw_V (As := [.ref q4]) (rest := []) E (al_add l D z M1 (hal.old hF) hk0 (hel.old hF) hna w_q4 rfl (by decide +kernel) nq) ky_AL_add kv_AL_add tw_Es_35 hM hS wc rfl rfl rfl hl.1 rfl (Nat.le_of_ble_eq_true rfl) dd_Es_make_22 (by decide) (by decide) (fun v M1 H locs hp hM hS => ?_)
  obtain ⟨rfl, ar', cap', hal2, hF3, har⟩ := hp
  have nde : d ≠ el := mw_ne wd0 wc0 (fun q => by cases q)
  have wd := hF3.at wd (fun q => q.elim nde hda)
  have w_q4 := hF3.at w_q4 (fun q => q.elim nq nqa)
  have har : ar' = ar ∨ M ar' = none := har.imp id (fun y => Classical.byContradiction (fun n => hF.2 _ n y))
  have hF : mw_fr (fun q => q = d ∨ q = el ∨ q = ar) M M1 := ((mw_fr.rf (P := fun q => q = d ∨ q = el ∨ q = ar)).tr2 hF (fun q h => Or.inr h)).tr2 hF3 (fun q h => Or.inl (Or.inr h))
  refine W.eq (g2 := F0 m 25 ls [.int (1)]) rfl ?_
  refine lv_pop hx hb dd_Es_make_25 rfl ?_
  refine lv_aload_n hx hb dd_Es_make_26 rfl (lv_at hl 0 rfl) ?_
  refine lv_dup hx hb dd_Es_make_27 rfl ?_
  refine gf_Es_28 E hM wd rfl dd_Es_make_28 ?_
  refine lv_iconst (v := nI 1) hx hb dd_Es_make_31 (by decide) ?_
  refine lv_iadd hx hb dd_Es_make_32 ?_
  refine mw_topi (y := nI (mk + 1)) (nI_add _ _) ?_
  have wd1 := wd
  refine pf_Es_28 E hM hS wd (Nat.le_of_ble_eq_true rfl) dd_Es_make_33 (fun H locs hM hS => ?_)
  have hM : mw_at D mg_cl z (va_up M1 d (some (.inr (3, [.ref el, .int (nI (mk + 1))])))) H := hM
  obtain ⟨M1, hM1⟩ : ∃ M9 : mw_M, M9 = va_up M1 d (some (.inr (3, [.ref el, .int (nI (mk + 1))]))) := ⟨_, rfl⟩
  rw [← hM1] at hM
  have w_q4 := mw_uu hM1 w_q4 (mw_ne w_q4 wd (fun q => by cases q))
  have wd := mw_us hM1
  have hF := mw_fu hM1 hF (Or.inl rfl)
  refine lv_aload_n hx hb dd_Es_make_36 rfl (lv_at hl 0 rfl) ?_
  refine gf_Es_28 E hM wd rfl dd_Es_make_37 ?_
  refine lv_iconst (v := nI 1) hx hb dd_Es_make_40 (by decide) ?_
  refine lv_isub hx hb dd_Es_make_41 ?_
  refine mr_i E hr hk hM hS (by decide) (by decide) ?_ dd_Es_make_42
  exact ⟨rfl, q4, ar', cap', hq4, w_q4, wd, hal2.upd hM1 wd1 nde, hF, har⟩
