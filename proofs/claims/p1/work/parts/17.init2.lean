set_option maxHeartbeats 4000000 in
set_option maxRecDepth 100000 in
theorem cc_Id_init (l : Launch) (D : va_G) (z : Nat) (M : mw_M) (b : Nat) (L0 : List Nat) (hA : mn_l (b :: L0) M) (wb : M b = some (.inr (2, [.null, .null, .null, .int 0]))) : mw_C l yy_Id_init bb_Id_init 1 (Option.none : Option Jvm.ClassFile.FieldType) 1 20 15 516 D z M [.ref b] (fun v M' => v = none ∧ ∃ de le t, M' b = some (.inr (2, [.ref t, .ref le, .ref de, .int 0])) ∧ M' de = some (.inl (D.1 100, 12, .inl (fun _ => 0))) ∧ M' le = some (.inl (D.1 100, 12, .inl (fun _ => 0))) ∧ M' t = some (.inl (D.1 104, 12, .inr (.inr (.inr (.inr (fun j => if j < 12 then some (t + 1 + j) else none)))))) ∧ (∀ j : Nat, j < 12 → M' (t + 1 + j) = some (.inl (D.1 100, 40, .inl (fun _ => 0)))) ∧ mn_l (de :: (le :: (t :: ((List.range 12).map (fun j => t + 1 + j) ++ (b :: L0))))) M' ∧ mw_fr (fun q => q ∉ L0) M M') := by
  refine mw_of (by decide) (Nat.le_of_ble_eq_true rfl) ?_
  intro p e s m below meth c ls E hr hk hnm hM hl
  have hx := E.x
  have hb := E.b
  have E : mw_E p m c bb_Id_init 1 s _ D z "IdentityIssuer$Ids" := E
  have hl : lv_has ls 1 [(0, .ref b)] := hl
  have hS : va_S (mw_A z) s.heap s.heap [] := va_S.rf
  have hF : mw_fr (fun q => q ∉ L0) M M := mw_fr.rf
  refine lv_aload_n hx hb dd_Id_init_0 rfl (lv_at hl 0 rfl) ?_
  refine W.objInit hx hb E.o (E.t _ tw_Id_3) (E.t _ kw_Ob_im) (E.t _ kw_Ob_code) rfl (by rw [E.ml]; exact hl.1) rfl dd_Id_init_1 (Nat.le_of_ble_eq_true rfl) (Nat.le_of_ble_eq_true rfl) ?_
  refine W.eq (g2 := F0 m 4 ls []) rfl ?_
  refine lv_aload_n hx hb dd_Id_init_4 rfl (lv_at hl 0 rfl) ?_
  refine lv_bipush (v := nI 12) hx hb dd_Id_init_5 (by decide) ?_
  refine lv_bipush (v := nI 40) hx hb dd_Id_init_7 (by decide) ?_
  refine mw_multi (N := 12) (K := 40) E hM hS (E.t _ tw_Id_11) (E.t _ tw_ac_int) dd_Id_init_9 (by decide) (by decide) (by decide) (by decide) (by decide) (by decide) (by decide) (by decide) (fun q9 H locs hq9 hM hS => ?_)
  have wb : (va_up (gm_Mr M q9 (.inl (D.1 100, 40, .inl (fun _ => 0))) 12) q9 (some (.inl (D.1 104, 12, .inr (.inr (.inr (.inr (fun j => if j < 12 then some (q9 + 1 + j) else none)))))))) b = some (.inr (2, [.null, .null, .null, .int (0)])) := gm_keep wb hq9
  have w_q9 : (va_up (gm_Mr M q9 (.inl (D.1 100, 40, .inl (fun _ => 0))) 12) q9 (some (.inl (D.1 104, 12, .inr (.inr (.inr (.inr (fun j => if j < 12 then some (q9 + 1 + j) else none)))))))) q9 = some (.inl (D.1 104, 12, .inr (.inr (.inr (.inr (fun j => if j < 12 then some (q9 + 1 + j) else none)))))) := mw_s
  have hrow : ∀ j : Nat, j < 12 → (va_up (gm_Mr M q9 (.inl (D.1 100, 40, .inl (fun _ => 0))) 12) q9 (some (.inl (D.1 104, 12, .inr (.inr (.inr (.inr (fun j => if j < 12 then some (q9 + 1 + j) else none)))))))) (q9 + 1 + j) = some (.inl (D.1 100, 40, .inl (fun _ => 0))) := fun j hj => gm_rows hj
  have hF := gm_fr (r := .inl (D.1 100, 40, .inl (fun _ => 0))) (o := .inl (D.1 104, 12, .inr (.inr (.inr (.inr (fun j => if j < 12 then some (q9 + 1 + j) else none)))))) hF hq9
  have hA := gm_mn (r := .inl (D.1 100, 40, .inl (fun _ => 0))) (o := .inl (D.1 104, 12, .inr (.inr (.inr (.inr (fun j => if j < 12 then some (q9 + 1 + j) else none)))))) hA hq9
  obtain ⟨M1, hM1⟩ : ∃ M9 : mw_M, M9 = va_up (gm_Mr M q9 (.inl (D.1 100, 40, .inl (fun _ => 0))) 12) q9 (some (.inl (D.1 104, 12, .inr (.inr (.inr (.inr (fun j => if j < 12 then some (q9 + 1 + j) else none))))))) := ⟨_, rfl⟩
  rw [← hM1] at hM wb w_q9 hrow hF hA
  refine pf_Id_13 E hnm hM hS wb (Nat.le_of_ble_eq_true rfl) dd_Id_init_13 (fun H locs hM hS => ?_)
  have hM : mw_at D mg_cl z (va_up M1 b (some (.inr (2, [.ref q9, .null, .null, .int (0)])))) H := hM
  obtain ⟨M1, hM1⟩ : ∃ M9 : mw_M, M9 = va_up M1 b (some (.inr (2, [.ref q9, .null, .null, .int (0)]))) := ⟨_, rfl⟩
  rw [← hM1] at hM
  have hrow := fun (j : Nat) (hj : j < 12) => mw_uu hM1 (hrow j hj) (mw_ne (hrow j hj) wb (fun q => by cases q))
  have w_q9 := mw_uu hM1 w_q9 (mw_ne w_q9 wb (fun q => by cases q))
  have wb := mw_us hM1
  have hA := mn_uu hM1 hA
  have hF := mw_fu hM1 hF (mn_out (pre := q9 :: ((List.range 12).map (fun j => q9 + 1 + j) ++ (b :: ([])))) hA 13 rfl)
  refine lv_aload_n hx hb dd_Id_init_16 rfl (lv_at hl 0 rfl) ?_
  refine lv_bipush (v := nI 12) hx hb dd_Id_init_17 (by decide) ?_
  refine mw_newa (atype := .int) (ty := .int) (a0 := (12, .inl (fun _ => 0))) hx hb (E.t _ tw_ac_int) rfl E.K hM E.zz hS 0 rfl (fun _ => rfl) (by decide) (by decide) (by decide) (by decide) (by decide) dd_Id_init_19 (fun q19 H hq19 hM hS => ?_)
  have hM : mw_at D mg_cl z (va_up M1 q19 (some (.inl (D.1 100, 12, .inl (fun _ => 0))))) H := hM
  obtain ⟨M1, hM1⟩ : ∃ M9 : mw_M, M9 = va_up M1 q19 (some (.inl (D.1 100, 12, .inl (fun _ => 0)))) := ⟨_, rfl⟩
  rw [← hM1] at hM
  have ne_hrow_q19 := fun (j : Nat) (hj : j < 12) => mw_neN (hrow j hj) hq19
  have hrow := fun (j : Nat) (hj : j < 12) => mw_un hM1 hq19 (hrow j hj)
  have wb := mw_un hM1 hq19 wb
  have w_q9 := mw_un hM1 hq19 w_q9
  have w_q19 := mw_us hM1
  have hF := mw_fn hM1 hq19 hF
  have hA := mn_nn hM1 hq19 hA
  refine pf_Id_16 E hnm hM hS wb (Nat.le_of_ble_eq_true rfl) dd_Id_init_21 (fun H locs hM hS => ?_)
  have hM : mw_at D mg_cl z (va_up M1 b (some (.inr (2, [.ref q9, .ref q19, .null, .int (0)])))) H := hM
  obtain ⟨M1, hM1⟩ : ∃ M9 : mw_M, M9 = va_up M1 b (some (.inr (2, [.ref q9, .ref q19, .null, .int (0)]))) := ⟨_, rfl⟩
  rw [← hM1] at hM
  have hrow := fun (j : Nat) (hj : j < 12) => mw_uu hM1 (hrow j hj) (mw_ne (hrow j hj) wb (fun q => by cases q))
  have w_q9 := mw_uu hM1 w_q9 (mw_ne w_q9 wb (fun q => by cases q))
  have w_q19 := mw_uu hM1 w_q19 (mw_ne w_q19 wb (fun q => by cases q))
  have wb := mw_us hM1
  have hA := mn_uu hM1 hA
  have hF := mw_fu hM1 hF (mn_out (pre := q19 :: (q9 :: ((List.range 12).map (fun j => q9 + 1 + j) ++ (b :: ([]))))) hA 14 rfl)
  refine lv_aload_n hx hb dd_Id_init_24 rfl (lv_at hl 0 rfl) ?_
  refine lv_bipush (v := nI 12) hx hb dd_Id_init_25 (by decide) ?_
  refine mw_newa (atype := .int) (ty := .int) (a0 := (12, .inl (fun _ => 0))) hx hb (E.t _ tw_ac_int) rfl E.K hM E.zz hS 0 rfl (fun _ => rfl) (by decide) (by decide) (by decide) (by decide) (by decide) dd_Id_init_27 (fun q27 H hq27 hM hS => ?_)
  have hM : mw_at D mg_cl z (va_up M1 q27 (some (.inl (D.1 100, 12, .inl (fun _ => 0))))) H := hM
  obtain ⟨M1, hM1⟩ : ∃ M9 : mw_M, M9 = va_up M1 q27 (some (.inl (D.1 100, 12, .inl (fun _ => 0)))) := ⟨_, rfl⟩
  rw [← hM1] at hM
  have ne_hrow_q27 := fun (j : Nat) (hj : j < 12) => mw_neN (hrow j hj) hq27
  have hrow := fun (j : Nat) (hj : j < 12) => mw_un hM1 hq27 (hrow j hj)
  have wb := mw_un hM1 hq27 wb
  have w_q9 := mw_un hM1 hq27 w_q9
  have w_q19 := mw_un hM1 hq27 w_q19
  have w_q27 := mw_us hM1
  have hF := mw_fn hM1 hq27 hF
  have hA := mn_nn hM1 hq27 hA
  refine pf_Id_20 E hnm hM hS wb (Nat.le_of_ble_eq_true rfl) dd_Id_init_29 (fun H locs hM hS => ?_)
  have hM : mw_at D mg_cl z (va_up M1 b (some (.inr (2, [.ref q9, .ref q19, .ref q27, .int (0)])))) H := hM
  obtain ⟨M1, hM1⟩ : ∃ M9 : mw_M, M9 = va_up M1 b (some (.inr (2, [.ref q9, .ref q19, .ref q27, .int (0)]))) := ⟨_, rfl⟩
  rw [← hM1] at hM
  have hrow := fun (j : Nat) (hj : j < 12) => mw_uu hM1 (hrow j hj) (mw_ne (hrow j hj) wb (fun q => by cases q))
  have w_q9 := mw_uu hM1 w_q9 (mw_ne w_q9 wb (fun q => by cases q))
  have w_q19 := mw_uu hM1 w_q19 (mw_ne w_q19 wb (fun q => by cases q))
  have w_q27 := mw_uu hM1 w_q27 (mw_ne w_q27 wb (fun q => by cases q))
  have wb := mw_us hM1
  have hA := mn_uu hM1 hA
  have hF := mw_fu hM1 hF (mn_out (pre := q27 :: (q19 :: (q9 :: ((List.range 12).map (fun j => q9 + 1 + j) ++ (b :: ([])))))) hA 15 rfl)
  refine mr_v E hr hk hM hS (by decide) (by decide) ?_ dd_Id_init_32
  exact ⟨rfl, q27, q19, q9, wb, w_q27, w_q19, w_q9, hrow, hA, hF⟩
set_option maxHeartbeats 4000000 in
set_option maxRecDepth 100000 in
theorem cc_Xi_init (l : Launch) (D : va_G) (z : Nat) (M : mw_M) (x : Nat) (L0 : List Nat) (life : Int32) (hA : mn_l (x :: L0) M) (wx : M x = some (.inr (0, [.null, .null, .null, .null, .null, .null, .null, .null, .null, .int 0, .int 0, .int 0, .null, .null]))) : mw_C l yy_Xi_init bb_Xi_init 2 (Option.none : Option Jvm.ClassFile.FieldType) 5 100 40 1000 D z M [.ref x, .int (life)] (fun v M' => v = none ∧ ∃ r115 q115 l104 q104 q93 r82 y82 q82 r71 y71 q71 l60 q60 q49 q38 l27 q27 de le t q16 r5 q5, M' x = some (.inr (0, [.ref q5, .ref q16, .ref q115, .ref q27, .ref q38, .ref q49, .ref q60, .ref q71, .ref q82, .int (0), .int (0), .int (0), .ref q93, .ref q104])) ∧ M' r115 = some (.inl (D.1 100, 4, .inl (fun _ => 0))) ∧ M' q115 = some (.inr (8, [.int (if (nI 32) < (if life < (nI 256) then life else (nI 256)) then (if life < (nI 256) then life else (nI 256)) else (nI 32)), .ref r115, .int (nI 1), .int (0), .int (-1)])) ∧ M' l104 = some (.inr (4, [.ref ((D.2 200 0)), .int (nI 0), .int (nI 0)])) ∧ M' q104 = some (.inr (5, [.ref l104, .int (0), .int (0), .int (0)])) ∧ M' q93 = some (.inr (4, [.ref ((D.2 200 0)), .int (nI 0), .int (nI 0)])) ∧ M' r82 = some (.inl (D.1 100, 100, .inl (fun _ => 0))) ∧ M' y82 = some (.inr (1, [.ref r82, .int (nI 0)])) ∧ M' q82 = some (.inr (7, [.ref y82, .int (0)])) ∧ M' r71 = some (.inl (D.1 100, 100, .inl (fun _ => 0))) ∧ M' y71 = some (.inr (1, [.ref r71, .int (nI 0)])) ∧ M' q71 = some (.inr (6, [.ref y71, .int (0), .int (0), .int (0), .int (0), .int (0), .int (0), .int (0), .int (0)])) ∧ M' l60 = some (.inr (4, [.ref ((D.2 200 0)), .int (nI 0), .int (nI 0)])) ∧ M' q60 = some (.inr (5, [.ref l60, .int (0), .int (0), .int (0)])) ∧ M' q49 = some (.inr (4, [.ref ((D.2 200 0)), .int (nI 0), .int (nI 0)])) ∧ M' q38 = some (.inr (4, [.ref ((D.2 200 0)), .int (nI 0), .int (nI 0)])) ∧ M' l27 = some (.inr (4, [.ref ((D.2 200 0)), .int (nI 0), .int (nI 0)])) ∧ M' q27 = some (.inr (3, [.ref l27, .int (0)])) ∧ M' de = some (.inl (D.1 100, 12, .inl (fun _ => 0))) ∧ M' le = some (.inl (D.1 100, 12, .inl (fun _ => 0))) ∧ M' t = some (.inl (D.1 104, 12, .inr (.inr (.inr (.inr (fun j => if j < 12 then some (t + 1 + j) else none)))))) ∧ M' q16 = some (.inr (2, [.ref t, .ref le, .ref de, .int (0)])) ∧ M' r5 = some (.inl (D.1 100, 100, .inl (fun _ => 0))) ∧ M' q5 = some (.inr (1, [.ref r5, .int (nI 0)])) ∧ (∀ j : Nat, j < 12 → M' (t + 1 + j) = some (.inl (D.1 100, 40, .inl (fun _ => 0)))) ∧ mn_l (r115 :: (q115 :: (l104 :: (q104 :: (q93 :: (r82 :: (y82 :: (q82 :: (r71 :: (y71 :: (q71 :: (l60 :: (q60 :: (q49 :: (q38 :: (l27 :: (q27 :: (de :: (le :: (t :: ((List.range 12).map (fun j => t + 1 + j) ++ (q16 :: (r5 :: (q5 :: (x :: (L0)))))))))))))))))))))))))) M' ∧ mw_fr (fun q => q ∉ L0) M M') := by
  refine mw_of (by decide) (Nat.le_of_ble_eq_true rfl) ?_
  intro p e s m below meth c ls E hr hk hnm hM hl
  have hx := E.x
  have hb := E.b
  have E : mw_E p m c bb_Xi_init 2 s _ D z "IdentityIssuer" := E
  have hl : lv_has ls 2 [(0, .ref x), (1, .int (life))] := hl
  have hS : va_S (mw_A z) s.heap s.heap [] := va_S.rf
  have hF : mw_fr (fun q => q ∉ L0) M M := mw_fr.rf
  refine lv_aload_n hx hb dd_Xi_init_0 rfl (lv_at hl 0 rfl) ?_
  refine W.objInit hx hb E.o (E.t _ tw_Xi_1) (E.t _ kw_Ob_im) (E.t _ kw_Ob_code) rfl (by rw [E.ml]; exact hl.1) rfl dd_Xi_init_1 (Nat.le_of_ble_eq_true rfl) (Nat.le_of_ble_eq_true rfl) ?_
  refine W.eq (g2 := F0 m 4 ls []) rfl ?_
  refine lv_aload_n hx hb dd_Xi_init_4 rfl (lv_at hl 0 rfl) ?_
  refine mw_new (C := "IdentityIssuer$Bytes") (T := ff_By) (N := 2) (ci := 1) (fs := [.null, .int (0)]) hx hb E.t in_By tt_By ty_By E.o (E.t _ tw_Xi_7) (E.t _ tw_inst_By) (E.t _ tw_ini_By) E.K hM E.zz hS rfl (by decide +kernel) (by decide) (by decide) dd_Xi_init_5 (fun q5 H hq5 hM hS => ?_)
  have hM : mw_at D mg_cl z (va_up M q5 (some (.inr (1, [.null, .int (0)])))) H := hM
  obtain ⟨M1, hM1⟩ : ∃ M9 : mw_M, M9 = va_up M q5 (some (.inr (1, [.null, .int (0)]))) := ⟨_, rfl⟩
  rw [← hM1] at hM
  have wx := mw_un hM1 hq5 wx
  have w_q5 := mw_us hM1
  have hF := mw_fn hM1 hq5 hF
  have hA := mn_nn hM1 hq5 hA
  refine lv_dup hx hb dd_Xi_init_8 rfl ?_
  refine mw_IN (As := []) (rest := [.ref q5, .ref x]) E (cc_By_init l D z (M1) q5 (x :: (L0)) hA w_q5) ky_By_init kv_By_init tw_Xi_9 hM hS rfl hl.1 rfl (Nat.le_of_ble_eq_true rfl) dd_Xi_init_9 (by decide) (by decide) (fun v M1 H locs hp hM hS => ?_)
  obtain ⟨rfl, r5, w_q5, w_r5, hA, hF2⟩ := hp
  have wx := hF2.at wx (mn_in 0 rfl)
  have hF := hF.trans (hF2.mono (mn_suf (pre := x :: ([]))))
  have w_q5 : M1 q5 = some (.inr (1, [.ref r5, .int (nI 0)])) := w_q5
  refine pf_Xi_10 E hnm hM hS wx (Nat.le_of_ble_eq_true rfl) dd_Xi_init_12 (fun H locs hM hS => ?_)
  have hM : mw_at D mg_cl z (va_up M1 x (some (.inr (0, [.ref q5, .null, .null, .null, .null, .null, .null, .null, .null, .int (0), .int (0), .int (0), .null, .null])))) H := hM
  obtain ⟨M1, hM1⟩ : ∃ M9 : mw_M, M9 = va_up M1 x (some (.inr (0, [.ref q5, .null, .null, .null, .null, .null, .null, .null, .null, .int (0), .int (0), .int (0), .null, .null]))) := ⟨_, rfl⟩
  rw [← hM1] at hM
  have w_q5 := mw_uu hM1 w_q5 (mw_ne w_q5 wx (fun q => by cases q))
  have w_r5 := mw_uu hM1 w_r5 (mw_ne w_r5 wx (fun q => by cases q))
  have wx := mw_us hM1
  have hA := mn_uu hM1 hA
  have hF := mw_fu hM1 hF (mn_out (pre := r5 :: (q5 :: (x :: ([])))) hA 2 rfl)
  refine lv_aload_n hx hb dd_Xi_init_15 rfl (lv_at hl 0 rfl) ?_
  refine mw_new (C := "IdentityIssuer$Ids") (T := ff_Id) (N := 4) (ci := 2) (fs := [.null, .null, .null, .int (0)]) hx hb E.t in_Id tt_Id ty_Id E.o (E.t _ tw_Xi_16) (E.t _ tw_inst_Id) (E.t _ tw_ini_Id) E.K hM E.zz hS rfl (by decide +kernel) (by decide) (by decide) dd_Xi_init_16 (fun q16 H hq16 hM hS => ?_)
  have hM : mw_at D mg_cl z (va_up M1 q16 (some (.inr (2, [.null, .null, .null, .int (0)])))) H := hM
  obtain ⟨M1, hM1⟩ : ∃ M9 : mw_M, M9 = va_up M1 q16 (some (.inr (2, [.null, .null, .null, .int (0)]))) := ⟨_, rfl⟩
  rw [← hM1] at hM
  have wx := mw_un hM1 hq16 wx
  have w_q5 := mw_un hM1 hq16 w_q5
  have w_r5 := mw_un hM1 hq16 w_r5
  have w_q16 := mw_us hM1
  have hF := mw_fn hM1 hq16 hF
  have hA := mn_nn hM1 hq16 hA
  refine lv_dup hx hb dd_Xi_init_19 rfl ?_
  refine mw_IN (As := []) (rest := [.ref q16, .ref x]) E (cc_Id_init l D z (M1) q16 (r5 :: (q5 :: (x :: (L0)))) hA w_q16) ky_Id_init kv_Id_init tw_Xi_18 hM hS rfl hl.1 rfl (Nat.le_of_ble_eq_true rfl) dd_Xi_init_20 (by decide) (by decide) (fun v M1 H locs hp hM hS => ?_)
  obtain ⟨rfl, de, le, t, w_q16, w_de, w_le, w_t, hrow, hA, hF2⟩ := hp
  have wx := hF2.at wx (mn_in 2 rfl)
  have w_q5 := hF2.at w_q5 (mn_in 1 rfl)
  have w_r5 := hF2.at w_r5 (mn_in 0 rfl)
  have hF := hF.trans (hF2.mono (mn_suf (pre := r5 :: (q5 :: (x :: ([]))))))
  have w_q16 : M1 q16 = some (.inr (2, [.ref t, .ref le, .ref de, .int (0)])) := w_q16
  refine pf_Xi_19 E hnm hM hS wx (Nat.le_of_ble_eq_true rfl) dd_Xi_init_23 (fun H locs hM hS => ?_)
  have hM : mw_at D mg_cl z (va_up M1 x (some (.inr (0, [.ref q5, .ref q16, .null, .null, .null, .null, .null, .null, .null, .int (0), .int (0), .int (0), .null, .null])))) H := hM
  obtain ⟨M1, hM1⟩ : ∃ M9 : mw_M, M9 = va_up M1 x (some (.inr (0, [.ref q5, .ref q16, .null, .null, .null, .null, .null, .null, .null, .int (0), .int (0), .int (0), .null, .null]))) := ⟨_, rfl⟩
  rw [← hM1] at hM
  have hrow := fun (j : Nat) (hj : j < 12) => mw_uu hM1 (hrow j hj) (mw_ne (hrow j hj) wx (fun q => by cases q))
  have w_q5 := mw_uu hM1 w_q5 (mw_ne w_q5 wx (fun q => by cases q))
  have w_r5 := mw_uu hM1 w_r5 (mw_ne w_r5 wx (fun q => by cases q))
  have w_q16 := mw_uu hM1 w_q16 (mw_ne w_q16 wx (fun q => by cases q))
  have w_de := mw_uu hM1 w_de (mw_ne w_de wx (fun q => by cases q))
  have w_le := mw_uu hM1 w_le (mw_ne w_le wx (fun q => by cases q))
  have w_t := mw_uu hM1 w_t (mw_ne w_t wx (fun q => by cases q))
  have wx := mw_us hM1
  have hA := mn_uu hM1 hA
  have hF := mw_fu hM1 hF (mn_out (pre := de :: (le :: (t :: ((List.range 12).map (fun j => t + 1 + j) ++ (q16 :: (r5 :: (q5 :: (x :: ([]))))))))) hA 18 rfl)
  refine lv_aload_n hx hb dd_Xi_init_26 rfl (lv_at hl 0 rfl) ?_
  refine mw_new (C := "IdentityIssuer$Entries") (T := ff_Es) (N := 2) (ci := 3) (fs := [.null, .int (0)]) hx hb E.t in_Es tt_Es ty_Es E.o (E.t _ tw_Xi_23) (E.t _ tw_inst_Es) (E.t _ tw_ini_Es) E.K hM E.zz hS rfl (by decide +kernel) (by decide) (by decide) dd_Xi_init_27 (fun q27 H hq27 hM hS => ?_)
  have hM : mw_at D mg_cl z (va_up M1 q27 (some (.inr (3, [.null, .int (0)])))) H := hM
  obtain ⟨M1, hM1⟩ : ∃ M9 : mw_M, M9 = va_up M1 q27 (some (.inr (3, [.null, .int (0)]))) := ⟨_, rfl⟩
  rw [← hM1] at hM
  have ne_hrow_q27 := fun (j : Nat) (hj : j < 12) => mw_neN (hrow j hj) hq27
  have hrow := fun (j : Nat) (hj : j < 12) => mw_un hM1 hq27 (hrow j hj)
  have wx := mw_un hM1 hq27 wx
  have w_q5 := mw_un hM1 hq27 w_q5
  have w_r5 := mw_un hM1 hq27 w_r5
  have w_q16 := mw_un hM1 hq27 w_q16
  have w_de := mw_un hM1 hq27 w_de
  have w_le := mw_un hM1 hq27 w_le
  have w_t := mw_un hM1 hq27 w_t
  have w_q27 := mw_us hM1
  have hF := mw_fn hM1 hq27 hF
  have hA := mn_nn hM1 hq27 hA
  refine lv_dup hx hb dd_Xi_init_30 rfl ?_
  refine mw_IN (As := []) (rest := [.ref q27, .ref x]) E (cc_Es_init l D z (M1) q27 (de :: (le :: (t :: ((List.range 12).map (fun j => t + 1 + j) ++ (q16 :: (r5 :: (q5 :: (x :: (L0))))))))) hA w_q27) ky_Es_init kv_Es_init tw_Xi_25 hM hS rfl hl.1 rfl (Nat.le_of_ble_eq_true rfl) dd_Xi_init_31 (by decide) (by decide) (fun v M1 H locs hp hM hS => ?_)
  obtain ⟨rfl, l27, w_q27, w_l27, hA, hF2⟩ := hp
  have hrow := fun (j : Nat) (hj : j < 12) => hF2.at (hrow j hj) (fun h => h (List.mem_cons_of_mem _ (List.mem_cons_of_mem _ (List.mem_cons_of_mem _ (List.mem_append_left _ (List.mem_map.mpr ⟨j, List.mem_range.mpr hj, rfl⟩))))))
  have wx := hF2.at wx (mn_in 18 rfl)
  have w_q5 := hF2.at w_q5 (mn_in 17 rfl)
  have w_r5 := hF2.at w_r5 (mn_in 16 rfl)
  have w_q16 := hF2.at w_q16 (mn_in 15 rfl)
  have w_de := hF2.at w_de (mn_in 0 rfl)
  have w_le := hF2.at w_le (mn_in 1 rfl)
  have w_t := hF2.at w_t (mn_in 2 rfl)
  have hF := hF.trans (hF2.mono (mn_suf (pre := de :: (le :: (t :: ((List.range 12).map (fun j => t + 1 + j) ++ (q16 :: (r5 :: (q5 :: (x :: ([])))))))))))
  have w_q27 : M1 q27 = some (.inr (3, [.ref l27, .int (0)])) := w_q27
  refine pf_Xi_26 E hnm hM hS wx (Nat.le_of_ble_eq_true rfl) dd_Xi_init_34 (fun H locs hM hS => ?_)
  have hM : mw_at D mg_cl z (va_up M1 x (some (.inr (0, [.ref q5, .ref q16, .null, .ref q27, .null, .null, .null, .null, .null, .int (0), .int (0), .int (0), .null, .null])))) H := hM
  obtain ⟨M1, hM1⟩ : ∃ M9 : mw_M, M9 = va_up M1 x (some (.inr (0, [.ref q5, .ref q16, .null, .ref q27, .null, .null, .null, .null, .null, .int (0), .int (0), .int (0), .null, .null]))) := ⟨_, rfl⟩
  rw [← hM1] at hM
  have hrow := fun (j : Nat) (hj : j < 12) => mw_uu hM1 (hrow j hj) (mw_ne (hrow j hj) wx (fun q => by cases q))
  have w_q5 := mw_uu hM1 w_q5 (mw_ne w_q5 wx (fun q => by cases q))
  have w_r5 := mw_uu hM1 w_r5 (mw_ne w_r5 wx (fun q => by cases q))
  have w_q16 := mw_uu hM1 w_q16 (mw_ne w_q16 wx (fun q => by cases q))
  have w_de := mw_uu hM1 w_de (mw_ne w_de wx (fun q => by cases q))
  have w_le := mw_uu hM1 w_le (mw_ne w_le wx (fun q => by cases q))
  have w_t := mw_uu hM1 w_t (mw_ne w_t wx (fun q => by cases q))
  have w_q27 := mw_uu hM1 w_q27 (mw_ne w_q27 wx (fun q => by cases q))
  have w_l27 := mw_uu hM1 w_l27 (mw_ne w_l27 wx (fun q => by cases q))
  have wx := mw_us hM1
  have hA := mn_uu hM1 hA
  have hF := mw_fu hM1 hF (mn_out (pre := l27 :: (q27 :: (de :: (le :: (t :: ((List.range 12).map (fun j => t + 1 + j) ++ (q16 :: (r5 :: (q5 :: (x :: ([]))))))))))) hA 20 rfl)
  refine lv_aload_n hx hb dd_Xi_init_37 rfl (lv_at hl 0 rfl) ?_
  refine mw_new (C := "java/util/ArrayList") (T := ff_AL) (N := 3) (ci := 4) (fs := [.null, .int (0), .int (0)]) hx hb E.t in_AL tt_AL ty_AL E.o (E.t _ tw_Xi_30) (E.t _ tw_inst_AL) (E.t _ tw_ini_AL) E.K hM E.zz hS rfl (by decide +kernel) (by decide) (by decide) dd_Xi_init_38 (fun q38 H hq38 hM hS => ?_)
  have hM : mw_at D mg_cl z (va_up M1 q38 (some (.inr (4, [.null, .int (0), .int (0)])))) H := hM
  obtain ⟨M1, hM1⟩ : ∃ M9 : mw_M, M9 = va_up M1 q38 (some (.inr (4, [.null, .int (0), .int (0)]))) := ⟨_, rfl⟩
  rw [← hM1] at hM
  have ne_hrow_q38 := fun (j : Nat) (hj : j < 12) => mw_neN (hrow j hj) hq38
  have hrow := fun (j : Nat) (hj : j < 12) => mw_un hM1 hq38 (hrow j hj)
  have wx := mw_un hM1 hq38 wx
  have w_q5 := mw_un hM1 hq38 w_q5
  have w_r5 := mw_un hM1 hq38 w_r5
  have w_q16 := mw_un hM1 hq38 w_q16
  have w_de := mw_un hM1 hq38 w_de
  have w_le := mw_un hM1 hq38 w_le
  have w_t := mw_un hM1 hq38 w_t
  have w_q27 := mw_un hM1 hq38 w_q27
  have w_l27 := mw_un hM1 hq38 w_l27
  have w_q38 := mw_us hM1
  have hF := mw_fn hM1 hq38 hF
  have hA := mn_nn hM1 hq38 hA
  refine lv_dup hx hb dd_Xi_init_41 rfl ?_
  refine mw_I (As := []) (rest := [.ref q38, .ref x]) E (cc_AL_init l D z (M1) q38 w_q38) ky_AL_init kv_AL_init tw_Xi_32 hM hS rfl hl.1 rfl (Nat.le_of_ble_eq_true rfl) dd_Xi_init_42 (by decide) (by decide) (fun v M1 H locs hp hM hS => ?_)
  obtain ⟨rfl, wn_q38, hF2⟩ := hp
  have hrow := fun (j : Nat) (hj : j < 12) => hF2.at (hrow j hj) (ne_hrow_q38 j hj)
  have wx := hF2.at wx (mw_ne wx w_q38 (fun q => by cases q))
  have w_q5 := hF2.at w_q5 (mw_ne w_q5 w_q38 (fun q => by cases q))
  have w_r5 := hF2.at w_r5 (mw_ne w_r5 w_q38 (fun q => by cases q))
  have w_q16 := hF2.at w_q16 (mw_ne w_q16 w_q38 (fun q => by cases q))
  have w_de := hF2.at w_de (mw_ne w_de w_q38 (fun q => by cases q))
  have w_le := hF2.at w_le (mw_ne w_le w_q38 (fun q => by cases q))
  have w_t := hF2.at w_t (mw_ne w_t w_q38 (fun q => by cases q))
  have w_q27 := hF2.at w_q27 (mw_ne w_q27 w_q38 (fun q => by cases q))
  have w_l27 := hF2.at w_l27 (mn_ne hA 1 0 rfl rfl (by decide))
  have hF := hF.trans (hF2.mono (fun q9 h9 => by rw [h9]; exact mn_out (pre := q38 :: (l27 :: (q27 :: (de :: (le :: (t :: ((List.range 12).map (fun j => t + 1 + j) ++ (q16 :: (r5 :: (q5 :: (x :: ([])))))))))))) hA 0 rfl))
  have hA := mn_fr hA hF2
  have w_q38 := wn_q38
  refine pf_Xi_33 E hnm hM hS wx (Nat.le_of_ble_eq_true rfl) dd_Xi_init_45 (fun H locs hM hS => ?_)
  have hM : mw_at D mg_cl z (va_up M1 x (some (.inr (0, [.ref q5, .ref q16, .null, .ref q27, .ref q38, .null, .null, .null, .null, .int (0), .int (0), .int (0), .null, .null])))) H := hM
  obtain ⟨M1, hM1⟩ : ∃ M9 : mw_M, M9 = va_up M1 x (some (.inr (0, [.ref q5, .ref q16, .null, .ref q27, .ref q38, .null, .null, .null, .null, .int (0), .int (0), .int (0), .null, .null]))) := ⟨_, rfl⟩
  rw [← hM1] at hM
  have hrow := fun (j : Nat) (hj : j < 12) => mw_uu hM1 (hrow j hj) (mw_ne (hrow j hj) wx (fun q => by cases q))
  have w_q5 := mw_uu hM1 w_q5 (mw_ne w_q5 wx (fun q => by cases q))
  have w_r5 := mw_uu hM1 w_r5 (mw_ne w_r5 wx (fun q => by cases q))
  have w_q16 := mw_uu hM1 w_q16 (mw_ne w_q16 wx (fun q => by cases q))
  have w_de := mw_uu hM1 w_de (mw_ne w_de wx (fun q => by cases q))
  have w_le := mw_uu hM1 w_le (mw_ne w_le wx (fun q => by cases q))
  have w_t := mw_uu hM1 w_t (mw_ne w_t wx (fun q => by cases q))
  have w_q27 := mw_uu hM1 w_q27 (mw_ne w_q27 wx (fun q => by cases q))
  have w_l27 := mw_uu hM1 w_l27 (mw_ne w_l27 wx (fun q => by cases q))
  have w_q38 := mw_uu hM1 w_q38 (mw_ne w_q38 wx (fun q => by cases q))
  have wx := mw_us hM1
  have hA := mn_uu hM1 hA
  have hF := mw_fu hM1 hF (mn_out (pre := q38 :: (l27 :: (q27 :: (de :: (le :: (t :: ((List.range 12).map (fun j => t + 1 + j) ++ (q16 :: (r5 :: (q5 :: (x :: ([])))))))))))) hA 21 rfl)
  refine lv_aload_n hx hb dd_Xi_init_48 rfl (lv_at hl 0 rfl) ?_
  refine mw_new (C := "java/util/ArrayList") (T := ff_AL) (N := 3) (ci := 4) (fs := [.null, .int (0), .int (0)]) hx hb E.t in_AL tt_AL ty_AL E.o (E.t _ tw_Xi_30) (E.t _ tw_inst_AL) (E.t _ tw_ini_AL) E.K hM E.zz hS rfl (by decide +kernel) (by decide) (by decide) dd_Xi_init_49 (fun q49 H hq49 hM hS => ?_)
  have hM : mw_at D mg_cl z (va_up M1 q49 (some (.inr (4, [.null, .int (0), .int (0)])))) H := hM
  obtain ⟨M1, hM1⟩ : ∃ M9 : mw_M, M9 = va_up M1 q49 (some (.inr (4, [.null, .int (0), .int (0)]))) := ⟨_, rfl⟩
  rw [← hM1] at hM
  have ne_hrow_q49 := fun (j : Nat) (hj : j < 12) => mw_neN (hrow j hj) hq49
  have hrow := fun (j : Nat) (hj : j < 12) => mw_un hM1 hq49 (hrow j hj)
  have wx := mw_un hM1 hq49 wx
  have w_q5 := mw_un hM1 hq49 w_q5
  have w_r5 := mw_un hM1 hq49 w_r5
  have w_q16 := mw_un hM1 hq49 w_q16
  have w_de := mw_un hM1 hq49 w_de
  have w_le := mw_un hM1 hq49 w_le
  have w_t := mw_un hM1 hq49 w_t
  have w_q27 := mw_un hM1 hq49 w_q27
  have w_l27 := mw_un hM1 hq49 w_l27
  have w_q38 := mw_un hM1 hq49 w_q38
  have w_q49 := mw_us hM1
  have hF := mw_fn hM1 hq49 hF
  have hA := mn_nn hM1 hq49 hA
  refine lv_dup hx hb dd_Xi_init_52 rfl ?_
  refine mw_I (As := []) (rest := [.ref q49, .ref x]) E (cc_AL_init l D z (M1) q49 w_q49) ky_AL_init kv_AL_init tw_Xi_32 hM hS rfl hl.1 rfl (Nat.le_of_ble_eq_true rfl) dd_Xi_init_53 (by decide) (by decide) (fun v M1 H locs hp hM hS => ?_)
  obtain ⟨rfl, wn_q49, hF2⟩ := hp
  have hrow := fun (j : Nat) (hj : j < 12) => hF2.at (hrow j hj) (ne_hrow_q49 j hj)
  have wx := hF2.at wx (mw_ne wx w_q49 (fun q => by cases q))
  have w_q5 := hF2.at w_q5 (mw_ne w_q5 w_q49 (fun q => by cases q))
  have w_r5 := hF2.at w_r5 (mw_ne w_r5 w_q49 (fun q => by cases q))
  have w_q16 := hF2.at w_q16 (mw_ne w_q16 w_q49 (fun q => by cases q))
  have w_de := hF2.at w_de (mw_ne w_de w_q49 (fun q => by cases q))
  have w_le := hF2.at w_le (mw_ne w_le w_q49 (fun q => by cases q))
  have w_t := hF2.at w_t (mw_ne w_t w_q49 (fun q => by cases q))
  have w_q27 := hF2.at w_q27 (mw_ne w_q27 w_q49 (fun q => by cases q))
  have w_l27 := hF2.at w_l27 (mn_ne hA 2 0 rfl rfl (by decide))
  have w_q38 := hF2.at w_q38 (mn_ne hA 1 0 rfl rfl (by decide))
  have hF := hF.trans (hF2.mono (fun q9 h9 => by rw [h9]; exact mn_out (pre := q49 :: (q38 :: (l27 :: (q27 :: (de :: (le :: (t :: ((List.range 12).map (fun j => t + 1 + j) ++ (q16 :: (r5 :: (q5 :: (x :: ([]))))))))))))) hA 0 rfl))
  have hA := mn_fr hA hF2
  have w_q49 := wn_q49
  refine pf_Xi_37 E hnm hM hS wx (Nat.le_of_ble_eq_true rfl) dd_Xi_init_56 (fun H locs hM hS => ?_)
  have hM : mw_at D mg_cl z (va_up M1 x (some (.inr (0, [.ref q5, .ref q16, .null, .ref q27, .ref q38, .ref q49, .null, .null, .null, .int (0), .int (0), .int (0), .null, .null])))) H := hM
  obtain ⟨M1, hM1⟩ : ∃ M9 : mw_M, M9 = va_up M1 x (some (.inr (0, [.ref q5, .ref q16, .null, .ref q27, .ref q38, .ref q49, .null, .null, .null, .int (0), .int (0), .int (0), .null, .null]))) := ⟨_, rfl⟩
  rw [← hM1] at hM
  have hrow := fun (j : Nat) (hj : j < 12) => mw_uu hM1 (hrow j hj) (mw_ne (hrow j hj) wx (fun q => by cases q))
  have w_q5 := mw_uu hM1 w_q5 (mw_ne w_q5 wx (fun q => by cases q))
  have w_r5 := mw_uu hM1 w_r5 (mw_ne w_r5 wx (fun q => by cases q))
  have w_q16 := mw_uu hM1 w_q16 (mw_ne w_q16 wx (fun q => by cases q))
  have w_de := mw_uu hM1 w_de (mw_ne w_de wx (fun q => by cases q))
  have w_le := mw_uu hM1 w_le (mw_ne w_le wx (fun q => by cases q))
  have w_t := mw_uu hM1 w_t (mw_ne w_t wx (fun q => by cases q))
  have w_q27 := mw_uu hM1 w_q27 (mw_ne w_q27 wx (fun q => by cases q))
  have w_l27 := mw_uu hM1 w_l27 (mw_ne w_l27 wx (fun q => by cases q))
  have w_q38 := mw_uu hM1 w_q38 (mw_ne w_q38 wx (fun q => by cases q))
  have w_q49 := mw_uu hM1 w_q49 (mw_ne w_q49 wx (fun q => by cases q))
  have wx := mw_us hM1
  have hA := mn_uu hM1 hA
  have hF := mw_fu hM1 hF (mn_out (pre := q49 :: (q38 :: (l27 :: (q27 :: (de :: (le :: (t :: ((List.range 12).map (fun j => t + 1 + j) ++ (q16 :: (r5 :: (q5 :: (x :: ([]))))))))))))) hA 22 rfl)
  refine lv_aload_n hx hb dd_Xi_init_59 rfl (lv_at hl 0 rfl) ?_
  refine mw_new (C := "IdentityIssuer$Response") (T := ff_Rs) (N := 4) (ci := 5) (fs := [.null, .int (0), .int (0), .int (0)]) hx hb E.t in_Rs tt_Rs ty_Rs E.o (E.t _ tw_Xi_40) (E.t _ tw_inst_Rs) (E.t _ tw_ini_Rs) E.K hM E.zz hS rfl (by decide +kernel) (by decide) (by decide) dd_Xi_init_60 (fun q60 H hq60 hM hS => ?_)
  have hM : mw_at D mg_cl z (va_up M1 q60 (some (.inr (5, [.null, .int (0), .int (0), .int (0)])))) H := hM
  obtain ⟨M1, hM1⟩ : ∃ M9 : mw_M, M9 = va_up M1 q60 (some (.inr (5, [.null, .int (0), .int (0), .int (0)]))) := ⟨_, rfl⟩
  rw [← hM1] at hM
  have ne_hrow_q60 := fun (j : Nat) (hj : j < 12) => mw_neN (hrow j hj) hq60
  have hrow := fun (j : Nat) (hj : j < 12) => mw_un hM1 hq60 (hrow j hj)
  have wx := mw_un hM1 hq60 wx
  have w_q5 := mw_un hM1 hq60 w_q5
  have w_r5 := mw_un hM1 hq60 w_r5
  have w_q16 := mw_un hM1 hq60 w_q16
  have w_de := mw_un hM1 hq60 w_de
  have w_le := mw_un hM1 hq60 w_le
  have w_t := mw_un hM1 hq60 w_t
  have w_q27 := mw_un hM1 hq60 w_q27
  have w_l27 := mw_un hM1 hq60 w_l27
  have w_q38 := mw_un hM1 hq60 w_q38
  have w_q49 := mw_un hM1 hq60 w_q49
  have w_q60 := mw_us hM1
  have hF := mw_fn hM1 hq60 hF
  have hA := mn_nn hM1 hq60 hA
  refine lv_dup hx hb dd_Xi_init_63 rfl ?_
  refine mw_IN (As := []) (rest := [.ref q60, .ref x]) E (cc_Rs_init l D z (M1) q60 (q49 :: (q38 :: (l27 :: (q27 :: (de :: (le :: (t :: ((List.range 12).map (fun j => t + 1 + j) ++ (q16 :: (r5 :: (q5 :: (x :: (L0))))))))))))) hA w_q60) ky_Rs_init kv_Rs_init tw_Xi_42 hM hS rfl hl.1 rfl (Nat.le_of_ble_eq_true rfl) dd_Xi_init_64 (by decide) (by decide) (fun v M1 H locs hp hM hS => ?_)
  obtain ⟨rfl, l60, w_q60, w_l60, hA, hF2⟩ := hp
  have hrow := fun (j : Nat) (hj : j < 12) => hF2.at (hrow j hj) (fun h => h (List.mem_cons_of_mem _ (List.mem_cons_of_mem _ (List.mem_cons_of_mem _ (List.mem_cons_of_mem _ (List.mem_cons_of_mem _ (List.mem_cons_of_mem _ (List.mem_cons_of_mem _ (List.mem_append_left _ (List.mem_map.mpr ⟨j, List.mem_range.mpr hj, rfl⟩))))))))))
  have wx := hF2.at wx (mn_in 22 rfl)
  have w_q5 := hF2.at w_q5 (mn_in 21 rfl)
  have w_r5 := hF2.at w_r5 (mn_in 20 rfl)
  have w_q16 := hF2.at w_q16 (mn_in 19 rfl)
  have w_de := hF2.at w_de (mn_in 4 rfl)
  have w_le := hF2.at w_le (mn_in 5 rfl)
  have w_t := hF2.at w_t (mn_in 6 rfl)
  have w_q27 := hF2.at w_q27 (mn_in 3 rfl)
  have w_l27 := hF2.at w_l27 (mn_in 2 rfl)
  have w_q38 := hF2.at w_q38 (mn_in 1 rfl)
  have w_q49 := hF2.at w_q49 (mn_in 0 rfl)
  have hF := hF.trans (hF2.mono (mn_suf (pre := q49 :: (q38 :: (l27 :: (q27 :: (de :: (le :: (t :: ((List.range 12).map (fun j => t + 1 + j) ++ (q16 :: (r5 :: (q5 :: (x :: ([])))))))))))))))
  have w_q60 : M1 q60 = some (.inr (5, [.ref l60, .int (0), .int (0), .int (0)])) := w_q60
  refine pf_Xi_43 E hnm hM hS wx (Nat.le_of_ble_eq_true rfl) dd_Xi_init_67 (fun H locs hM hS => ?_)
  have hM : mw_at D mg_cl z (va_up M1 x (some (.inr (0, [.ref q5, .ref q16, .null, .ref q27, .ref q38, .ref q49, .ref q60, .null, .null, .int (0), .int (0), .int (0), .null, .null])))) H := hM
  obtain ⟨M1, hM1⟩ : ∃ M9 : mw_M, M9 = va_up M1 x (some (.inr (0, [.ref q5, .ref q16, .null, .ref q27, .ref q38, .ref q49, .ref q60, .null, .null, .int (0), .int (0), .int (0), .null, .null]))) := ⟨_, rfl⟩
  rw [← hM1] at hM
  have hrow := fun (j : Nat) (hj : j < 12) => mw_uu hM1 (hrow j hj) (mw_ne (hrow j hj) wx (fun q => by cases q))
  have w_q5 := mw_uu hM1 w_q5 (mw_ne w_q5 wx (fun q => by cases q))
  have w_r5 := mw_uu hM1 w_r5 (mw_ne w_r5 wx (fun q => by cases q))
  have w_q16 := mw_uu hM1 w_q16 (mw_ne w_q16 wx (fun q => by cases q))
  have w_de := mw_uu hM1 w_de (mw_ne w_de wx (fun q => by cases q))
  have w_le := mw_uu hM1 w_le (mw_ne w_le wx (fun q => by cases q))
  have w_t := mw_uu hM1 w_t (mw_ne w_t wx (fun q => by cases q))
  have w_q27 := mw_uu hM1 w_q27 (mw_ne w_q27 wx (fun q => by cases q))
  have w_l27 := mw_uu hM1 w_l27 (mw_ne w_l27 wx (fun q => by cases q))
  have w_q38 := mw_uu hM1 w_q38 (mw_ne w_q38 wx (fun q => by cases q))
  have w_q49 := mw_uu hM1 w_q49 (mw_ne w_q49 wx (fun q => by cases q))
  have w_q60 := mw_uu hM1 w_q60 (mw_ne w_q60 wx (fun q => by cases q))
  have w_l60 := mw_uu hM1 w_l60 (mw_ne w_l60 wx (fun q => by cases q))
  have wx := mw_us hM1
  have hA := mn_uu hM1 hA
  have hF := mw_fu hM1 hF (mn_out (pre := l60 :: (q60 :: (q49 :: (q38 :: (l27 :: (q27 :: (de :: (le :: (t :: ((List.range 12).map (fun j => t + 1 + j) ++ (q16 :: (r5 :: (q5 :: (x :: ([]))))))))))))))) hA 24 rfl)
  refine lv_aload_n hx hb dd_Xi_init_70 rfl (lv_at hl 0 rfl) ?_
  refine mw_new (C := "IdentityIssuer$Reader") (T := ff_Rd) (N := 9) (ci := 6) (fs := [.null, .int (0), .int (0), .int (0), .int (0), .int (0), .int (0), .int (0), .int (0)]) hx hb E.t in_Rd tt_Rd ty_Rd E.o (E.t _ tw_Xi_47) (E.t _ tw_inst_Rd) (E.t _ tw_ini_Rd) E.K hM E.zz hS rfl (by decide +kernel) (by decide) (by decide) dd_Xi_init_71 (fun q71 H hq71 hM hS => ?_)
  have hM : mw_at D mg_cl z (va_up M1 q71 (some (.inr (6, [.null, .int (0), .int (0), .int (0), .int (0), .int (0), .int (0), .int (0), .int (0)])))) H := hM
  obtain ⟨M1, hM1⟩ : ∃ M9 : mw_M, M9 = va_up M1 q71 (some (.inr (6, [.null, .int (0), .int (0), .int (0), .int (0), .int (0), .int (0), .int (0), .int (0)]))) := ⟨_, rfl⟩
  rw [← hM1] at hM
  have ne_hrow_q71 := fun (j : Nat) (hj : j < 12) => mw_neN (hrow j hj) hq71
  have hrow := fun (j : Nat) (hj : j < 12) => mw_un hM1 hq71 (hrow j hj)
  have wx := mw_un hM1 hq71 wx
  have w_q5 := mw_un hM1 hq71 w_q5
  have w_r5 := mw_un hM1 hq71 w_r5
  have w_q16 := mw_un hM1 hq71 w_q16
  have w_de := mw_un hM1 hq71 w_de
  have w_le := mw_un hM1 hq71 w_le
  have w_t := mw_un hM1 hq71 w_t
  have w_q27 := mw_un hM1 hq71 w_q27
  have w_l27 := mw_un hM1 hq71 w_l27
  have w_q38 := mw_un hM1 hq71 w_q38
  have w_q49 := mw_un hM1 hq71 w_q49
  have w_q60 := mw_un hM1 hq71 w_q60
  have w_l60 := mw_un hM1 hq71 w_l60
  have w_q71 := mw_us hM1
  have hF := mw_fn hM1 hq71 hF
  have hA := mn_nn hM1 hq71 hA
  refine lv_dup hx hb dd_Xi_init_74 rfl ?_
  refine mw_IN (As := []) (rest := [.ref q71, .ref x]) E (cc_Rd_init l D z (M1) q71 (l60 :: (q60 :: (q49 :: (q38 :: (l27 :: (q27 :: (de :: (le :: (t :: ((List.range 12).map (fun j => t + 1 + j) ++ (q16 :: (r5 :: (q5 :: (x :: (L0))))))))))))))) hA w_q71) ky_Rd_init kv_Rd_init tw_Xi_49 hM hS rfl hl.1 rfl (Nat.le_of_ble_eq_true rfl) dd_Xi_init_75 (by decide) (by decide) (fun v M1 H locs hp hM hS => ?_)
  obtain ⟨rfl, r71, y71, w_q71, w_r71, w_y71, hA, hF2⟩ := hp
  have hrow := fun (j : Nat) (hj : j < 12) => hF2.at (hrow j hj) (fun h => h (List.mem_cons_of_mem _ (List.mem_cons_of_mem _ (List.mem_cons_of_mem _ (List.mem_cons_of_mem _ (List.mem_cons_of_mem _ (List.mem_cons_of_mem _ (List.mem_cons_of_mem _ (List.mem_cons_of_mem _ (List.mem_cons_of_mem _ (List.mem_append_left _ (List.mem_map.mpr ⟨j, List.mem_range.mpr hj, rfl⟩))))))))))))
  have wx := hF2.at wx (mn_in 24 rfl)
  have w_q5 := hF2.at w_q5 (mn_in 23 rfl)
  have w_r5 := hF2.at w_r5 (mn_in 22 rfl)
  have w_q16 := hF2.at w_q16 (mn_in 21 rfl)
  have w_de := hF2.at w_de (mn_in 6 rfl)
  have w_le := hF2.at w_le (mn_in 7 rfl)
  have w_t := hF2.at w_t (mn_in 8 rfl)
  have w_q27 := hF2.at w_q27 (mn_in 5 rfl)
  have w_l27 := hF2.at w_l27 (mn_in 4 rfl)
  have w_q38 := hF2.at w_q38 (mn_in 3 rfl)
  have w_q49 := hF2.at w_q49 (mn_in 2 rfl)
  have w_q60 := hF2.at w_q60 (mn_in 1 rfl)
  have w_l60 := hF2.at w_l60 (mn_in 0 rfl)
  have hF := hF.trans (hF2.mono (mn_suf (pre := l60 :: (q60 :: (q49 :: (q38 :: (l27 :: (q27 :: (de :: (le :: (t :: ((List.range 12).map (fun j => t + 1 + j) ++ (q16 :: (r5 :: (q5 :: (x :: ([])))))))))))))))))
  have w_q71 : M1 q71 = some (.inr (6, [.ref y71, .int (0), .int (0), .int (0), .int (0), .int (0), .int (0), .int (0), .int (0)])) := w_q71
  refine pf_Xi_50 E hnm hM hS wx (Nat.le_of_ble_eq_true rfl) dd_Xi_init_78 (fun H locs hM hS => ?_)
  have hM : mw_at D mg_cl z (va_up M1 x (some (.inr (0, [.ref q5, .ref q16, .null, .ref q27, .ref q38, .ref q49, .ref q60, .ref q71, .null, .int (0), .int (0), .int (0), .null, .null])))) H := hM
  obtain ⟨M1, hM1⟩ : ∃ M9 : mw_M, M9 = va_up M1 x (some (.inr (0, [.ref q5, .ref q16, .null, .ref q27, .ref q38, .ref q49, .ref q60, .ref q71, .null, .int (0), .int (0), .int (0), .null, .null]))) := ⟨_, rfl⟩
  rw [← hM1] at hM
  have hrow := fun (j : Nat) (hj : j < 12) => mw_uu hM1 (hrow j hj) (mw_ne (hrow j hj) wx (fun q => by cases q))
  have w_q5 := mw_uu hM1 w_q5 (mw_ne w_q5 wx (fun q => by cases q))
  have w_r5 := mw_uu hM1 w_r5 (mw_ne w_r5 wx (fun q => by cases q))
  have w_q16 := mw_uu hM1 w_q16 (mw_ne w_q16 wx (fun q => by cases q))
  have w_de := mw_uu hM1 w_de (mw_ne w_de wx (fun q => by cases q))
  have w_le := mw_uu hM1 w_le (mw_ne w_le wx (fun q => by cases q))
  have w_t := mw_uu hM1 w_t (mw_ne w_t wx (fun q => by cases q))
  have w_q27 := mw_uu hM1 w_q27 (mw_ne w_q27 wx (fun q => by cases q))
  have w_l27 := mw_uu hM1 w_l27 (mw_ne w_l27 wx (fun q => by cases q))
  have w_q38 := mw_uu hM1 w_q38 (mw_ne w_q38 wx (fun q => by cases q))
  have w_q49 := mw_uu hM1 w_q49 (mw_ne w_q49 wx (fun q => by cases q))
  have w_q60 := mw_uu hM1 w_q60 (mw_ne w_q60 wx (fun q => by cases q))
  have w_l60 := mw_uu hM1 w_l60 (mw_ne w_l60 wx (fun q => by cases q))
  have w_q71 := mw_uu hM1 w_q71 (mw_ne w_q71 wx (fun q => by cases q))
  have w_r71 := mw_uu hM1 w_r71 (mw_ne w_r71 wx (fun q => by cases q))
  have w_y71 := mw_uu hM1 w_y71 (mw_ne w_y71 wx (fun q => by cases q))
  have wx := mw_us hM1
  have hA := mn_uu hM1 hA
  have hF := mw_fu hM1 hF (mn_out (pre := r71 :: (y71 :: (q71 :: (l60 :: (q60 :: (q49 :: (q38 :: (l27 :: (q27 :: (de :: (le :: (t :: ((List.range 12).map (fun j => t + 1 + j) ++ (q16 :: (r5 :: (q5 :: (x :: ([])))))))))))))))))) hA 27 rfl)
  refine lv_aload_n hx hb dd_Xi_init_81 rfl (lv_at hl 0 rfl) ?_
  refine mw_new (C := "IdentityIssuer$Writer") (T := ff_Wr) (N := 2) (ci := 7) (fs := [.null, .int (0)]) hx hb E.t in_Wr tt_Wr ty_Wr E.o (E.t _ tw_Xi_54) (E.t _ tw_inst_Wr) (E.t _ tw_ini_Wr) E.K hM E.zz hS rfl (by decide +kernel) (by decide) (by decide) dd_Xi_init_82 (fun q82 H hq82 hM hS => ?_)
  have hM : mw_at D mg_cl z (va_up M1 q82 (some (.inr (7, [.null, .int (0)])))) H := hM
  obtain ⟨M1, hM1⟩ : ∃ M9 : mw_M, M9 = va_up M1 q82 (some (.inr (7, [.null, .int (0)]))) := ⟨_, rfl⟩
  rw [← hM1] at hM
  have ne_hrow_q82 := fun (j : Nat) (hj : j < 12) => mw_neN (hrow j hj) hq82
  have hrow := fun (j : Nat) (hj : j < 12) => mw_un hM1 hq82 (hrow j hj)
  have wx := mw_un hM1 hq82 wx
  have w_q5 := mw_un hM1 hq82 w_q5
  have w_r5 := mw_un hM1 hq82 w_r5
  have w_q16 := mw_un hM1 hq82 w_q16
  have w_de := mw_un hM1 hq82 w_de
  have w_le := mw_un hM1 hq82 w_le
  have w_t := mw_un hM1 hq82 w_t
  have w_q27 := mw_un hM1 hq82 w_q27
  have w_l27 := mw_un hM1 hq82 w_l27
  have w_q38 := mw_un hM1 hq82 w_q38
  have w_q49 := mw_un hM1 hq82 w_q49
  have w_q60 := mw_un hM1 hq82 w_q60
  have w_l60 := mw_un hM1 hq82 w_l60
  have w_q71 := mw_un hM1 hq82 w_q71
  have w_r71 := mw_un hM1 hq82 w_r71
  have w_y71 := mw_un hM1 hq82 w_y71
  have w_q82 := mw_us hM1
  have hF := mw_fn hM1 hq82 hF
  have hA := mn_nn hM1 hq82 hA
  refine lv_dup hx hb dd_Xi_init_85 rfl ?_
  refine mw_IN (As := []) (rest := [.ref q82, .ref x]) E (cc_Wr_init l D z (M1) q82 (r71 :: (y71 :: (q71 :: (l60 :: (q60 :: (q49 :: (q38 :: (l27 :: (q27 :: (de :: (le :: (t :: ((List.range 12).map (fun j => t + 1 + j) ++ (q16 :: (r5 :: (q5 :: (x :: (L0)))))))))))))))))) hA w_q82) ky_Wr_init kv_Wr_init tw_Xi_56 hM hS rfl hl.1 rfl (Nat.le_of_ble_eq_true rfl) dd_Xi_init_86 (by decide) (by decide) (fun v M1 H locs hp hM hS => ?_)
  obtain ⟨rfl, r82, y82, w_q82, w_r82, w_y82, hA, hF2⟩ := hp
  have hrow := fun (j : Nat) (hj : j < 12) => hF2.at (hrow j hj) (fun h => h (List.mem_cons_of_mem _ (List.mem_cons_of_mem _ (List.mem_cons_of_mem _ (List.mem_cons_of_mem _ (List.mem_cons_of_mem _ (List.mem_cons_of_mem _ (List.mem_cons_of_mem _ (List.mem_cons_of_mem _ (List.mem_cons_of_mem _ (List.mem_cons_of_mem _ (List.mem_cons_of_mem _ (List.mem_cons_of_mem _ (List.mem_append_left _ (List.mem_map.mpr ⟨j, List.mem_range.mpr hj, rfl⟩)))))))))))))))
  have wx := hF2.at wx (mn_in 27 rfl)
  have w_q5 := hF2.at w_q5 (mn_in 26 rfl)
  have w_r5 := hF2.at w_r5 (mn_in 25 rfl)
  have w_q16 := hF2.at w_q16 (mn_in 24 rfl)
  have w_de := hF2.at w_de (mn_in 9 rfl)
  have w_le := hF2.at w_le (mn_in 10 rfl)
  have w_t := hF2.at w_t (mn_in 11 rfl)
  have w_q27 := hF2.at w_q27 (mn_in 8 rfl)
  have w_l27 := hF2.at w_l27 (mn_in 7 rfl)
  have w_q38 := hF2.at w_q38 (mn_in 6 rfl)
  have w_q49 := hF2.at w_q49 (mn_in 5 rfl)
  have w_q60 := hF2.at w_q60 (mn_in 4 rfl)
  have w_l60 := hF2.at w_l60 (mn_in 3 rfl)
  have w_q71 := hF2.at w_q71 (mn_in 2 rfl)
  have w_r71 := hF2.at w_r71 (mn_in 0 rfl)
  have w_y71 := hF2.at w_y71 (mn_in 1 rfl)
  have hF := hF.trans (hF2.mono (mn_suf (pre := r71 :: (y71 :: (q71 :: (l60 :: (q60 :: (q49 :: (q38 :: (l27 :: (q27 :: (de :: (le :: (t :: ((List.range 12).map (fun j => t + 1 + j) ++ (q16 :: (r5 :: (q5 :: (x :: ([]))))))))))))))))))))
  have w_q82 : M1 q82 = some (.inr (7, [.ref y82, .int (0)])) := w_q82
  refine pf_Xi_57 E hnm hM hS wx (Nat.le_of_ble_eq_true rfl) dd_Xi_init_89 (fun H locs hM hS => ?_)
  have hM : mw_at D mg_cl z (va_up M1 x (some (.inr (0, [.ref q5, .ref q16, .null, .ref q27, .ref q38, .ref q49, .ref q60, .ref q71, .ref q82, .int (0), .int (0), .int (0), .null, .null])))) H := hM
  obtain ⟨M1, hM1⟩ : ∃ M9 : mw_M, M9 = va_up M1 x (some (.inr (0, [.ref q5, .ref q16, .null, .ref q27, .ref q38, .ref q49, .ref q60, .ref q71, .ref q82, .int (0), .int (0), .int (0), .null, .null]))) := ⟨_, rfl⟩
  rw [← hM1] at hM
  have hrow := fun (j : Nat) (hj : j < 12) => mw_uu hM1 (hrow j hj) (mw_ne (hrow j hj) wx (fun q => by cases q))
  have w_q5 := mw_uu hM1 w_q5 (mw_ne w_q5 wx (fun q => by cases q))
  have w_r5 := mw_uu hM1 w_r5 (mw_ne w_r5 wx (fun q => by cases q))
  have w_q16 := mw_uu hM1 w_q16 (mw_ne w_q16 wx (fun q => by cases q))
  have w_de := mw_uu hM1 w_de (mw_ne w_de wx (fun q => by cases q))
  have w_le := mw_uu hM1 w_le (mw_ne w_le wx (fun q => by cases q))
  have w_t := mw_uu hM1 w_t (mw_ne w_t wx (fun q => by cases q))
  have w_q27 := mw_uu hM1 w_q27 (mw_ne w_q27 wx (fun q => by cases q))
  have w_l27 := mw_uu hM1 w_l27 (mw_ne w_l27 wx (fun q => by cases q))
  have w_q38 := mw_uu hM1 w_q38 (mw_ne w_q38 wx (fun q => by cases q))
  have w_q49 := mw_uu hM1 w_q49 (mw_ne w_q49 wx (fun q => by cases q))
  have w_q60 := mw_uu hM1 w_q60 (mw_ne w_q60 wx (fun q => by cases q))
  have w_l60 := mw_uu hM1 w_l60 (mw_ne w_l60 wx (fun q => by cases q))
  have w_q71 := mw_uu hM1 w_q71 (mw_ne w_q71 wx (fun q => by cases q))
  have w_r71 := mw_uu hM1 w_r71 (mw_ne w_r71 wx (fun q => by cases q))
  have w_y71 := mw_uu hM1 w_y71 (mw_ne w_y71 wx (fun q => by cases q))
  have w_q82 := mw_uu hM1 w_q82 (mw_ne w_q82 wx (fun q => by cases q))
  have w_r82 := mw_uu hM1 w_r82 (mw_ne w_r82 wx (fun q => by cases q))
  have w_y82 := mw_uu hM1 w_y82 (mw_ne w_y82 wx (fun q => by cases q))
  have wx := mw_us hM1
  have hA := mn_uu hM1 hA
  have hF := mw_fu hM1 hF (mn_out (pre := r82 :: (y82 :: (q82 :: (r71 :: (y71 :: (q71 :: (l60 :: (q60 :: (q49 :: (q38 :: (l27 :: (q27 :: (de :: (le :: (t :: ((List.range 12).map (fun j => t + 1 + j) ++ (q16 :: (r5 :: (q5 :: (x :: ([]))))))))))))))))))))) hA 30 rfl)
  refine lv_aload_n hx hb dd_Xi_init_92 rfl (lv_at hl 0 rfl) ?_
  refine mw_new (C := "java/util/ArrayList") (T := ff_AL) (N := 3) (ci := 4) (fs := [.null, .int (0), .int (0)]) hx hb E.t in_AL tt_AL ty_AL E.o (E.t _ tw_Xi_30) (E.t _ tw_inst_AL) (E.t _ tw_ini_AL) E.K hM E.zz hS rfl (by decide +kernel) (by decide) (by decide) dd_Xi_init_93 (fun q93 H hq93 hM hS => ?_)
  have hM : mw_at D mg_cl z (va_up M1 q93 (some (.inr (4, [.null, .int (0), .int (0)])))) H := hM
  obtain ⟨M1, hM1⟩ : ∃ M9 : mw_M, M9 = va_up M1 q93 (some (.inr (4, [.null, .int (0), .int (0)]))) := ⟨_, rfl⟩
  rw [← hM1] at hM
  have ne_hrow_q93 := fun (j : Nat) (hj : j < 12) => mw_neN (hrow j hj) hq93
  have hrow := fun (j : Nat) (hj : j < 12) => mw_un hM1 hq93 (hrow j hj)
  have wx := mw_un hM1 hq93 wx
  have w_q5 := mw_un hM1 hq93 w_q5
  have w_r5 := mw_un hM1 hq93 w_r5
  have w_q16 := mw_un hM1 hq93 w_q16
  have w_de := mw_un hM1 hq93 w_de
  have w_le := mw_un hM1 hq93 w_le
  have w_t := mw_un hM1 hq93 w_t
  have w_q27 := mw_un hM1 hq93 w_q27
  have w_l27 := mw_un hM1 hq93 w_l27
  have w_q38 := mw_un hM1 hq93 w_q38
  have w_q49 := mw_un hM1 hq93 w_q49
  have w_q60 := mw_un hM1 hq93 w_q60
  have w_l60 := mw_un hM1 hq93 w_l60
  have w_q71 := mw_un hM1 hq93 w_q71
  have w_r71 := mw_un hM1 hq93 w_r71
  have w_y71 := mw_un hM1 hq93 w_y71
  have w_q82 := mw_un hM1 hq93 w_q82
  have w_r82 := mw_un hM1 hq93 w_r82
  have w_y82 := mw_un hM1 hq93 w_y82
  have w_q93 := mw_us hM1
  have hF := mw_fn hM1 hq93 hF
  have hA := mn_nn hM1 hq93 hA
  refine lv_dup hx hb dd_Xi_init_96 rfl ?_
  refine mw_I (As := []) (rest := [.ref q93, .ref x]) E (cc_AL_init l D z (M1) q93 w_q93) ky_AL_init kv_AL_init tw_Xi_32 hM hS rfl hl.1 rfl (Nat.le_of_ble_eq_true rfl) dd_Xi_init_97 (by decide) (by decide) (fun v M1 H locs hp hM hS => ?_)
  obtain ⟨rfl, wn_q93, hF2⟩ := hp
  have hrow := fun (j : Nat) (hj : j < 12) => hF2.at (hrow j hj) (ne_hrow_q93 j hj)
  have wx := hF2.at wx (mw_ne wx w_q93 (fun q => by cases q))
  have w_q5 := hF2.at w_q5 (mw_ne w_q5 w_q93 (fun q => by cases q))
  have w_r5 := hF2.at w_r5 (mw_ne w_r5 w_q93 (fun q => by cases q))
  have w_q16 := hF2.at w_q16 (mw_ne w_q16 w_q93 (fun q => by cases q))
  have w_de := hF2.at w_de (mw_ne w_de w_q93 (fun q => by cases q))
  have w_le := hF2.at w_le (mw_ne w_le w_q93 (fun q => by cases q))
  have w_t := hF2.at w_t (mw_ne w_t w_q93 (fun q => by cases q))
  have w_q27 := hF2.at w_q27 (mw_ne w_q27 w_q93 (fun q => by cases q))
  have w_l27 := hF2.at w_l27 (mn_ne hA 11 0 rfl rfl (by decide))
  have w_q38 := hF2.at w_q38 (mn_ne hA 10 0 rfl rfl (by decide))
  have w_q49 := hF2.at w_q49 (mn_ne hA 9 0 rfl rfl (by decide))
  have w_q60 := hF2.at w_q60 (mw_ne w_q60 w_q93 (fun q => by cases q))
  have w_l60 := hF2.at w_l60 (mn_ne hA 7 0 rfl rfl (by decide))
  have w_q71 := hF2.at w_q71 (mw_ne w_q71 w_q93 (fun q => by cases q))
  have w_r71 := hF2.at w_r71 (mw_ne w_r71 w_q93 (fun q => by cases q))
  have w_y71 := hF2.at w_y71 (mw_ne w_y71 w_q93 (fun q => by cases q))
  have w_q82 := hF2.at w_q82 (mw_ne w_q82 w_q93 (fun q => by cases q))
  have w_r82 := hF2.at w_r82 (mw_ne w_r82 w_q93 (fun q => by cases q))
  have w_y82 := hF2.at w_y82 (mw_ne w_y82 w_q93 (fun q => by cases q))
  have hF := hF.trans (hF2.mono (fun q9 h9 => by rw [h9]; exact mn_out (pre := q93 :: (r82 :: (y82 :: (q82 :: (r71 :: (y71 :: (q71 :: (l60 :: (q60 :: (q49 :: (q38 :: (l27 :: (q27 :: (de :: (le :: (t :: ((List.range 12).map (fun j => t + 1 + j) ++ (q16 :: (r5 :: (q5 :: (x :: ([])))))))))))))))))))))) hA 0 rfl))
  have hA := mn_fr hA hF2
  have w_q93 := wn_q93
  refine pf_Xi_61 E hnm hM hS wx (Nat.le_of_ble_eq_true rfl) dd_Xi_init_100 (fun H locs hM hS => ?_)
  have hM : mw_at D mg_cl z (va_up M1 x (some (.inr (0, [.ref q5, .ref q16, .null, .ref q27, .ref q38, .ref q49, .ref q60, .ref q71, .ref q82, .int (0), .int (0), .int (0), .ref q93, .null])))) H := hM
  obtain ⟨M1, hM1⟩ : ∃ M9 : mw_M, M9 = va_up M1 x (some (.inr (0, [.ref q5, .ref q16, .null, .ref q27, .ref q38, .ref q49, .ref q60, .ref q71, .ref q82, .int (0), .int (0), .int (0), .ref q93, .null]))) := ⟨_, rfl⟩
  rw [← hM1] at hM
  have hrow := fun (j : Nat) (hj : j < 12) => mw_uu hM1 (hrow j hj) (mw_ne (hrow j hj) wx (fun q => by cases q))
  have w_q5 := mw_uu hM1 w_q5 (mw_ne w_q5 wx (fun q => by cases q))
  have w_r5 := mw_uu hM1 w_r5 (mw_ne w_r5 wx (fun q => by cases q))
  have w_q16 := mw_uu hM1 w_q16 (mw_ne w_q16 wx (fun q => by cases q))
  have w_de := mw_uu hM1 w_de (mw_ne w_de wx (fun q => by cases q))
  have w_le := mw_uu hM1 w_le (mw_ne w_le wx (fun q => by cases q))
  have w_t := mw_uu hM1 w_t (mw_ne w_t wx (fun q => by cases q))
  have w_q27 := mw_uu hM1 w_q27 (mw_ne w_q27 wx (fun q => by cases q))
  have w_l27 := mw_uu hM1 w_l27 (mw_ne w_l27 wx (fun q => by cases q))
  have w_q38 := mw_uu hM1 w_q38 (mw_ne w_q38 wx (fun q => by cases q))
  have w_q49 := mw_uu hM1 w_q49 (mw_ne w_q49 wx (fun q => by cases q))
  have w_q60 := mw_uu hM1 w_q60 (mw_ne w_q60 wx (fun q => by cases q))
  have w_l60 := mw_uu hM1 w_l60 (mw_ne w_l60 wx (fun q => by cases q))
  have w_q71 := mw_uu hM1 w_q71 (mw_ne w_q71 wx (fun q => by cases q))
  have w_r71 := mw_uu hM1 w_r71 (mw_ne w_r71 wx (fun q => by cases q))
  have w_y71 := mw_uu hM1 w_y71 (mw_ne w_y71 wx (fun q => by cases q))
  have w_q82 := mw_uu hM1 w_q82 (mw_ne w_q82 wx (fun q => by cases q))
  have w_r82 := mw_uu hM1 w_r82 (mw_ne w_r82 wx (fun q => by cases q))
  have w_y82 := mw_uu hM1 w_y82 (mw_ne w_y82 wx (fun q => by cases q))
  have w_q93 := mw_uu hM1 w_q93 (mw_ne w_q93 wx (fun q => by cases q))
  have wx := mw_us hM1
  have hA := mn_uu hM1 hA
  have hF := mw_fu hM1 hF (mn_out (pre := q93 :: (r82 :: (y82 :: (q82 :: (r71 :: (y71 :: (q71 :: (l60 :: (q60 :: (q49 :: (q38 :: (l27 :: (q27 :: (de :: (le :: (t :: ((List.range 12).map (fun j => t + 1 + j) ++ (q16 :: (r5 :: (q5 :: (x :: ([])))))))))))))))))))))) hA 31 rfl)
  refine lv_aload_n hx hb dd_Xi_init_103 rfl (lv_at hl 0 rfl) ?_
  refine mw_new (C := "IdentityIssuer$Response") (T := ff_Rs) (N := 4) (ci := 5) (fs := [.null, .int (0), .int (0), .int (0)]) hx hb E.t in_Rs tt_Rs ty_Rs E.o (E.t _ tw_Xi_40) (E.t _ tw_inst_Rs) (E.t _ tw_ini_Rs) E.K hM E.zz hS rfl (by decide +kernel) (by decide) (by decide) dd_Xi_init_104 (fun q104 H hq104 hM hS => ?_)
  have hM : mw_at D mg_cl z (va_up M1 q104 (some (.inr (5, [.null, .int (0), .int (0), .int (0)])))) H := hM
  obtain ⟨M1, hM1⟩ : ∃ M9 : mw_M, M9 = va_up M1 q104 (some (.inr (5, [.null, .int (0), .int (0), .int (0)]))) := ⟨_, rfl⟩
  rw [← hM1] at hM
  have ne_hrow_q104 := fun (j : Nat) (hj : j < 12) => mw_neN (hrow j hj) hq104
  have hrow := fun (j : Nat) (hj : j < 12) => mw_un hM1 hq104 (hrow j hj)
  have wx := mw_un hM1 hq104 wx
  have w_q5 := mw_un hM1 hq104 w_q5
  have w_r5 := mw_un hM1 hq104 w_r5
  have w_q16 := mw_un hM1 hq104 w_q16
  have w_de := mw_un hM1 hq104 w_de
  have w_le := mw_un hM1 hq104 w_le
  have w_t := mw_un hM1 hq104 w_t
  have w_q27 := mw_un hM1 hq104 w_q27
  have w_l27 := mw_un hM1 hq104 w_l27
  have w_q38 := mw_un hM1 hq104 w_q38
  have w_q49 := mw_un hM1 hq104 w_q49
  have w_q60 := mw_un hM1 hq104 w_q60
  have w_l60 := mw_un hM1 hq104 w_l60
  have w_q71 := mw_un hM1 hq104 w_q71
  have w_r71 := mw_un hM1 hq104 w_r71
  have w_y71 := mw_un hM1 hq104 w_y71
  have w_q82 := mw_un hM1 hq104 w_q82
  have w_r82 := mw_un hM1 hq104 w_r82
  have w_y82 := mw_un hM1 hq104 w_y82
  have w_q93 := mw_un hM1 hq104 w_q93
  have w_q104 := mw_us hM1
  have hF := mw_fn hM1 hq104 hF
  have hA := mn_nn hM1 hq104 hA
  refine lv_dup hx hb dd_Xi_init_107 rfl ?_
  refine mw_IN (As := []) (rest := [.ref q104, .ref x]) E (cc_Rs_init l D z (M1) q104 (q93 :: (r82 :: (y82 :: (q82 :: (r71 :: (y71 :: (q71 :: (l60 :: (q60 :: (q49 :: (q38 :: (l27 :: (q27 :: (de :: (le :: (t :: ((List.range 12).map (fun j => t + 1 + j) ++ (q16 :: (r5 :: (q5 :: (x :: (L0)))))))))))))))))))))) hA w_q104) ky_Rs_init kv_Rs_init tw_Xi_42 hM hS rfl hl.1 rfl (Nat.le_of_ble_eq_true rfl) dd_Xi_init_108 (by decide) (by decide) (fun v M1 H locs hp hM hS => ?_)
  obtain ⟨rfl, l104, w_q104, w_l104, hA, hF2⟩ := hp
  have hrow := fun (j : Nat) (hj : j < 12) => hF2.at (hrow j hj) (fun h => h (List.mem_cons_of_mem _ (List.mem_cons_of_mem _ (List.mem_cons_of_mem _ (List.mem_cons_of_mem _ (List.mem_cons_of_mem _ (List.mem_cons_of_mem _ (List.mem_cons_of_mem _ (List.mem_cons_of_mem _ (List.mem_cons_of_mem _ (List.mem_cons_of_mem _ (List.mem_cons_of_mem _ (List.mem_cons_of_mem _ (List.mem_cons_of_mem _ (List.mem_cons_of_mem _ (List.mem_cons_of_mem _ (List.mem_cons_of_mem _ (List.mem_append_left _ (List.mem_map.mpr ⟨j, List.mem_range.mpr hj, rfl⟩)))))))))))))))))))
  have wx := hF2.at wx (mn_in 31 rfl)
  have w_q5 := hF2.at w_q5 (mn_in 30 rfl)
  have w_r5 := hF2.at w_r5 (mn_in 29 rfl)
  have w_q16 := hF2.at w_q16 (mn_in 28 rfl)
  have w_de := hF2.at w_de (mn_in 13 rfl)
  have w_le := hF2.at w_le (mn_in 14 rfl)
  have w_t := hF2.at w_t (mn_in 15 rfl)
  have w_q27 := hF2.at w_q27 (mn_in 12 rfl)
  have w_l27 := hF2.at w_l27 (mn_in 11 rfl)
  have w_q38 := hF2.at w_q38 (mn_in 10 rfl)
  have w_q49 := hF2.at w_q49 (mn_in 9 rfl)
  have w_q60 := hF2.at w_q60 (mn_in 8 rfl)
  have w_l60 := hF2.at w_l60 (mn_in 7 rfl)
  have w_q71 := hF2.at w_q71 (mn_in 6 rfl)
  have w_r71 := hF2.at w_r71 (mn_in 4 rfl)
  have w_y71 := hF2.at w_y71 (mn_in 5 rfl)
  have w_q82 := hF2.at w_q82 (mn_in 3 rfl)
  have w_r82 := hF2.at w_r82 (mn_in 1 rfl)
  have w_y82 := hF2.at w_y82 (mn_in 2 rfl)
  have w_q93 := hF2.at w_q93 (mn_in 0 rfl)
  have hF := hF.trans (hF2.mono (mn_suf (pre := q93 :: (r82 :: (y82 :: (q82 :: (r71 :: (y71 :: (q71 :: (l60 :: (q60 :: (q49 :: (q38 :: (l27 :: (q27 :: (de :: (le :: (t :: ((List.range 12).map (fun j => t + 1 + j) ++ (q16 :: (r5 :: (q5 :: (x :: ([]))))))))))))))))))))))))
  have w_q104 : M1 q104 = some (.inr (5, [.ref l104, .int (0), .int (0), .int (0)])) := w_q104
  refine pf_Xi_64 E hnm hM hS wx (Nat.le_of_ble_eq_true rfl) dd_Xi_init_111 (fun H locs hM hS => ?_)
  have hM : mw_at D mg_cl z (va_up M1 x (some (.inr (0, [.ref q5, .ref q16, .null, .ref q27, .ref q38, .ref q49, .ref q60, .ref q71, .ref q82, .int (0), .int (0), .int (0), .ref q93, .ref q104])))) H := hM
  obtain ⟨M1, hM1⟩ : ∃ M9 : mw_M, M9 = va_up M1 x (some (.inr (0, [.ref q5, .ref q16, .null, .ref q27, .ref q38, .ref q49, .ref q60, .ref q71, .ref q82, .int (0), .int (0), .int (0), .ref q93, .ref q104]))) := ⟨_, rfl⟩
  rw [← hM1] at hM
  have hrow := fun (j : Nat) (hj : j < 12) => mw_uu hM1 (hrow j hj) (mw_ne (hrow j hj) wx (fun q => by cases q))
  have w_q5 := mw_uu hM1 w_q5 (mw_ne w_q5 wx (fun q => by cases q))
  have w_r5 := mw_uu hM1 w_r5 (mw_ne w_r5 wx (fun q => by cases q))
  have w_q16 := mw_uu hM1 w_q16 (mw_ne w_q16 wx (fun q => by cases q))
  have w_de := mw_uu hM1 w_de (mw_ne w_de wx (fun q => by cases q))
  have w_le := mw_uu hM1 w_le (mw_ne w_le wx (fun q => by cases q))
  have w_t := mw_uu hM1 w_t (mw_ne w_t wx (fun q => by cases q))
  have w_q27 := mw_uu hM1 w_q27 (mw_ne w_q27 wx (fun q => by cases q))
  have w_l27 := mw_uu hM1 w_l27 (mw_ne w_l27 wx (fun q => by cases q))
  have w_q38 := mw_uu hM1 w_q38 (mw_ne w_q38 wx (fun q => by cases q))
  have w_q49 := mw_uu hM1 w_q49 (mw_ne w_q49 wx (fun q => by cases q))
  have w_q60 := mw_uu hM1 w_q60 (mw_ne w_q60 wx (fun q => by cases q))
  have w_l60 := mw_uu hM1 w_l60 (mw_ne w_l60 wx (fun q => by cases q))
  have w_q71 := mw_uu hM1 w_q71 (mw_ne w_q71 wx (fun q => by cases q))
  have w_r71 := mw_uu hM1 w_r71 (mw_ne w_r71 wx (fun q => by cases q))
  have w_y71 := mw_uu hM1 w_y71 (mw_ne w_y71 wx (fun q => by cases q))
  have w_q82 := mw_uu hM1 w_q82 (mw_ne w_q82 wx (fun q => by cases q))
  have w_r82 := mw_uu hM1 w_r82 (mw_ne w_r82 wx (fun q => by cases q))
  have w_y82 := mw_uu hM1 w_y82 (mw_ne w_y82 wx (fun q => by cases q))
  have w_q93 := mw_uu hM1 w_q93 (mw_ne w_q93 wx (fun q => by cases q))
  have w_q104 := mw_uu hM1 w_q104 (mw_ne w_q104 wx (fun q => by cases q))
  have w_l104 := mw_uu hM1 w_l104 (mw_ne w_l104 wx (fun q => by cases q))
  have wx := mw_us hM1
  have hA := mn_uu hM1 hA
  have hF := mw_fu hM1 hF (mn_out (pre := l104 :: (q104 :: (q93 :: (r82 :: (y82 :: (q82 :: (r71 :: (y71 :: (q71 :: (l60 :: (q60 :: (q49 :: (q38 :: (l27 :: (q27 :: (de :: (le :: (t :: ((List.range 12).map (fun j => t + 1 + j) ++ (q16 :: (r5 :: (q5 :: (x :: ([])))))))))))))))))))))))) hA 33 rfl)
  refine lv_aload_n hx hb dd_Xi_init_114 rfl (lv_at hl 0 rfl) ?_
  refine mw_new (C := "IdentityIssuer$Keys") (T := ff_Ky) (N := 5) (ci := 8) (fs := [.int (0), .null, .int (0), .int (0), .int (0)]) hx hb E.t in_Ky tt_Ky ty_Ky E.o (E.t _ tw_Xi_67) (E.t _ tw_inst_Ky) (E.t _ tw_ini_Ky) E.K hM E.zz hS rfl (by decide +kernel) (by decide) (by decide) dd_Xi_init_115 (fun q115 H hq115 hM hS => ?_)
  have hM : mw_at D mg_cl z (va_up M1 q115 (some (.inr (8, [.int (0), .null, .int (0), .int (0), .int (0)])))) H := hM
  obtain ⟨M1, hM1⟩ : ∃ M9 : mw_M, M9 = va_up M1 q115 (some (.inr (8, [.int (0), .null, .int (0), .int (0), .int (0)]))) := ⟨_, rfl⟩
  rw [← hM1] at hM
  have ne_hrow_q115 := fun (j : Nat) (hj : j < 12) => mw_neN (hrow j hj) hq115
  have hrow := fun (j : Nat) (hj : j < 12) => mw_un hM1 hq115 (hrow j hj)
  have wx := mw_un hM1 hq115 wx
  have w_q5 := mw_un hM1 hq115 w_q5
  have w_r5 := mw_un hM1 hq115 w_r5
  have w_q16 := mw_un hM1 hq115 w_q16
  have w_de := mw_un hM1 hq115 w_de
  have w_le := mw_un hM1 hq115 w_le
  have w_t := mw_un hM1 hq115 w_t
  have w_q27 := mw_un hM1 hq115 w_q27
  have w_l27 := mw_un hM1 hq115 w_l27
  have w_q38 := mw_un hM1 hq115 w_q38
  have w_q49 := mw_un hM1 hq115 w_q49
  have w_q60 := mw_un hM1 hq115 w_q60
  have w_l60 := mw_un hM1 hq115 w_l60
  have w_q71 := mw_un hM1 hq115 w_q71
  have w_r71 := mw_un hM1 hq115 w_r71
  have w_y71 := mw_un hM1 hq115 w_y71
  have w_q82 := mw_un hM1 hq115 w_q82
  have w_r82 := mw_un hM1 hq115 w_r82
  have w_y82 := mw_un hM1 hq115 w_y82
  have w_q93 := mw_un hM1 hq115 w_q93
  have w_q104 := mw_un hM1 hq115 w_q104
  have w_l104 := mw_un hM1 hq115 w_l104
  have w_q115 := mw_us hM1
  have hF := mw_fn hM1 hq115 hF
  have hA := mn_nn hM1 hq115 hA
  refine lv_dup hx hb dd_Xi_init_118 rfl ?_
  refine lv_bipush (v := nI 32) hx hb dd_Xi_init_119 (by decide) ?_
  refine lv_sipush (v := nI 256) hx hb dd_Xi_init_121 (by decide) ?_
  refine lv_iload_n hx hb dd_Xi_init_124 rfl (lv_at hl 1 rfl) ?_
  refine va_mmin hx hb (E.ml.trans hl.1.symm) E.o (E.t _ tw_Xi_69) (E.t _ kv_Ma_min) (E.t _ tw_ini_Ma) (E.t _ ky_Ma_min.1) (Nat.le_of_ble_eq_true rfl) (Nat.le_of_ble_eq_true rfl) (by decide) (by decide) dd_Xi_init_125 ?_
  refine va_mmax hx hb (E.ml.trans hl.1.symm) E.o (E.t _ tw_Xi_75) (E.t _ kv_Ma_max) (E.t _ tw_ini_Ma) (E.t _ ky_Ma_max.1) (Nat.le_of_ble_eq_true rfl) (Nat.le_of_ble_eq_true rfl) (by decide) (by decide) dd_Xi_init_128 ?_
  refine mw_I (As := [.int (if (nI 32) < (if life < (nI 256) then life else (nI 256)) then (if life < (nI 256) then life else (nI 256)) else (nI 32))]) (rest := [.ref q115, .ref x]) E (cc_Ky_init l D z (M1) q115 (l104 :: (q104 :: (q93 :: (r82 :: (y82 :: (q82 :: (r71 :: (y71 :: (q71 :: (l60 :: (q60 :: (q49 :: (q38 :: (l27 :: (q27 :: (de :: (le :: (t :: ((List.range 12).map (fun j => t + 1 + j) ++ (q16 :: (r5 :: (q5 :: (x :: (L0)))))))))))))))))))))))) (if (nI 32) < (if life < (nI 256) then life else (nI 256)) then (if life < (nI 256) then life else (nI 256)) else (nI 32)) hA w_q115) ky_Ky_init kv_Ky_init tw_Xi_78 hM hS rfl hl.1 rfl (Nat.le_of_ble_eq_true rfl) dd_Xi_init_131 (by decide) (by decide) (fun v M1 H locs hp hM hS => ?_)
  obtain ⟨rfl, r115, w_q115, w_r115, hA, hF2⟩ := hp
  have hrow := fun (j : Nat) (hj : j < 12) => hF2.at (hrow j hj) (fun h => h (List.mem_cons_of_mem _ (List.mem_cons_of_mem _ (List.mem_cons_of_mem _ (List.mem_cons_of_mem _ (List.mem_cons_of_mem _ (List.mem_cons_of_mem _ (List.mem_cons_of_mem _ (List.mem_cons_of_mem _ (List.mem_cons_of_mem _ (List.mem_cons_of_mem _ (List.mem_cons_of_mem _ (List.mem_cons_of_mem _ (List.mem_cons_of_mem _ (List.mem_cons_of_mem _ (List.mem_cons_of_mem _ (List.mem_cons_of_mem _ (List.mem_cons_of_mem _ (List.mem_cons_of_mem _ (List.mem_append_left _ (List.mem_map.mpr ⟨j, List.mem_range.mpr hj, rfl⟩)))))))))))))))))))))
  have wx := hF2.at wx (mn_in 33 rfl)
  have w_q5 := hF2.at w_q5 (mn_in 32 rfl)
  have w_r5 := hF2.at w_r5 (mn_in 31 rfl)
  have w_q16 := hF2.at w_q16 (mn_in 30 rfl)
  have w_de := hF2.at w_de (mn_in 15 rfl)
  have w_le := hF2.at w_le (mn_in 16 rfl)
  have w_t := hF2.at w_t (mn_in 17 rfl)
  have w_q27 := hF2.at w_q27 (mn_in 14 rfl)
  have w_l27 := hF2.at w_l27 (mn_in 13 rfl)
  have w_q38 := hF2.at w_q38 (mn_in 12 rfl)
  have w_q49 := hF2.at w_q49 (mn_in 11 rfl)
  have w_q60 := hF2.at w_q60 (mn_in 10 rfl)
  have w_l60 := hF2.at w_l60 (mn_in 9 rfl)
  have w_q71 := hF2.at w_q71 (mn_in 8 rfl)
  have w_r71 := hF2.at w_r71 (mn_in 6 rfl)
  have w_y71 := hF2.at w_y71 (mn_in 7 rfl)
  have w_q82 := hF2.at w_q82 (mn_in 5 rfl)
  have w_r82 := hF2.at w_r82 (mn_in 3 rfl)
  have w_y82 := hF2.at w_y82 (mn_in 4 rfl)
  have w_q93 := hF2.at w_q93 (mn_in 2 rfl)
  have w_q104 := hF2.at w_q104 (mn_in 1 rfl)
  have w_l104 := hF2.at w_l104 (mn_in 0 rfl)
  have hF := hF.trans (hF2.mono (mn_suf (pre := l104 :: (q104 :: (q93 :: (r82 :: (y82 :: (q82 :: (r71 :: (y71 :: (q71 :: (l60 :: (q60 :: (q49 :: (q38 :: (l27 :: (q27 :: (de :: (le :: (t :: ((List.range 12).map (fun j => t + 1 + j) ++ (q16 :: (r5 :: (q5 :: (x :: ([]))))))))))))))))))))))))))
  have w_q115 : M1 q115 = some (.inr (8, [.int (if (nI 32) < (if life < (nI 256) then life else (nI 256)) then (if life < (nI 256) then life else (nI 256)) else (nI 32)), .ref r115, .int (nI 1), .int (0), .int (-1)])) := w_q115
  refine pf_Xi_81 E hnm hM hS wx (Nat.le_of_ble_eq_true rfl) dd_Xi_init_134 (fun H locs hM hS => ?_)
  have hM : mw_at D mg_cl z (va_up M1 x (some (.inr (0, [.ref q5, .ref q16, .ref q115, .ref q27, .ref q38, .ref q49, .ref q60, .ref q71, .ref q82, .int (0), .int (0), .int (0), .ref q93, .ref q104])))) H := hM
  obtain ⟨M1, hM1⟩ : ∃ M9 : mw_M, M9 = va_up M1 x (some (.inr (0, [.ref q5, .ref q16, .ref q115, .ref q27, .ref q38, .ref q49, .ref q60, .ref q71, .ref q82, .int (0), .int (0), .int (0), .ref q93, .ref q104]))) := ⟨_, rfl⟩
  rw [← hM1] at hM
  have hrow := fun (j : Nat) (hj : j < 12) => mw_uu hM1 (hrow j hj) (mw_ne (hrow j hj) wx (fun q => by cases q))
  have w_q5 := mw_uu hM1 w_q5 (mw_ne w_q5 wx (fun q => by cases q))
  have w_r5 := mw_uu hM1 w_r5 (mw_ne w_r5 wx (fun q => by cases q))
  have w_q16 := mw_uu hM1 w_q16 (mw_ne w_q16 wx (fun q => by cases q))
  have w_de := mw_uu hM1 w_de (mw_ne w_de wx (fun q => by cases q))
  have w_le := mw_uu hM1 w_le (mw_ne w_le wx (fun q => by cases q))
  have w_t := mw_uu hM1 w_t (mw_ne w_t wx (fun q => by cases q))
  have w_q27 := mw_uu hM1 w_q27 (mw_ne w_q27 wx (fun q => by cases q))
  have w_l27 := mw_uu hM1 w_l27 (mw_ne w_l27 wx (fun q => by cases q))
  have w_q38 := mw_uu hM1 w_q38 (mw_ne w_q38 wx (fun q => by cases q))
  have w_q49 := mw_uu hM1 w_q49 (mw_ne w_q49 wx (fun q => by cases q))
  have w_q60 := mw_uu hM1 w_q60 (mw_ne w_q60 wx (fun q => by cases q))
  have w_l60 := mw_uu hM1 w_l60 (mw_ne w_l60 wx (fun q => by cases q))
  have w_q71 := mw_uu hM1 w_q71 (mw_ne w_q71 wx (fun q => by cases q))
  have w_r71 := mw_uu hM1 w_r71 (mw_ne w_r71 wx (fun q => by cases q))
  have w_y71 := mw_uu hM1 w_y71 (mw_ne w_y71 wx (fun q => by cases q))
  have w_q82 := mw_uu hM1 w_q82 (mw_ne w_q82 wx (fun q => by cases q))
  have w_r82 := mw_uu hM1 w_r82 (mw_ne w_r82 wx (fun q => by cases q))
  have w_y82 := mw_uu hM1 w_y82 (mw_ne w_y82 wx (fun q => by cases q))
  have w_q93 := mw_uu hM1 w_q93 (mw_ne w_q93 wx (fun q => by cases q))
  have w_q104 := mw_uu hM1 w_q104 (mw_ne w_q104 wx (fun q => by cases q))
  have w_l104 := mw_uu hM1 w_l104 (mw_ne w_l104 wx (fun q => by cases q))
  have w_q115 := mw_uu hM1 w_q115 (mw_ne w_q115 wx (fun q => by cases q))
  have w_r115 := mw_uu hM1 w_r115 (mw_ne w_r115 wx (fun q => by cases q))
  have wx := mw_us hM1
  have hA := mn_uu hM1 hA
  have hF := mw_fu hM1 hF (mn_out (pre := r115 :: (q115 :: (l104 :: (q104 :: (q93 :: (r82 :: (y82 :: (q82 :: (r71 :: (y71 :: (q71 :: (l60 :: (q60 :: (q49 :: (q38 :: (l27 :: (q27 :: (de :: (le :: (t :: ((List.range 12).map (fun j => t + 1 + j) ++ (q16 :: (r5 :: (q5 :: (x :: ([])))))))))))))))))))))))))) hA 35 rfl)
  refine mr_v E hr hk hM hS (by decide) (by decide) ?_ dd_Xi_init_137
  exact ⟨rfl, r115, q115, l104, q104, q93, r82, y82, q82, r71, y71, q71, l60, q60, q49, q38, l27, q27, de, le, t, q16, r5, q5, wx, w_r115, w_q115, w_l104, w_q104, w_q93, w_r82, w_y82, w_q82, w_r71, w_y71, w_q71, w_l60, w_q60, w_q49, w_q38, w_l27, w_q27, w_de, w_le, w_t, w_q16, w_r5, w_q5, hrow, hA, hF⟩
