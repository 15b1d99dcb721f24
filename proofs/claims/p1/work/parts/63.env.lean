set_option maxRecDepth 100000 in
theorem le_fN : ∀ q ∈ lw_fN, Cond.fieldLinkNest q.1 q.2.1 q.2.2.1 q.2.2.2.1 q.2.2.2.2.1 q.2.2.2.2.2 ∈ lw_tbl := by decide +kernel
set_option maxRecDepth 100000 in
theorem le_mN : ∀ q ∈ lw_mN, Cond.methodLinkNest q.1 q.2.1 q.2.2.1 q.2.2.2 ∈ lw_tbl := by decide +kernel
set_option maxRecDepth 100000 in
theorem le_cN : ∀ q ∈ lw_cN, Cond.castable q.1 q.2 ∈ lw_tbl := by decide +kernel
theorem va_any9 {s : State} {A : Array Value} (h : (Cond.arrayOver (.array .int)).before A s = true) : (Cond.arrayOver (.array .int)).before #[] s = true := h
/-! what the law's start gives: class numbers, array classes, statics -/
theorem le_arr {s : State} {args : Array Value} {ty : FieldType} (h : (Cond.arrayClass ty).before args s = true) : ∃ cA : ClassId, ArrOfT s cA ty ∧ s.vm.findClass ("[" ++ ty.toString) = some cA := by
  obtain ⟨cA, kA, c2, h1, h2, h3⟩ := Cond.arrayClass_spec h
  exact ⟨cA, fun N z => ⟨(fun k h => by cases h), kA, h2, c2, h3⟩, h1⟩
theorem le_obj {s : State} {args : Array Value} {C : String} (h : (Cond.arrayOver (.object C)).before args s = true) : ∃ cA : ClassId, ArrOfT s cA (.object C) ∧ va_RA s cA (.object C) := by
  obtain ⟨comp, c, k, h1, -, h3, h4, h5⟩ := Cond.arrayOver_spec h
  exact ⟨c, fun N z => ⟨(fun k h => by cases h), k, h3, comp, h4⟩, k, comp, h3, h4, h1, h5⟩
theorem le_ints {s : State} {args : Array Value} (h : (Cond.arrayOver (.array .int)).before args s = true) : ∃ cA : ClassId, ArrOfT s cA (.array .int) ∧ va_RA s cA (.array .int) := by
  obtain ⟨comp, c, k, h1, -, h3, h4, h5⟩ := arrayOverA_spec h
  exact ⟨c, fun N z => ⟨(fun k h => by cases h), k, h3, comp, h4⟩, h5⟩
set_option maxRecDepth 100000 in
set_option maxHeartbeats 4000000 in
theorem le_D {s : State} {b : Nat} (hts : ∀ w ∈ lw_tbl, w.before #[Value.ref b] s = true) (hgv : (Jvm.Cond.and given_1 narrow_1).before #[Value.ref b] s = true) : ∃ D : va_G, va_K D mg_cl (mg_ty D) s ∧ mg_Z D s.heap.size s s.heap ∧ mg_N D s := by
  have hs := flat_of_before _ hgv
  have hA : ∀ a : Nat, a < s.heap.size → ¬ mw_A s.heap.size a := fun a h q => Nat.not_le.mpr h q
  have hgt : ∀ w ∈ lw_gt, w.before #[Value.ref b] s = true := fun w hw => hts w (List.mem_filter.mp hw).1
  obtain ⟨c0, i0, k0⟩ := u_known (T := ff_Xi) (N := 14) hgt in_Xi (hgt _ tw_inst_Xi)
  obtain ⟨c1, i1, k1⟩ := u_known (T := ff_By) (N := 2) hgt in_By (hgt _ tw_inst_By)
  obtain ⟨c2, i2, k2⟩ := u_known (T := ff_Id) (N := 4) hgt in_Id (hgt _ tw_inst_Id)
  obtain ⟨c3, i3, k3⟩ := u_known (T := ff_Es) (N := 2) hgt in_Es (hgt _ tw_inst_Es)
  obtain ⟨c4, i4, k4⟩ := u_known (T := ff_AL) (N := 3) hgt in_AL (hgt _ tw_inst_AL)
  obtain ⟨c5, i5, k5⟩ := u_known (T := ff_Rs) (N := 4) hgt in_Rs (hgt _ tw_inst_Rs)
  obtain ⟨c6, i6, k6⟩ := u_known (T := ff_Rd) (N := 9) hgt in_Rd (hgt _ tw_inst_Rd)
  obtain ⟨c7, i7, k7⟩ := u_known (T := ff_Wr) (N := 2) hgt in_Wr (hgt _ tw_inst_Wr)
  obtain ⟨c8, i8, k8⟩ := u_known (T := ff_Ky) (N := 5) hgt in_Ky (hgt _ tw_inst_Ky)
  obtain ⟨c9, i9, k9⟩ := u_known (T := ff_En) (N := 6) hgt in_En (hgt _ tw_inst_En)
  obtain ⟨c10, i10, k10⟩ := u_known (T := ff_Ag) (N := 6) hgt in_Ag (hgt _ tw_inst_Ag)
  obtain ⟨c11, i11, k11⟩ := u_known (T := ff_Ce) (N := 5) hgt in_Ce (hgt _ tw_inst_Ce)
  obtain ⟨c12, i12, k12⟩ := u_known (T := ff_Wa) (N := 4) hgt in_Wa (hgt _ tw_inst_Wa)
  obtain ⟨c13, i13, k13⟩ := u_known (T := ff_Mo) (N := 52) hgt in_Mo (hgt _ tw_inst_Mo)
  obtain ⟨cI, acI, fcI⟩ := le_arr (ty := .int) (hgt _ tw_ac_int)
  obtain ⟨cL, acL, fcL⟩ := le_arr (ty := .long) (hgt _ tw_ac_long)
  obtain ⟨cZ, acZ, fcZ⟩ := le_arr (ty := .boolean) (hgt _ tw_ac_boolean)
  have wO := (hts ((Jvm.Cond.arrayOver (Jvm.ClassFile.FieldType.object "java/lang/Object"))) (List.mem_of_getElem? (i := 536) (by decide +kernel)))
  obtain ⟨cO, aO, rO⟩ := le_obj (C := "java/lang/Object") wO
  have wA := (hts ((Jvm.Cond.arrayOver (Jvm.ClassFile.FieldType.array Jvm.ClassFile.FieldType.int))) (List.mem_of_getElem? (i := 103) (by decide +kernel)))
  obtain ⟨cA, aA, rA⟩ := le_ints wA
  obtain ⟨t0, ht0, hT0⟩ := va_Tof (tm := (Term.static "java/util/ArrayList" "DEFAULTCAPACITY_EMPTY_ELEMENTDATA" "[Ljava/lang/Object;")) (ty := .object "java/lang/Object") (N := 0) (f := (fun _ => .null)) (A := mw_A s.heap.size) (by decide) (hs _ (by decide +kernel)) (va_eqt (hs (.eq (.length (Term.static "java/util/ArrayList" "DEFAULTCAPACITY_EMPTY_ELEMENTDATA" "[Ljava/lang/Object;")) (.int 0)) (by decide +kernel))) (fun j hj => absurd hj (Nat.not_lt_zero _)) hA
  have hZ0 := va_Zref (A := mw_A s.heap.size) (hts ((Jvm.Cond.laysStatic "java/util/ArrayList" "DEFAULTCAPACITY_EMPTY_ELEMENTDATA" "[Ljava/lang/Object;")) (List.mem_of_getElem? (i := 136) (by decide +kernel))) (hts ((Jvm.Cond.initialized "java/util/ArrayList")) (List.mem_of_getElem? (i := 55) (by decide +kernel))) ht0 hA
  have e1_0 := va_eqt (hs (.eq (.elem (Term.static "IdentityIssuer" "BODY_TAIL" "[I") (.int 0)) (.int 3)) (by decide +kernel))
  have e1_1 := va_eqt (hs (.eq (.elem (Term.static "IdentityIssuer" "BODY_TAIL" "[I") (.int 1)) (.int 2)) (by decide +kernel))
  have e1_2 := va_eqt (hs (.eq (.elem (Term.static "IdentityIssuer" "BODY_TAIL" "[I") (.int 2)) (.int 7)) (by decide +kernel))
  have e1_3 := va_eqt (hs (.eq (.elem (Term.static "IdentityIssuer" "BODY_TAIL" "[I") (.int 3)) (.int 128)) (by decide +kernel))
  obtain ⟨t1, ht1, hT1⟩ := va_Tof (tm := (Term.static "IdentityIssuer" "BODY_TAIL" "[I")) (ty := .int) (N := 4) (f := (fun j => .int (([3, 2, 7, 128] : List Int32).getD j 0))) (A := mw_A s.heap.size) (by decide) (hs _ (by decide +kernel)) (va_eqt (hs (.eq (.length (Term.static "IdentityIssuer" "BODY_TAIL" "[I")) (.int 4)) (by decide +kernel))) (fun j hj => by rcases (show j = 0 ∨ j = 1 ∨ j = 2 ∨ j = 3 by omega) with rfl | rfl | rfl | rfl <;> first | exact e1_0 | exact e1_1 | exact e1_2 | exact e1_3) hA
  have hZ1 := va_Zref (A := mw_A s.heap.size) (hts ((Jvm.Cond.laysStatic "IdentityIssuer" "BODY_TAIL" "[I")) (List.mem_of_getElem? (i := 876) (by decide +kernel))) (hts ((Jvm.Cond.initialized "IdentityIssuer")) (List.mem_of_getElem? (i := 49) (by decide +kernel))) ht1 hA
  have e2_0 := va_eqt (hs (.eq (.elem (Term.static "IdentityIssuer$Keys" "SECRETS" "[I") (.int 0)) (.int 278664713)) (by decide +kernel))
  have e2_1 := va_eqt (hs (.eq (.elem (Term.static "IdentityIssuer$Keys" "SECRETS" "[I") (.int 1)) (.int 526488929)) (by decide +kernel))
  have e2_2 := va_eqt (hs (.eq (.elem (Term.static "IdentityIssuer$Keys" "SECRETS" "[I") (.int 2)) (.int 399288977)) (by decide +kernel))
  have e2_3 := va_eqt (hs (.eq (.elem (Term.static "IdentityIssuer$Keys" "SECRETS" "[I") (.int 3)) (.int 940729625)) (by decide +kernel))
  obtain ⟨t2, ht2, hT2⟩ := va_Tof (tm := (Term.static "IdentityIssuer$Keys" "SECRETS" "[I")) (ty := .int) (N := 4) (f := (fun j => .int (([278664713, 526488929, 399288977, 940729625] : List Int32).getD j 0))) (A := mw_A s.heap.size) (by decide) (hs _ (by decide +kernel)) (va_eqt (hs (.eq (.length (Term.static "IdentityIssuer$Keys" "SECRETS" "[I")) (.int 4)) (by decide +kernel))) (fun j hj => by rcases (show j = 0 ∨ j = 1 ∨ j = 2 ∨ j = 3 by omega) with rfl | rfl | rfl | rfl <;> first | exact e2_0 | exact e2_1 | exact e2_2 | exact e2_3) hA
  have hZ2 := va_Zref (A := mw_A s.heap.size) (hts ((Jvm.Cond.laysStatic "IdentityIssuer$Keys" "SECRETS" "[I")) (List.mem_of_getElem? (i := 893) (by decide +kernel))) (hts ((Jvm.Cond.initialized "IdentityIssuer$Keys")) (List.mem_of_getElem? (i := 59) (by decide +kernel))) ht2 hA
  have e3_0 := va_eqtl (hs (.eq (.elem (Term.static "IdentityIssuer$Keys" "MODULI" "[J") (.int 0)) (.long 1071514531)) (by decide +kernel))
  have e3_1 := va_eqtl (hs (.eq (.elem (Term.static "IdentityIssuer$Keys" "MODULI" "[J") (.int 1)) (.long 1070271221)) (by decide +kernel))
  have e3_2 := va_eqtl (hs (.eq (.elem (Term.static "IdentityIssuer$Keys" "MODULI" "[J") (.int 2)) (.long 1069289951)) (by decide +kernel))
  have e3_3 := va_eqtl (hs (.eq (.elem (Term.static "IdentityIssuer$Keys" "MODULI" "[J") (.int 3)) (.long 1067328611)) (by decide +kernel))
  obtain ⟨t3, ht3, hT3⟩ := va_Tof (tm := (Term.static "IdentityIssuer$Keys" "MODULI" "[J")) (ty := .long) (N := 4) (f := (fun j => .long (([1071514531, 1070271221, 1069289951, 1067328611] : List Int64).getD j 0))) (A := mw_A s.heap.size) (by decide) (hs _ (by decide +kernel)) (va_eqt (hs (.eq (.length (Term.static "IdentityIssuer$Keys" "MODULI" "[J")) (.int 4)) (by decide +kernel))) (fun j hj => by rcases (show j = 0 ∨ j = 1 ∨ j = 2 ∨ j = 3 by omega) with rfl | rfl | rfl | rfl <;> first | exact e3_0 | exact e3_1 | exact e3_2 | exact e3_3) hA
  have hZ3 := va_Zref (A := mw_A s.heap.size) (hts ((Jvm.Cond.laysStatic "IdentityIssuer$Keys" "MODULI" "[J")) (List.mem_of_getElem? (i := 898) (by decide +kernel))) (hts ((Jvm.Cond.initialized "IdentityIssuer$Keys")) (List.mem_of_getElem? (i := 59) (by decide +kernel))) ht3 hA
  have hZC := va_Zof (A := mw_A s.heap.size) (hts ((Jvm.Cond.laysStatic "java/lang/String" "COMPACT_STRINGS" "Z")) (List.mem_of_getElem? (i := 346) (by decide +kernel))) (hts ((Jvm.Cond.initialized "java/lang/String")) (List.mem_of_getElem? (i := 62) (by decide +kernel))) (va_eqi (hs (.eq (.static "java/lang/String" "COMPACT_STRINGS" "Z") (.int 1)) (by decide +kernel))) hA
  have hZQ := va_Zqof (A := mw_A s.heap.size) (hts ((Jvm.Cond.laysStatic "jdk/internal/util/Preconditions" "SIOOBE_FORMATTER" "Ljava/util/function/BiFunction;")) (List.mem_of_getElem? (i := 366) (by decide +kernel))) (hts ((Jvm.Cond.initialized "jdk/internal/util/Preconditions")) (List.mem_of_getElem? (i := 64) (by decide +kernel))) (hs (.isRef (.static "jdk/internal/util/Preconditions" "SIOOBE_FORMATTER" "Ljava/util/function/BiFunction;")) (by decide +kernel)) hA
  have es_0 := hs (.eq (.elem (.field (Term.string "IdentityIssuer$Ids" 27) "java/lang/String" "value" "[B") (.int 0)) (.int 115)) (by decide +kernel)
  have es_1 := hs (.eq (.elem (.field (Term.string "IdentityIssuer$Ids" 27) "java/lang/String" "value" "[B") (.int 1)) (.int 112)) (by decide +kernel)
  have es_2 := hs (.eq (.elem (.field (Term.string "IdentityIssuer$Ids" 27) "java/lang/String" "value" "[B") (.int 2)) (.int 105)) (by decide +kernel)
  have es_3 := hs (.eq (.elem (.field (Term.string "IdentityIssuer$Ids" 27) "java/lang/String" "value" "[B") (.int 3)) (.int 102)) (by decide +kernel)
  have es_4 := hs (.eq (.elem (.field (Term.string "IdentityIssuer$Ids" 27) "java/lang/String" "value" "[B") (.int 4)) (.int 102)) (by decide +kernel)
  have es_5 := hs (.eq (.elem (.field (Term.string "IdentityIssuer$Ids" 27) "java/lang/String" "value" "[B") (.int 5)) (.int 101)) (by decide +kernel)
  have es_6 := hs (.eq (.elem (.field (Term.string "IdentityIssuer$Ids" 27) "java/lang/String" "value" "[B") (.int 6)) (.int 58)) (by decide +kernel)
  have es_7 := hs (.eq (.elem (.field (Term.string "IdentityIssuer$Ids" 27) "java/lang/String" "value" "[B") (.int 7)) (.int 47)) (by decide +kernel)
  have es_8 := hs (.eq (.elem (.field (Term.string "IdentityIssuer$Ids" 27) "java/lang/String" "value" "[B") (.int 8)) (.int 47)) (by decide +kernel)
  obtain ⟨adK, adV, hSS, hSt⟩ := vk_Sof (N := 1) (tm := fun _ => (Term.string "IdentityIssuer$Ids" 27)) (len := [9]) (byt := [[115, 112, 105, 102, 102, 101, 58, 47, 47]]) (A := mw_A s.heap.size) (fun i hi => by rcases (show i = 0 by omega) with rfl; decide) (fun i _ => hs _ (by decide +kernel)) (fun i _ => hs _ (by decide +kernel)) (fun i _ => hs _ (by decide +kernel)) (fun i hi => by rcases (show i = 0 by omega) with rfl; exact hs _ (by decide +kernel))
    (fun i hi j hj => by
      rcases (show i = 0 by omega) with rfl
      have hj : j < 9 := hj
      rcases (show j = 0 ∨ j = 1 ∨ j = 2 ∨ j = 3 ∨ j = 4 ∨ j = 5 ∨ j = 6 ∨ j = 7 ∨ j = 8 by omega) with rfl | rfl | rfl | rfl | rfl | rfl | rfl | rfl | rfl <;> first | exact es_0 | exact es_1 | exact es_2 | exact es_3 | exact es_4 | exact es_5 | exact es_6 | exact es_7 | exact es_8) (fun i j hi hj hij => absurd (show i = j by omega) hij) hA
  obtain ⟨mi, hMi⟩ := va_Mi.of (hs (.isRef (.mirror "[Ljava/lang/Object;")) (by decide +kernel))
  have hDc := va_Dc.of (hts ((Jvm.Cond.declares ({ cls := "java/lang/Object", name := "getClass", desc := "()Ljava/lang/Class;" } : Jvm.MethodName))) (List.mem_of_getElem? (i := 1359) (by decide +kernel)))
  have hR := vk_R.of (a := adK 0) (hts ((Jvm.Cond.stringRef "IdentityIssuer$Ids" (27 : Nat) "spiffe://")) (List.mem_of_getElem? (i := 336) (by decide +kernel))) (hSt 0 (by decide))
  refine ⟨(fun k => match k with | 0 => c0 | 1 => c1 | 2 => c2 | 3 => c3 | 4 => c4 | 5 => c5 | 6 => c6 | 7 => c7 | 8 => c8 | 9 => c9 | 10 => c10 | 11 => c11 | 12 => c12 | 13 => c13 | 100 => cI | 101 => cL | 102 => cZ | 103 => cO | 104 => cA | _ => 0, fun k => match k with | 0 => i0 | 1 => i1 | 2 => i2 | 3 => i3 | 4 => i4 | 5 => i5 | 6 => i6 | 7 => i7 | 8 => i8 | 9 => i9 | 10 => i10 | 11 => i11 | 12 => i12 | 13 => i13 | 200 => (fun j => match j with | 0 => t0 | 1 => t1 | 2 => t2 | 3 => t3 | 4 => adK 0 | 5 => adV 0 | _ => mi) | _ => fun _ => 0), ⟨?_, ?_⟩, ?_, ?_⟩
  · intro c q hq
    have hc : c < 14 := (List.getElem?_eq_some_iff.mp hq).1
    rcases (show c = 0 ∨ c = 1 ∨ c = 2 ∨ c = 3 ∨ c = 4 ∨ c = 5 ∨ c = 6 ∨ c = 7 ∨ c = 8 ∨ c = 9 ∨ c = 10 ∨ c = 11 ∨ c = 12 ∨ c = 13 by omega) with rfl | rfl | rfl | rfl | rfl | rfl | rfl | rfl | rfl | rfl | rfl | rfl | rfl | rfl
    · cases hq
      exact k0
    · cases hq
      exact k1
    · cases hq
      exact k2
    · cases hq
      exact k3
    · cases hq
      exact k4
    · cases hq
      exact k5
    · cases hq
      exact k6
    · cases hq
      exact k7
    · cases hq
      exact k8
    · cases hq
      exact k9
    · cases hq
      exact k10
    · cases hq
      exact k11
    · cases hq
      exact k12
    · cases hq
      exact k13
  · intro k q hq
    have hk : k < 5 := (List.getElem?_eq_some_iff.mp hq).1
    rcases (show k = 0 ∨ k = 1 ∨ k = 2 ∨ k = 3 ∨ k = 4 by omega) with rfl | rfl | rfl | rfl | rfl
    · cases hq
      exact ⟨acI, fcI⟩
    · cases hq
      exact ⟨acL, fcL⟩
    · cases hq
      exact ⟨acZ, fcZ⟩
    · cases hq
      exact ⟨aO, rO⟩
    · cases hq
      exact ⟨aA, rA⟩
  · exact ⟨⟨hZ0, hT0⟩, ⟨hZ1, hT1⟩, ⟨hZ2, hT2⟩, ⟨hZ3, hT3⟩, hZC, hZQ, by
      refine ⟨fun i hi => ?_, fun i j _ _ _ => by omega⟩
      rcases (show i = 0 by omega) with rfl
      exact hSS.1 0 (by decide)⟩
  · refine ⟨fun q hq => va_Nw.of rfl (hts _ ?_), fun q hq => va_Nw.of rfl (hts _ ?_), fun q hq => va_Nw.of rfl (hts _ ?_), va_AO.of wO, va_any9 wA, hR, hMi, hDc⟩
    · exact le_fN q hq
    · exact le_mN q hq
    · exact le_cN q hq
