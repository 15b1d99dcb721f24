/-! the class: writing a certificate -/
set_option maxHeartbeats 4000000 in
set_option maxRecDepth 100000 in
theorem cc_Wr_writeBody (l : Launch) (D : va_G) (z : Nat) (M : mw_M) (wt y r cc en q1 q2 q3 q4 i0 t le de ic xi : Nat) (ws e_n e_p e_s e_t e_f : Int32) (Ln Dn : Nat → Nat) (G : Nat → Nat → Nat) (ww : M wt = some (.inr (7, [.ref y, .int (ws)]))) (hbw : bw_at D M y r [48, 0]) (wc : M cc = some (.inr (11, [.ref en, .int (nI q1), .int (nI q2), .int (nI q3), .int (nI q4)]))) (wn : M en = some (.inr (9, [.int (e_n), .int (nI i0), .int (e_p), .int (e_s), .int (e_t), .int (e_f)]))) (hI : id_at D M xi t le de ic Ln Dn G) (hO : id_ok ic Ln Dn G) (hi0 : i0 < ic) (hqb : q1 < 2 ^ 31 ∧ q2 < 2 ^ 31 ∧ q3 < 2 ^ 31 ∧ q4 < 2 ^ 31) (hrb : ∀ j : Nat, j < 12 → t + 1 + j ≠ r) (hlr : le ≠ r) (hdr : de ≠ r) : mw_C l yy_Wr_writeBody bb_Wr_writeBody 4 (Option.none : Option Jvm.ClassFile.FieldType) 2 44 0 0 D z M [.ref wt, .ref cc, .ref xi] (fun v M' => v = none ∧ bw_at D M' y r (ec_1 q1 q2 q3 q4 (id_tx Ln G i0)) ∧ mw_fr (fun q => q = y ∨ q = r) M M') := by
  refine mw_of (by decide) (Nat.le_of_ble_eq_true rfl) ?_
  intro p e s m below meth c ls E hr hk hnm hM hl
  have hx := E.x
  have hb := E.b
  have E : mw_E p m c bb_Wr_writeBody 4 s _ D z "IdentityIssuer$Writer" := E
  have hl : lv_has ls 4 [(0, .ref wt), (1, .ref cc), (2, .ref xi)] := hl
  have hS : va_S (mw_A z) s.heap s.heap [] := va_S.rf
  have hF : mw_fr (fun q => q = y ∨ q = r) M M := mw_fr.rf
  obtain ⟨f9, wy, -⟩ := id hbw
  have hic := hO.1
  obtain ⟨o1, o2, o3, o4, o5⟩ := hO.2 i0 hi0
  obtain ⟨o9, fl9, fd9, T9, wd9, wt9, -, wl9, we9, hrow9, -⟩ := id hI
  obtain ⟨K0, hK0⟩ : ∃ L9 : List Nat, L9 = [48, 0] := ⟨_, rfl⟩
  have hnK0 : K0.length = 2 := by rw [hK0]; rfl
  rw [← hK0] at hbw
  refine lv_aload_n hx hb dd_Wr_writeBody_0 rfl (lv_at hl 0 rfl) ?_
  refine gf_Wr_12 E hM ww rfl dd_Wr_writeBody_1 ?_
  refine lv_bipush (v := nI 48) hx hb dd_Wr_writeBody_4 (by decide) ?_
  refine mw_V (As := [.int (nI 48)]) (rest := []) E (bw_app (c := 48) l D z (M) hbw (by omega)) ky_By_append kv_By_append tw_Wr_30 hM hS wy rfl rfl rfl hl.1 rfl (Nat.le_of_ble_eq_true rfl) dd_Wr_writeBody_6 (by first | decide | exact ⟨by dsimp only; omega, by dsimp only; omega⟩) (by decide) (fun v M1 H locs hp hM hS => ?_)
  obtain ⟨rfl, hbw2, hF2⟩ := hp
  have hbo := hbw
  obtain ⟨f8, wy8, wr8, -⟩ := id hbo
  have hI := hI.fr hF2 (hbo.ne wd9 (by decide)) (fun q => q.elim (mw_ne wt9 wy8 (fun q => by cases q)) (mw_neQ wt9 wr8)) (fun q => q.elim (mw_ne wl9 wy8 (fun q => by cases q)) hlr) (fun q => q.elim (mw_ne we9 wy8 (fun q => by cases q)) hdr) (fun j hj q => q.elim (mw_ne (hrow9 j hj) wy8 (fun q => by cases q)) (hrb j hj))
  obtain ⟨o9, fl9, fd9, T9, wd9, wt9, -, wl9, we9, hrow9, -⟩ := id hI
  have ww := hF2.at ww (hbo.ne ww (by decide))
  have wc := hF2.at wc (hbo.ne wc (by decide))
  have wn := hF2.at wn (hbo.ne wn (by decide))
  obtain ⟨K1, hK1⟩ : ∃ L9 : List Nat, L9 = K0 ++ [48] := ⟨_, rfl⟩
  have hnK1 : K1.length = K0.length + 1 := by rw [hK1]; rw [List.length_append]; rfl
  have hbw := hbw2
  rw [← hK1] at hbw
  obtain ⟨f9, wy, -⟩ := id hbw
  have hF := hF.trans hF2
  refine W.eq (g2 := F0 m 9 ls []) rfl ?_
  refine lv_aload_n hx hb dd_Wr_writeBody_9 rfl (lv_at hl 0 rfl) ?_
  refine gf_Wr_12 E hM ww rfl dd_Wr_writeBody_10 ?_
  refine lv_iconst (v := nI 0) hx hb dd_Wr_writeBody_13 (by decide) ?_
  refine mw_V (As := [.int (nI 0)]) (rest := []) E (bw_app (c := 0) l D z (M1) hbw (by omega)) ky_By_append kv_By_append tw_Wr_30 hM hS wy rfl rfl rfl hl.1 rfl (Nat.le_of_ble_eq_true rfl) dd_Wr_writeBody_14 (by first | decide | exact ⟨by dsimp only; omega, by dsimp only; omega⟩) (by decide) (fun v M1 H locs hp hM hS => ?_)
  obtain ⟨rfl, hbw2, hF2⟩ := hp
  have hbo := hbw
  obtain ⟨f8, wy8, wr8, -⟩ := id hbo
  have hI := hI.fr hF2 (hbo.ne wd9 (by decide)) (fun q => q.elim (mw_ne wt9 wy8 (fun q => by cases q)) (mw_neQ wt9 wr8)) (fun q => q.elim (mw_ne wl9 wy8 (fun q => by cases q)) hlr) (fun q => q.elim (mw_ne we9 wy8 (fun q => by cases q)) hdr) (fun j hj q => q.elim (mw_ne (hrow9 j hj) wy8 (fun q => by cases q)) (hrb j hj))
  obtain ⟨o9, fl9, fd9, T9, wd9, wt9, -, wl9, we9, hrow9, -⟩ := id hI
  have ww := hF2.at ww (hbo.ne ww (by decide))
  have wc := hF2.at wc (hbo.ne wc (by decide))
  have wn := hF2.at wn (hbo.ne wn (by decide))
  obtain ⟨K2, hK2⟩ : ∃ L9 : List Nat, L9 = K1 ++ [0] := ⟨_, rfl⟩
  have hnK2 : K2.length = K1.length + 1 := by rw [hK2]; rw [List.length_append]; rfl
  have hbw := hbw2
  rw [← hK2] at hbw
  obtain ⟨f9, wy, -⟩ := id hbw
  have hF := hF.trans hF2
  refine W.eq (g2 := F0 m 17 ls []) rfl ?_
  refine lv_aload_n hx hb dd_Wr_writeBody_17 rfl (lv_at hl 0 rfl) ?_
  refine lv_aload_n hx hb dd_Wr_writeBody_18 rfl (lv_at hl 1 rfl) ?_
  refine gf_Wr_18 E hM wc rfl dd_Wr_writeBody_19 ?_
  refine mw_V (As := [.int (nI q1)]) (rest := []) E (cc_Wr_writeNumber l D z (M1) wt y r q1 ws K2 ww hbw (by omega) hqb.1) ky_Wr_writeNumber kv_Wr_writeNumber tw_Wr_54 hM hS ww rfl rfl rfl hl.1 rfl (Nat.le_of_ble_eq_true rfl) dd_Wr_writeBody_22 (by first | decide | exact ⟨by dsimp only; omega, by dsimp only; omega⟩) (by decide) (fun v M1 H locs hp hM hS => ?_)
  obtain ⟨rfl, hbw2, hF2⟩ := hp
  have hnl := nm_l_len q1
  have hbo := hbw
  obtain ⟨f8, wy8, wr8, -⟩ := id hbo
  have hI := hI.fr hF2 (hbo.ne wd9 (by decide)) (fun q => q.elim (mw_ne wt9 wy8 (fun q => by cases q)) (mw_neQ wt9 wr8)) (fun q => q.elim (mw_ne wl9 wy8 (fun q => by cases q)) hlr) (fun q => q.elim (mw_ne we9 wy8 (fun q => by cases q)) hdr) (fun j hj q => q.elim (mw_ne (hrow9 j hj) wy8 (fun q => by cases q)) (hrb j hj))
  obtain ⟨o9, fl9, fd9, T9, wd9, wt9, -, wl9, we9, hrow9, -⟩ := id hI
  have ww := hF2.at ww (hbo.ne ww (by decide))
  have wc := hF2.at wc (hbo.ne wc (by decide))
  have wn := hF2.at wn (hbo.ne wn (by decide))
  obtain ⟨K3, hK3⟩ : ∃ L9 : List Nat, L9 = K2 ++ nm_l q1 := ⟨_, rfl⟩
  have hnK3 : K3.length = K2.length + (nm_l q1).length := by rw [hK3]; rw [List.length_append]
  have hbw := hbw2
  rw [← hK3] at hbw
  obtain ⟨f9, wy, -⟩ := id hbw
  have hF := hF.trans hF2
  refine W.eq (g2 := F0 m 25 ls []) rfl ?_
  refine lv_aload_n hx hb dd_Wr_writeBody_25 rfl (lv_at hl 0 rfl) ?_
  refine lv_aload_n hx hb dd_Wr_writeBody_26 rfl (lv_at hl 1 rfl) ?_
  refine gf_Wr_46 E hM wc rfl dd_Wr_writeBody_27 ?_
  refine mw_V (As := [.int (nI q2)]) (rest := []) E (cc_Wr_writeNumber l D z (M1) wt y r q2 ws K3 ww hbw (by omega) hqb.2.1) ky_Wr_writeNumber kv_Wr_writeNumber tw_Wr_54 hM hS ww rfl rfl rfl hl.1 rfl (Nat.le_of_ble_eq_true rfl) dd_Wr_writeBody_30 (by first | decide | exact ⟨by dsimp only; omega, by dsimp only; omega⟩) (by decide) (fun v M1 H locs hp hM hS => ?_)
  obtain ⟨rfl, hbw2, hF2⟩ := hp
  have hnl := nm_l_len q2
  have hbo := hbw
  obtain ⟨f8, wy8, wr8, -⟩ := id hbo
  have hI := hI.fr hF2 (hbo.ne wd9 (by decide)) (fun q => q.elim (mw_ne wt9 wy8 (fun q => by cases q)) (mw_neQ wt9 wr8)) (fun q => q.elim (mw_ne wl9 wy8 (fun q => by cases q)) hlr) (fun q => q.elim (mw_ne we9 wy8 (fun q => by cases q)) hdr) (fun j hj q => q.elim (mw_ne (hrow9 j hj) wy8 (fun q => by cases q)) (hrb j hj))
  obtain ⟨o9, fl9, fd9, T9, wd9, wt9, -, wl9, we9, hrow9, -⟩ := id hI
  have ww := hF2.at ww (hbo.ne ww (by decide))
  have wc := hF2.at wc (hbo.ne wc (by decide))
  have wn := hF2.at wn (hbo.ne wn (by decide))
  obtain ⟨K4, hK4⟩ : ∃ L9 : List Nat, L9 = K3 ++ nm_l q2 := ⟨_, rfl⟩
  have hnK4 : K4.length = K3.length + (nm_l q2).length := by rw [hK4]; rw [List.length_append]
  have hbw := hbw2
  rw [← hK4] at hbw
  obtain ⟨f9, wy, -⟩ := id hbw
  have hF := hF.trans hF2
  refine W.eq (g2 := F0 m 33 ls []) rfl ?_
  refine lv_aload_n hx hb dd_Wr_writeBody_33 rfl (lv_at hl 0 rfl) ?_
  refine lv_aload_n hx hb dd_Wr_writeBody_34 rfl (lv_at hl 1 rfl) ?_
  refine gf_Wr_61 E hM wc rfl dd_Wr_writeBody_35 ?_
  refine mw_V (As := [.int (nI q3)]) (rest := []) E (cc_Wr_writeNumber l D z (M1) wt y r q3 ws K4 ww hbw (by omega) hqb.2.2.1) ky_Wr_writeNumber kv_Wr_writeNumber tw_Wr_54 hM hS ww rfl rfl rfl hl.1 rfl (Nat.le_of_ble_eq_true rfl) dd_Wr_writeBody_38 (by first | decide | exact ⟨by dsimp only; omega, by dsimp only; omega⟩) (by decide) (fun v M1 H locs hp hM hS => ?_)
  obtain ⟨rfl, hbw2, hF2⟩ := hp
  have hnl := nm_l_len q3
  have hbo := hbw
  obtain ⟨f8, wy8, wr8, -⟩ := id hbo
  have hI := hI.fr hF2 (hbo.ne wd9 (by decide)) (fun q => q.elim (mw_ne wt9 wy8 (fun q => by cases q)) (mw_neQ wt9 wr8)) (fun q => q.elim (mw_ne wl9 wy8 (fun q => by cases q)) hlr) (fun q => q.elim (mw_ne we9 wy8 (fun q => by cases q)) hdr) (fun j hj q => q.elim (mw_ne (hrow9 j hj) wy8 (fun q => by cases q)) (hrb j hj))
  obtain ⟨o9, fl9, fd9, T9, wd9, wt9, -, wl9, we9, hrow9, -⟩ := id hI
  have ww := hF2.at ww (hbo.ne ww (by decide))
  have wc := hF2.at wc (hbo.ne wc (by decide))
  have wn := hF2.at wn (hbo.ne wn (by decide))
  obtain ⟨K5, hK5⟩ : ∃ L9 : List Nat, L9 = K4 ++ nm_l q3 := ⟨_, rfl⟩
  have hnK5 : K5.length = K4.length + (nm_l q3).length := by rw [hK5]; rw [List.length_append]
  have hbw := hbw2
  rw [← hK5] at hbw
  obtain ⟨f9, wy, -⟩ := id hbw
  have hF := hF.trans hF2
  refine W.eq (g2 := F0 m 41 ls []) rfl ?_
  refine lv_aload_n hx hb dd_Wr_writeBody_41 rfl (lv_at hl 0 rfl) ?_
  refine lv_aload_n hx hb dd_Wr_writeBody_42 rfl (lv_at hl 1 rfl) ?_
  refine gf_Wr_64 E hM wc rfl dd_Wr_writeBody_43 ?_
  refine mw_V (As := [.int (nI q4)]) (rest := []) E (cc_Wr_writeNumber l D z (M1) wt y r q4 ws K5 ww hbw (by omega) hqb.2.2.2) ky_Wr_writeNumber kv_Wr_writeNumber tw_Wr_54 hM hS ww rfl rfl rfl hl.1 rfl (Nat.le_of_ble_eq_true rfl) dd_Wr_writeBody_46 (by first | decide | exact ⟨by dsimp only; omega, by dsimp only; omega⟩) (by decide) (fun v M1 H locs hp hM hS => ?_)
  obtain ⟨rfl, hbw2, hF2⟩ := hp
  have hnl := nm_l_len q4
  have hbo := hbw
  obtain ⟨f8, wy8, wr8, -⟩ := id hbo
  have hI := hI.fr hF2 (hbo.ne wd9 (by decide)) (fun q => q.elim (mw_ne wt9 wy8 (fun q => by cases q)) (mw_neQ wt9 wr8)) (fun q => q.elim (mw_ne wl9 wy8 (fun q => by cases q)) hlr) (fun q => q.elim (mw_ne we9 wy8 (fun q => by cases q)) hdr) (fun j hj q => q.elim (mw_ne (hrow9 j hj) wy8 (fun q => by cases q)) (hrb j hj))
  obtain ⟨o9, fl9, fd9, T9, wd9, wt9, -, wl9, we9, hrow9, -⟩ := id hI
  have ww := hF2.at ww (hbo.ne ww (by decide))
  have wc := hF2.at wc (hbo.ne wc (by decide))
  have wn := hF2.at wn (hbo.ne wn (by decide))
  obtain ⟨K6, hK6⟩ : ∃ L9 : List Nat, L9 = K5 ++ nm_l q4 := ⟨_, rfl⟩
  have hnK6 : K6.length = K5.length + (nm_l q4).length := by rw [hK6]; rw [List.length_append]
  have hbw := hbw2
  rw [← hK6] at hbw
  obtain ⟨f9, wy, -⟩ := id hbw
  have hF := hF.trans hF2
  refine W.eq (g2 := F0 m 49 ls []) rfl ?_
  refine lv_aload_n hx hb dd_Wr_writeBody_49 rfl (lv_at hl 0 rfl) ?_
  refine gf_Wr_12 E hM ww rfl dd_Wr_writeBody_50 ?_
  refine lv_sipush (v := nI 134) hx hb dd_Wr_writeBody_53 (by decide) ?_
  refine mw_V (As := [.int (nI 134)]) (rest := []) E (bw_app (c := 134) l D z (M1) hbw (by omega)) ky_By_append kv_By_append tw_Wr_30 hM hS wy rfl rfl rfl hl.1 rfl (Nat.le_of_ble_eq_true rfl) dd_Wr_writeBody_56 (by first | decide | exact ⟨by dsimp only; omega, by dsimp only; omega⟩) (by decide) (fun v M1 H locs hp hM hS => ?_)
  obtain ⟨rfl, hbw2, hF2⟩ := hp
  have hbo := hbw
  obtain ⟨f8, wy8, wr8, -⟩ := id hbo
  have hI := hI.fr hF2 (hbo.ne wd9 (by decide)) (fun q => q.elim (mw_ne wt9 wy8 (fun q => by cases q)) (mw_neQ wt9 wr8)) (fun q => q.elim (mw_ne wl9 wy8 (fun q => by cases q)) hlr) (fun q => q.elim (mw_ne we9 wy8 (fun q => by cases q)) hdr) (fun j hj q => q.elim (mw_ne (hrow9 j hj) wy8 (fun q => by cases q)) (hrb j hj))
  obtain ⟨o9, fl9, fd9, T9, wd9, wt9, -, wl9, we9, hrow9, -⟩ := id hI
  have ww := hF2.at ww (hbo.ne ww (by decide))
  have wc := hF2.at wc (hbo.ne wc (by decide))
  have wn := hF2.at wn (hbo.ne wn (by decide))
  obtain ⟨K7, hK7⟩ : ∃ L9 : List Nat, L9 = K6 ++ [134] := ⟨_, rfl⟩
  have hnK7 : K7.length = K6.length + 1 := by rw [hK7]; rw [List.length_append]; rfl
  have hbw := hbw2
  rw [← hK7] at hbw
  obtain ⟨f9, wy, -⟩ := id hbw
  have hF := hF.trans hF2
  refine W.eq (g2 := F0 m 59 ls []) rfl ?_
  refine lv_aload_n hx hb dd_Wr_writeBody_59 rfl (lv_at hl 2 rfl) ?_
  refine lv_aload_n hx hb dd_Wr_writeBody_60 rfl (lv_at hl 0 rfl) ?_
  refine gf_Wr_12 E hM ww rfl dd_Wr_writeBody_61 ?_
  refine lv_aload_n hx hb dd_Wr_writeBody_64 rfl (lv_at hl 1 rfl) ?_
  refine gf_Wr_67 E hM wc rfl dd_Wr_writeBody_65 ?_
  refine gf_Wr_71 E hM wn rfl dd_Wr_writeBody_68 ?_
  refine mw_V (As := [.ref y, .int (nI i0)]) (rest := []) E (cc_Id_writeTo l D z (M1) xi t le de ic Ln Dn G y r i0 K7 hI hO hbw (by omega) hi0 hrb hlr hdr) ky_Id_writeTo kv_Id_writeTo tw_Wr_76 hM hS wd9 rfl rfl rfl hl.1 rfl (Nat.le_of_ble_eq_true rfl) dd_Wr_writeBody_71 (by first | decide | exact ⟨by dsimp only; omega, by dsimp only; omega⟩) (by decide) (fun v M1 H locs hp hM hS => ?_)
  obtain ⟨rfl, hbw2, hF2⟩ := hp
  have htl : (id_tx Ln G i0).length = Ln i0 := by unfold id_tx; rw [List.length_map, List.length_range]
  have hbo := hbw
  obtain ⟨f8, wy8, wr8, -⟩ := id hbo
  have hI := hI.fr hF2 (hbo.ne wd9 (by decide)) (fun q => q.elim (mw_ne wt9 wy8 (fun q => by cases q)) (mw_neQ wt9 wr8)) (fun q => q.elim (mw_ne wl9 wy8 (fun q => by cases q)) hlr) (fun q => q.elim (mw_ne we9 wy8 (fun q => by cases q)) hdr) (fun j hj q => q.elim (mw_ne (hrow9 j hj) wy8 (fun q => by cases q)) (hrb j hj))
  obtain ⟨o9, fl9, fd9, T9, wd9, wt9, -, wl9, we9, hrow9, -⟩ := id hI
  have ww := hF2.at ww (hbo.ne ww (by decide))
  have wc := hF2.at wc (hbo.ne wc (by decide))
  have wn := hF2.at wn (hbo.ne wn (by decide))
  obtain ⟨K8, hK8⟩ : ∃ L9 : List Nat, L9 = K7 ++ [Ln i0] ++ id_tx Ln G i0 := ⟨_, rfl⟩
  have hnK8 : K8.length = K7.length + 1 + Ln i0 := by rw [hK8]; rw [List.length_append, List.length_append, htl]; rfl
  have hbw := hbw2
  rw [← hK8] at hbw
  obtain ⟨f9, wy, -⟩ := id hbw
  have hF := hF.trans hF2
  refine W.eq (g2 := F0 m 74 ls []) rfl ?_
  refine lv_iconst (v := nI 0) hx hb dd_Wr_writeBody_74 (by decide) ?_
  refine lv_istore_n (lv' := [(3, .int (nI 0)), (0, .ref wt), (1, .ref cc), (2, .ref xi)]) hx hb dd_Wr_writeBody_75 rfl hl (by decide) rfl (fun ls hl => ?_)
  refine lv_iload_n hx hb dd_Wr_writeBody_76 rfl (lv_at hl 0 rfl) ?_
  refine va_getsN hx hb E.Z.2.1.1 hS E.o (va_Nw.use rfl (E.N.1 _ tw_Wr_82)) (fun _ h => h) dd_Wr_writeBody_77 ?_
  refine va_tlen (v := nI 4) hx hb E.Z.2.1.2 hS rfl dd_Wr_writeBody_80 ?_
  refine lv_icmp_ge (tgt := 102) hx hb dd_Wr_writeBody_81 (by decide) (fun h81 => ?_) (fun h81 => ?_)
  ·
    rw [nI_leI (by omega) (by omega)] at h81
    omega
  ·
    rw [nI_leI (by omega) (by omega)] at h81
    refine lv_aload_n hx hb dd_Wr_writeBody_84 rfl (lv_at hl 1 rfl) ?_
    refine gf_Wr_12 E hM ww rfl dd_Wr_writeBody_85 ?_
    refine va_getsN hx hb E.Z.2.1.1 hS E.o (va_Nw.use rfl (E.N.1 _ tw_Wr_82)) (fun _ h => h) dd_Wr_writeBody_88 ?_
    refine lv_iload_n hx hb dd_Wr_writeBody_91 rfl (lv_at hl 0 rfl) ?_
    refine va_ti (v := .int (([3, 2, 7, 128] : List Int32).getD (nI 0).toNatClampNeg 0)) hx hb E.Z.2.1.2 hS (vp_in_nI (by omega) (by omega)) rfl dd_Wr_writeBody_92 ?_
    refine mw_topi (y := ([3, 2, 7, 128] : List Int32).getD 0 0) (by rw [nI_clamp (by omega)]) ?_
    refine mw_topi (y := nI 3) (by decide) ?_
    refine mw_V (As := [.int (nI 3)]) (rest := []) E (bw_app (c := 3) l D z (M1) hbw (by omega)) ky_By_append kv_By_append tw_Wr_30 hM hS wy rfl rfl rfl hl.1 rfl (Nat.le_of_ble_eq_true rfl) dd_Wr_writeBody_93 (by first | decide | exact ⟨by dsimp only; omega, by dsimp only; omega⟩) (by decide) (fun v M1 H locs hp hM hS => ?_)
    obtain ⟨rfl, hbw2, hF2⟩ := hp
    have hbo := hbw
    obtain ⟨f8, wy8, wr8, -⟩ := id hbo
    have hI := hI.fr hF2 (hbo.ne wd9 (by decide)) (fun q => q.elim (mw_ne wt9 wy8 (fun q => by cases q)) (mw_neQ wt9 wr8)) (fun q => q.elim (mw_ne wl9 wy8 (fun q => by cases q)) hlr) (fun q => q.elim (mw_ne we9 wy8 (fun q => by cases q)) hdr) (fun j hj q => q.elim (mw_ne (hrow9 j hj) wy8 (fun q => by cases q)) (hrb j hj))
    obtain ⟨o9, fl9, fd9, T9, wd9, wt9, -, wl9, we9, hrow9, -⟩ := id hI
    have ww := hF2.at ww (hbo.ne ww (by decide))
    have wc := hF2.at wc (hbo.ne wc (by decide))
    have wn := hF2.at wn (hbo.ne wn (by decide))
    obtain ⟨K9, hK9⟩ : ∃ L9 : List Nat, L9 = K8 ++ [3] := ⟨_, rfl⟩
    have hnK9 : K9.length = K8.length + 1 := by rw [hK9]; rw [List.length_append]; rfl
    have hbw := hbw2
    rw [← hK9] at hbw
    obtain ⟨f9, wy, -⟩ := id hbw
    have hF := hF.trans hF2
    refine W.eq (g2 := F0 m 96 ls []) rfl ?_
    refine lv_iinc (k := 0) (v := nI (0 + 1)) (lv' := [(3, .int (nI (0 + 1))), (0, .ref wt), (1, .ref cc), (2, .ref xi)]) hx hb dd_Wr_writeBody_96 hl rfl (nI_1 _) (by decide) rfl (fun ls hl => ?_)
    refine lv_goto (tgt := 76) hx hb dd_Wr_writeBody_99 (by decide) ?_
    refine lv_iload_n hx hb dd_Wr_writeBody_76 rfl (lv_at hl 0 rfl) ?_
    refine va_getsN hx hb E.Z.2.1.1 hS E.o (va_Nw.use rfl (E.N.1 _ tw_Wr_82)) (fun _ h => h) dd_Wr_writeBody_77 ?_
    refine va_tlen (v := nI 4) hx hb E.Z.2.1.2 hS rfl dd_Wr_writeBody_80 ?_
    refine lv_icmp_ge (tgt := 102) hx hb dd_Wr_writeBody_81 (by decide) (fun h81 => ?_) (fun h81 => ?_)
    ·
      rw [nI_leI (by omega) (by omega)] at h81
      omega
    ·
      rw [nI_leI (by omega) (by omega)] at h81
      refine lv_aload_n hx hb dd_Wr_writeBody_84 rfl (lv_at hl 1 rfl) ?_
      refine gf_Wr_12 E hM ww rfl dd_Wr_writeBody_85 ?_
      refine va_getsN hx hb E.Z.2.1.1 hS E.o (va_Nw.use rfl (E.N.1 _ tw_Wr_82)) (fun _ h => h) dd_Wr_writeBody_88 ?_
      refine lv_iload_n hx hb dd_Wr_writeBody_91 rfl (lv_at hl 0 rfl) ?_
      refine va_ti (v := .int (([3, 2, 7, 128] : List Int32).getD (nI (0 + 1)).toNatClampNeg 0)) hx hb E.Z.2.1.2 hS (vp_in_nI (by omega) (by omega)) rfl dd_Wr_writeBody_92 ?_
      refine mw_topi (y := ([3, 2, 7, 128] : List Int32).getD (0 + 1) 0) (by rw [nI_clamp (by omega)]) ?_
      refine mw_topi (y := nI 2) (by decide) ?_
      refine mw_V (As := [.int (nI 2)]) (rest := []) E (bw_app (c := 2) l D z (M1) hbw (by omega)) ky_By_append kv_By_append tw_Wr_30 hM hS wy rfl rfl rfl hl.1 rfl (Nat.le_of_ble_eq_true rfl) dd_Wr_writeBody_93 (by first | decide | exact ⟨by dsimp only; omega, by dsimp only; omega⟩) (by decide) (fun v M1 H locs hp hM hS => ?_)
      obtain ⟨rfl, hbw2, hF2⟩ := hp
      have hbo := hbw
      obtain ⟨f8, wy8, wr8, -⟩ := id hbo
      have hI := hI.fr hF2 (hbo.ne wd9 (by decide)) (fun q => q.elim (mw_ne wt9 wy8 (fun q => by cases q)) (mw_neQ wt9 wr8)) (fun q => q.elim (mw_ne wl9 wy8 (fun q => by cases q)) hlr) (fun q => q.elim (mw_ne we9 wy8 (fun q => by cases q)) hdr) (fun j hj q => q.elim (mw_ne (hrow9 j hj) wy8 (fun q => by cases q)) (hrb j hj))
      obtain ⟨o9, fl9, fd9, T9, wd9, wt9, -, wl9, we9, hrow9, -⟩ := id hI
      have ww := hF2.at ww (hbo.ne ww (by decide))
      have wc := hF2.at wc (hbo.ne wc (by decide))
      have wn := hF2.at wn (hbo.ne wn (by decide))
      obtain ⟨K10, hK10⟩ : ∃ L9 : List Nat, L9 = K9 ++ [2] := ⟨_, rfl⟩
      have hnK10 : K10.length = K9.length + 1 := by rw [hK10]; rw [List.length_append]; rfl
      have hbw := hbw2
      rw [← hK10] at hbw
      obtain ⟨f9, wy, -⟩ := id hbw
      have hF := hF.trans hF2
      refine W.eq (g2 := F0 m 96 ls []) rfl ?_
      refine lv_iinc (k := 0) (v := nI (0 + 1 + 1)) (lv' := [(3, .int (nI (0 + 1 + 1))), (0, .ref wt), (1, .ref cc), (2, .ref xi)]) hx hb dd_Wr_writeBody_96 hl rfl (nI_1 _) (by decide) rfl (fun ls hl => ?_)
      refine lv_goto (tgt := 76) hx hb dd_Wr_writeBody_99 (by decide) ?_
      refine lv_iload_n hx hb dd_Wr_writeBody_76 rfl (lv_at hl 0 rfl) ?_
      refine va_getsN hx hb E.Z.2.1.1 hS E.o (va_Nw.use rfl (E.N.1 _ tw_Wr_82)) (fun _ h => h) dd_Wr_writeBody_77 ?_
      refine va_tlen (v := nI 4) hx hb E.Z.2.1.2 hS rfl dd_Wr_writeBody_80 ?_
      refine lv_icmp_ge (tgt := 102) hx hb dd_Wr_writeBody_81 (by decide) (fun h81 => ?_) (fun h81 => ?_)
      ·
        rw [nI_leI (by omega) (by omega)] at h81
        omega
      ·
        rw [nI_leI (by omega) (by omega)] at h81
        refine lv_aload_n hx hb dd_Wr_writeBody_84 rfl (lv_at hl 1 rfl) ?_
        refine gf_Wr_12 E hM ww rfl dd_Wr_writeBody_85 ?_
        refine va_getsN hx hb E.Z.2.1.1 hS E.o (va_Nw.use rfl (E.N.1 _ tw_Wr_82)) (fun _ h => h) dd_Wr_writeBody_88 ?_
        refine lv_iload_n hx hb dd_Wr_writeBody_91 rfl (lv_at hl 0 rfl) ?_
        refine va_ti (v := .int (([3, 2, 7, 128] : List Int32).getD (nI (0 + 1 + 1)).toNatClampNeg 0)) hx hb E.Z.2.1.2 hS (vp_in_nI (by omega) (by omega)) rfl dd_Wr_writeBody_92 ?_
        refine mw_topi (y := ([3, 2, 7, 128] : List Int32).getD (0 + 1 + 1) 0) (by rw [nI_clamp (by omega)]) ?_
        refine mw_topi (y := nI 7) (by decide) ?_
        refine mw_V (As := [.int (nI 7)]) (rest := []) E (bw_app (c := 7) l D z (M1) hbw (by omega)) ky_By_append kv_By_append tw_Wr_30 hM hS wy rfl rfl rfl hl.1 rfl (Nat.le_of_ble_eq_true rfl) dd_Wr_writeBody_93 (by first | decide | exact ⟨by dsimp only; omega, by dsimp only; omega⟩) (by decide) (fun v M1 H locs hp hM hS => ?_)
        obtain ⟨rfl, hbw2, hF2⟩ := hp
        have hbo := hbw
        obtain ⟨f8, wy8, wr8, -⟩ := id hbo
        have hI := hI.fr hF2 (hbo.ne wd9 (by decide)) (fun q => q.elim (mw_ne wt9 wy8 (fun q => by cases q)) (mw_neQ wt9 wr8)) (fun q => q.elim (mw_ne wl9 wy8 (fun q => by cases q)) hlr) (fun q => q.elim (mw_ne we9 wy8 (fun q => by cases q)) hdr) (fun j hj q => q.elim (mw_ne (hrow9 j hj) wy8 (fun q => by cases q)) (hrb j hj))
        obtain ⟨o9, fl9, fd9, T9, wd9, wt9, -, wl9, we9, hrow9, -⟩ := id hI
        have ww := hF2.at ww (hbo.ne ww (by decide))
        have wc := hF2.at wc (hbo.ne wc (by decide))
        have wn := hF2.at wn (hbo.ne wn (by decide))
        obtain ⟨K11, hK11⟩ : ∃ L9 : List Nat, L9 = K10 ++ [7] := ⟨_, rfl⟩
        have hnK11 : K11.length = K10.length + 1 := by rw [hK11]; rw [List.length_append]; rfl
        have hbw := hbw2
        rw [← hK11] at hbw
        obtain ⟨f9, wy, -⟩ := id hbw
        have hF := hF.trans hF2
        refine W.eq (g2 := F0 m 96 ls []) rfl ?_
        refine lv_iinc (k := 0) (v := nI (0 + 1 + 1 + 1)) (lv' := [(3, .int (nI (0 + 1 + 1 + 1))), (0, .ref wt), (1, .ref cc), (2, .ref xi)]) hx hb dd_Wr_writeBody_96 hl rfl (nI_1 _) (by decide) rfl (fun ls hl => ?_)
        refine lv_goto (tgt := 76) hx hb dd_Wr_writeBody_99 (by decide) ?_
        refine lv_iload_n hx hb dd_Wr_writeBody_76 rfl (lv_at hl 0 rfl) ?_
        refine va_getsN hx hb E.Z.2.1.1 hS E.o (va_Nw.use rfl (E.N.1 _ tw_Wr_82)) (fun _ h => h) dd_Wr_writeBody_77 ?_
        refine va_tlen (v := nI 4) hx hb E.Z.2.1.2 hS rfl dd_Wr_writeBody_80 ?_
        refine lv_icmp_ge (tgt := 102) hx hb dd_Wr_writeBody_81 (by decide) (fun h81 => ?_) (fun h81 => ?_)
        ·
          rw [nI_leI (by omega) (by omega)] at h81
          omega
        ·
          rw [nI_leI (by omega) (by omega)] at h81
          refine lv_aload_n hx hb dd_Wr_writeBody_84 rfl (lv_at hl 1 rfl) ?_
          refine gf_Wr_12 E hM ww rfl dd_Wr_writeBody_85 ?_
          refine va_getsN hx hb E.Z.2.1.1 hS E.o (va_Nw.use rfl (E.N.1 _ tw_Wr_82)) (fun _ h => h) dd_Wr_writeBody_88 ?_
          refine lv_iload_n hx hb dd_Wr_writeBody_91 rfl (lv_at hl 0 rfl) ?_
          refine va_ti (v := .int (([3, 2, 7, 128] : List Int32).getD (nI (0 + 1 + 1 + 1)).toNatClampNeg 0)) hx hb E.Z.2.1.2 hS (vp_in_nI (by omega) (by omega)) rfl dd_Wr_writeBody_92 ?_
          refine mw_topi (y := ([3, 2, 7, 128] : List Int32).getD (0 + 1 + 1 + 1) 0) (by rw [nI_clamp (by omega)]) ?_
          refine mw_topi (y := nI 128) (by decide) ?_
          refine mw_V (As := [.int (nI 128)]) (rest := []) E (bw_app (c := 128) l D z (M1) hbw (by omega)) ky_By_append kv_By_append tw_Wr_30 hM hS wy rfl rfl rfl hl.1 rfl (Nat.le_of_ble_eq_true rfl) dd_Wr_writeBody_93 (by first | decide | exact ⟨by dsimp only; omega, by dsimp only; omega⟩) (by decide) (fun v M1 H locs hp hM hS => ?_)
          obtain ⟨rfl, hbw2, hF2⟩ := hp
          have hbo := hbw
          obtain ⟨f8, wy8, wr8, -⟩ := id hbo
          have hI := hI.fr hF2 (hbo.ne wd9 (by decide)) (fun q => q.elim (mw_ne wt9 wy8 (fun q => by cases q)) (mw_neQ wt9 wr8)) (fun q => q.elim (mw_ne wl9 wy8 (fun q => by cases q)) hlr) (fun q => q.elim (mw_ne we9 wy8 (fun q => by cases q)) hdr) (fun j hj q => q.elim (mw_ne (hrow9 j hj) wy8 (fun q => by cases q)) (hrb j hj))
          obtain ⟨o9, fl9, fd9, T9, wd9, wt9, -, wl9, we9, hrow9, -⟩ := id hI
          have ww := hF2.at ww (hbo.ne ww (by decide))
          have wc := hF2.at wc (hbo.ne wc (by decide))
          have wn := hF2.at wn (hbo.ne wn (by decide))
          obtain ⟨K12, hK12⟩ : ∃ L9 : List Nat, L9 = K11 ++ [128] := ⟨_, rfl⟩
          have hnK12 : K12.length = K11.length + 1 := by rw [hK12]; rw [List.length_append]; rfl
          have hbw := hbw2
          rw [← hK12] at hbw
          obtain ⟨f9, wy, -⟩ := id hbw
          have hF := hF.trans hF2
          refine W.eq (g2 := F0 m 96 ls []) rfl ?_
          refine lv_iinc (k := 0) (v := nI (0 + 1 + 1 + 1 + 1)) (lv' := [(3, .int (nI (0 + 1 + 1 + 1 + 1))), (0, .ref wt), (1, .ref cc), (2, .ref xi)]) hx hb dd_Wr_writeBody_96 hl rfl (nI_1 _) (by decide) rfl (fun ls hl => ?_)
          refine lv_goto (tgt := 76) hx hb dd_Wr_writeBody_99 (by decide) ?_
          refine lv_iload_n hx hb dd_Wr_writeBody_76 rfl (lv_at hl 0 rfl) ?_
          refine va_getsN hx hb E.Z.2.1.1 hS E.o (va_Nw.use rfl (E.N.1 _ tw_Wr_82)) (fun _ h => h) dd_Wr_writeBody_77 ?_
          refine va_tlen (v := nI 4) hx hb E.Z.2.1.2 hS rfl dd_Wr_writeBody_80 ?_
          refine lv_icmp_ge (tgt := 102) hx hb dd_Wr_writeBody_81 (by decide) (fun h81 => ?_) (fun h81 => ?_)
          ·
            rw [nI_leI (by omega) (by omega)] at h81
            refine lv_aload_n hx hb dd_Wr_writeBody_102 rfl (lv_at hl 1 rfl) ?_
            refine gf_Wr_12 E hM ww rfl dd_Wr_writeBody_103 ?_
            refine lv_iconst (v := nI 3) hx hb dd_Wr_writeBody_106 (by decide) ?_
            refine lv_aload_n hx hb dd_Wr_writeBody_107 rfl (lv_at hl 1 rfl) ?_
            refine gf_Wr_12 E hM ww rfl dd_Wr_writeBody_108 ?_
            obtain ⟨n9, hn9⟩ : ∃ n8 : Nat, n8 = K12.length := ⟨_, rfl⟩
            refine mw_V (As := []) (rest := [.int (nI 3), .ref y]) E (bw_len l D z (M1) hbw hn9.symm) ky_By_length kv_By_length tw_Wr_38 hM hS wy rfl rfl rfl hl.1 rfl (Nat.le_of_ble_eq_true rfl) dd_Wr_writeBody_111 (by first | decide | exact ⟨by dsimp only; omega, by dsimp only; omega⟩) (by decide) (fun v M1 H locs hp hM hS => ?_)
            obtain ⟨rfl, hq⟩ := hp
            have hq := hq.symm
            subst hq
            refine W.eq (g2 := F0 m 114 ls [.int (nI n9), .int (nI 3), .ref y]) rfl ?_
            refine lv_iconst (v := nI 3) hx hb dd_Wr_writeBody_114 (by decide) ?_
            refine lv_isub hx hb dd_Wr_writeBody_115 ?_
            refine mw_topi (y := nI (n9 - 3)) (pk_sub (by omega)) ?_
            refine lv_iconst (v := nI 1) hx hb dd_Wr_writeBody_116 (by decide) ?_
            refine lv_isub hx hb dd_Wr_writeBody_117 ?_
            refine mw_topi (y := nI ((n9 - 3) - 1)) (pk_sub (by omega)) ?_
            refine mw_topi (y := nI (n9 - 4)) (congrArg nI (by omega)) ?_
            refine mw_V (As := [.int (nI 3), .int (nI (n9 - 4))]) (rest := []) E (bw_rep (j := 3) (c := n9 - 4) l D z (M1) hbw (by omega)) ky_By_replace kv_By_replace tw_Wr_57 hM hS wy rfl rfl rfl hl.1 rfl (Nat.le_of_ble_eq_true rfl) dd_Wr_writeBody_118 (by first | decide | exact ⟨by dsimp only; omega, by dsimp only; omega⟩) (by decide) (fun v M1 H locs hp hM hS => ?_)
            obtain ⟨rfl, hbw2, hF2⟩ := hp
            have hF := hF.trans hF2
            refine W.eq (g2 := F0 m 121 ls []) rfl ?_
            refine mr_v E hr hk hM hS (by decide) (by decide) ?_ dd_Wr_writeBody_121
            have hE : K12 = ec_0 q1 q2 q3 q4 (id_tx Ln G i0) := by
              rw [hK12, hK11, hK10, hK9, hK8, hK7, hK6, hK5, hK4, hK3, hK2, hK1, hK0]
              simp only [ec_0, htl, List.append_assoc, List.cons_append, List.nil_append]
            rw [hE] at hbw2
            rw [hE] at hn9
            unfold ec_1
            rw [← hn9]
            exact ⟨rfl, hbw2, hF⟩
          ·
            rw [nI_leI (by omega) (by omega)] at h81
            omega
