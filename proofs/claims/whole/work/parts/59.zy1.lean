/-! the reference: a certificate written -/
set_option maxHeartbeats 4000000 in
set_option maxRecDepth 100000 in
theorem cc_Mo_make (l : Launch) (D : va_G) (z : Nat) (M : mw_M) (mm : Nat) (ra : Nat → Nat) (V : Nat → Int32) (A : Nat → Nat → Int32) (S : Nat → Int64) (ic : Nat) (Ln Dn : Nat → Nat) (G : Nat → Nat → Nat) (k e0 i0 q1 q2 q3 q4 : Nat) (hR : mq_R D M mm ra V A S) (hJ : mi_at V A ic Ln Dn G) (hO : id_ok ic Ln Dn G) (hk12 : k < 12) (hfv : (A 42 (5 * k) = nI e0 ∧ A 42 (5 * k + 1) = nI q1 ∧ A 42 (5 * k + 2) = nI q2 ∧ A 42 (5 * k + 3) = nI q3 ∧ A 42 (5 * k + 4) = nI q4)) (he60 : e0 < 60) (hid : A 17 e0 = nI i0) (hi0 : i0 < ic) (hqb : q1 < 2 ^ 31 ∧ q2 < 2 ^ 31 ∧ q3 < 2 ^ 31 ∧ q4 < 2 ^ 31) (hso : (∀ j : Nat, j < 4 → S j = 0 ∨ S j = lN (sk_s j))) : mw_C l yy_Mo_make bb_Mo_make 6 (Option.none : Option Jvm.ClassFile.FieldType) 2 47 0 0 D z M [.ref mm, .int (nI k)] (fun v M' => v = none ∧ (∃ V2 A2 S2, mq_R D M' mm ra V2 A2 S2 ∧ mo_ob V A V2 A2 (ec_3 q1 q2 q3 q4 (id_tx Ln G i0)) ∧ (∀ j : Nat, j < 4 → S2 j = 0 ∨ S2 j = lN (sk_s j))) ∧ mw_fr (mq_P mm ra) M M') := by
  refine mw_of (by decide) (Nat.le_of_ble_eq_true rfl) ?_
  intro p e s m below meth c ls E hr hk hnm hM hl
  have hx := E.x
  have hb := E.b
  have E : mw_E p m c bb_Mo_make 6 s _ D z "IdentityIssuerModel" := E
  have hl : lv_has ls 6 [(0, .ref mm), (1, .int (nI k))] := hl
  have hS : va_S (mw_A z) s.heap s.heap [] := va_S.rf
  have hF : mw_fr (mq_P mm ra) M M := mw_fr.rf
  have hic := hO.1
  obtain ⟨o1, o2, o3, o4, o5⟩ := hO.2 i0 hi0
  obtain ⟨j1, j2, j3⟩ := hJ.2 i0 hi0
  have htl : (id_tx Ln G i0).length = Ln i0 := by unfold id_tx; rw [List.length_map, List.length_range]
  have hel := ec_0_len (q1 := q1) (q2 := q2) (q3 := q3) (q4 := q4) (tx := id_tx Ln G i0) (by omega)
  refine lv_aload_n hx hb dd_Mo_make_0 rfl (lv_at hl 0 rfl) ?_
  refine gf_Mo_33 E hM hR.m ((mo_at (by decide)).trans (congrArg some (mq_va rfl))) dd_Mo_make_1 ?_
  have w17 : M (ra 17) = some (.inl (D.1 100, 60, .inl (A 17))) := hR.w 17 rfl (by decide)
  refine lv_aload_n hx hb dd_Mo_make_4 rfl (lv_at hl 0 rfl) ?_
  refine gf_Mo_96 E hM hR.m ((mo_at (by decide)).trans (congrArg some (mq_va rfl))) dd_Mo_make_5 ?_
  have w42 : M (ra 42) = some (.inl (D.1 100, 60, .inl (A 42))) := hR.w 42 rfl (by decide)
  refine lv_iconst (v := nI 5) hx hb dd_Mo_make_8 (by decide) ?_
  refine lv_iload_n hx hb dd_Mo_make_9 rfl (lv_at hl 1 rfl) ?_
  refine lv_imul hx hb dd_Mo_make_10 ?_
  refine mw_topi (y := nI (5 * k)) (pk_mul _ _) ?_
  refine mw_iald hx hb E.K hM 0 w42 rfl (vp_in_nI (by omega) (by omega)) dd_Mo_make_11 ?_
  refine mw_topi (y := (A 42) (5 * k)) (by rw [nI_clamp (by omega)]) ?_
  refine mw_topi (y := nI e0) (hfv.1) ?_
  refine mw_iald hx hb E.K hM 0 w17 rfl (vp_in_nI (by omega) (by omega)) dd_Mo_make_12 ?_
  refine mw_topi (y := (A 17) e0) (by rw [nI_clamp (by omega)]) ?_
  refine mw_topi (y := nI i0) (hid) ?_
  refine lv_istore_n (lv' := [(2, .int (nI i0)), (0, .ref mm), (1, .int (nI k))]) hx hb dd_Mo_make_13 rfl hl (by decide) rfl (fun ls hl => ?_)
  refine lv_aload_n hx hb dd_Mo_make_14 rfl (lv_at hl 1 rfl) ?_
  refine lv_iconst (v := nI 0) hx hb dd_Mo_make_15 (by decide) ?_
  refine pf_Mo_263 E hM hS hR.m (by rw [mo_len]; decide) dd_Mo_make_16 (fun H locs hM hS => ?_)
  rw [mo_set (by decide), mq_vu rfl] at hM
  obtain ⟨V21, hV21⟩ : ∃ V9 : Nat → Int32, V9 = va_up V 48 (nI 0) := ⟨_, rfl⟩
  rw [← hV21] at hM
  obtain ⟨M1, hM1⟩ : ∃ M9 : mw_M, M9 = va_up M mm (some (.inr (13, mo_l (mq_v ra V21)))) := ⟨_, rfl⟩
  rw [← hM1] at hM
  have hR := hR.setV hM1
  have hF := mw_fu hM1 hF (Or.inl rfl)
  have hv48 := mq_vs hV21
  obtain ⟨K0, hK0⟩ : ∃ L9 : List Nat, L9 = [] := ⟨_, rfl⟩
  have hnK0 : K0.length = 0 := by rw [hK0]; rfl
  have hob : mo_ob V A V21 A K0 := ⟨fun j hj => by rw [hV21, va_up_ne _ _ hj], fun _ _ => rfl, by rw [hV21, va_up_self, hK0]; rfl, by rw [hK0]; exact by_nil _, by omega⟩
  refine lv_aload_n hx hb dd_Mo_make_19 rfl (lv_at hl 1 rfl) ?_
  refine lv_bipush (v := nI 48) hx hb dd_Mo_make_20 (by decide) ?_
  refine mw_V (As := [.int (nI 48)]) (rest := []) E (cc_Mo_out l D z (M1) mm ra V V21 A A S K0 (48) hR hob (by omega)) ky_Mo_out kv_Mo_out tw_Mo_268 hM hS hR.m rfl rfl rfl hl.1 rfl (Nat.le_of_ble_eq_true rfl) dd_Mo_make_22 (by first | decide | exact ⟨by dsimp only; omega, by dsimp only; omega⟩) (by decide) (fun v M1 H locs hp hM hS => ?_)
  obtain ⟨rfl, ⟨V22, A22, hR, hob⟩, hF2⟩ := hp
  have hF := hF.trans hF2
  obtain ⟨K1, hK1⟩ : ∃ L9 : List Nat, L9 = K0 ++ [48] := ⟨_, rfl⟩
  have hnK1 : K1.length = K0.length + 1 := by rw [hK1]; rw [List.length_append]; rfl
  rw [← hK1] at hob
  refine W.eq (g2 := F0 m 25 ls []) rfl ?_
  refine lv_aload_n hx hb dd_Mo_make_25 rfl (lv_at hl 1 rfl) ?_
  refine lv_iconst (v := nI 0) hx hb dd_Mo_make_26 (by decide) ?_
  refine mw_V (As := [.int (nI 0)]) (rest := []) E (cc_Mo_out l D z (M1) mm ra V V22 A A22 S K1 (0) hR hob (by omega)) ky_Mo_out kv_Mo_out tw_Mo_268 hM hS hR.m rfl rfl rfl hl.1 rfl (Nat.le_of_ble_eq_true rfl) dd_Mo_make_27 (by first | decide | exact ⟨by dsimp only; omega, by dsimp only; omega⟩) (by decide) (fun v M1 H locs hp hM hS => ?_)
  obtain ⟨rfl, ⟨V23, A23, hR, hob⟩, hF2⟩ := hp
  have hF := hF.trans hF2
  obtain ⟨K2, hK2⟩ : ∃ L9 : List Nat, L9 = K1 ++ [0] := ⟨_, rfl⟩
  have hnK2 : K2.length = K1.length + 1 := by rw [hK2]; rw [List.length_append]; rfl
  rw [← hK2] at hob
  refine W.eq (g2 := F0 m 30 ls []) rfl ?_
  refine lv_aload_n hx hb dd_Mo_make_30 rfl (lv_at hl 1 rfl) ?_
  refine lv_bipush (v := nI 48) hx hb dd_Mo_make_31 (by decide) ?_
  refine mw_V (As := [.int (nI 48)]) (rest := []) E (cc_Mo_out l D z (M1) mm ra V V23 A A23 S K2 (48) hR hob (by omega)) ky_Mo_out kv_Mo_out tw_Mo_268 hM hS hR.m rfl rfl rfl hl.1 rfl (Nat.le_of_ble_eq_true rfl) dd_Mo_make_33 (by first | decide | exact ⟨by dsimp only; omega, by dsimp only; omega⟩) (by decide) (fun v M1 H locs hp hM hS => ?_)
  obtain ⟨rfl, ⟨V24, A24, hR, hob⟩, hF2⟩ := hp
  have hF := hF.trans hF2
  obtain ⟨K3, hK3⟩ : ∃ L9 : List Nat, L9 = K2 ++ [48] := ⟨_, rfl⟩
  have hnK3 : K3.length = K2.length + 1 := by rw [hK3]; rw [List.length_append]; rfl
  rw [← hK3] at hob
  refine W.eq (g2 := F0 m 36 ls []) rfl ?_
  refine lv_aload_n hx hb dd_Mo_make_36 rfl (lv_at hl 1 rfl) ?_
  refine lv_iconst (v := nI 0) hx hb dd_Mo_make_37 (by decide) ?_
  refine mw_V (As := [.int (nI 0)]) (rest := []) E (cc_Mo_out l D z (M1) mm ra V V24 A A24 S K3 (0) hR hob (by omega)) ky_Mo_out kv_Mo_out tw_Mo_268 hM hS hR.m rfl rfl rfl hl.1 rfl (Nat.le_of_ble_eq_true rfl) dd_Mo_make_38 (by first | decide | exact ⟨by dsimp only; omega, by dsimp only; omega⟩) (by decide) (fun v M1 H locs hp hM hS => ?_)
  obtain ⟨rfl, ⟨V25, A25, hR, hob⟩, hF2⟩ := hp
  have hF := hF.trans hF2
  obtain ⟨K4, hK4⟩ : ∃ L9 : List Nat, L9 = K3 ++ [0] := ⟨_, rfl⟩
  have hnK4 : K4.length = K3.length + 1 := by rw [hK4]; rw [List.length_append]; rfl
  rw [← hK4] at hob
  refine W.eq (g2 := F0 m 41 ls []) rfl ?_
  refine lv_iconst (v := nI 1) hx hb dd_Mo_make_41 (by decide) ?_
  refine lv_istore_n (lv' := [(3, .int (nI 1)), (2, .int (nI i0)), (0, .ref mm), (1, .int (nI k))]) hx hb dd_Mo_make_42 rfl hl (by decide) rfl (fun ls hl => ?_)
  refine lv_iload_n hx hb dd_Mo_make_43 rfl (lv_at hl 0 rfl) ?_
  refine lv_iconst (v := nI 5) hx hb dd_Mo_make_44 (by decide) ?_
  refine lv_icmp_ge (tgt := 68) hx hb dd_Mo_make_45 (by decide) (fun h45 => ?_) (fun h45 => ?_)
  ·
    rw [nI_leI (by omega) (by omega)] at h45
    omega
  ·
    rw [nI_leI (by omega) (by omega)] at h45
    refine lv_aload_n hx hb dd_Mo_make_48 rfl (lv_at hl 2 rfl) ?_
    refine lv_aload_n hx hb dd_Mo_make_49 rfl (lv_at hl 2 rfl) ?_
    refine gf_Mo_96 E hM hR.m ((mo_at (by decide)).trans (congrArg some (mq_va rfl))) dd_Mo_make_50 ?_
    have w42 : M1 (ra 42) = some (.inl (D.1 100, 60, .inl (A25 42))) := hR.w 42 rfl (by decide)
    refine lv_iconst (v := nI 5) hx hb dd_Mo_make_53 (by decide) ?_
    refine lv_iload_n hx hb dd_Mo_make_54 rfl (lv_at hl 3 rfl) ?_
    refine lv_imul hx hb dd_Mo_make_55 ?_
    refine mw_topi (y := nI (5 * k)) (pk_mul _ _) ?_
    refine lv_iload_n hx hb dd_Mo_make_56 rfl (lv_at hl 0 rfl) ?_
    refine lv_iadd hx hb dd_Mo_make_57 ?_
    refine mw_topi (y := nI ((5 * k) + 1)) (nI_add _ _) ?_
    refine mw_iald hx hb E.K hM 0 w42 rfl (vp_in_nI (by omega) (by omega)) dd_Mo_make_58 ?_
    refine mw_topi (y := (A25 42) ((5 * k) + 1)) (by rw [nI_clamp (by omega)]) ?_
    refine mw_topi (y := nI q1) (by rw [hob.2.1 42 (by decide)]; exact hfv.2.1) ?_
    refine mw_V (As := [.int (nI q1)]) (rest := []) E (cc_Mo_outNumber l D z (M1) mm ra V V25 A A25 S K4 (q1) hR hob (by omega) hqb.1) ky_Mo_outNumber kv_Mo_outNumber tw_Mo_271 hM hS hR.m rfl rfl rfl hl.1 rfl (Nat.le_of_ble_eq_true rfl) dd_Mo_make_59 (by first | decide | exact ⟨by dsimp only; omega, by dsimp only; omega⟩) (by decide) (fun v M1 H locs hp hM hS => ?_)
    obtain ⟨rfl, ⟨V26, A26, hR, hob⟩, hF2⟩ := hp
    have hF := hF.trans hF2
    have hnl := nm_l_len q1
    obtain ⟨K5, hK5⟩ : ∃ L9 : List Nat, L9 = K4 ++ nm_l q1 := ⟨_, rfl⟩
    have hnK5 : K5.length = K4.length + (nm_l q1).length := by rw [hK5]; rw [List.length_append]
    rw [← hK5] at hob
    refine W.eq (g2 := F0 m 62 ls []) rfl ?_
    refine lv_iinc (k := 0) (v := nI (1 + 1)) (lv' := [(3, .int (nI (1 + 1))), (2, .int (nI i0)), (0, .ref mm), (1, .int (nI k))]) hx hb dd_Mo_make_62 hl rfl (nI_1 _) (by decide) rfl (fun ls hl => ?_)
    refine lv_goto (tgt := 43) hx hb dd_Mo_make_65 (by decide) ?_
    refine lv_iload_n hx hb dd_Mo_make_43 rfl (lv_at hl 0 rfl) ?_
    refine lv_iconst (v := nI 5) hx hb dd_Mo_make_44 (by decide) ?_
    refine lv_icmp_ge (tgt := 68) hx hb dd_Mo_make_45 (by decide) (fun h45 => ?_) (fun h45 => ?_)
    ·
      rw [nI_leI (by omega) (by omega)] at h45
      omega
    ·
      rw [nI_leI (by omega) (by omega)] at h45
      refine lv_aload_n hx hb dd_Mo_make_48 rfl (lv_at hl 2 rfl) ?_
      refine lv_aload_n hx hb dd_Mo_make_49 rfl (lv_at hl 2 rfl) ?_
      refine gf_Mo_96 E hM hR.m ((mo_at (by decide)).trans (congrArg some (mq_va rfl))) dd_Mo_make_50 ?_
      have w42 : M1 (ra 42) = some (.inl (D.1 100, 60, .inl (A26 42))) := hR.w 42 rfl (by decide)
      refine lv_iconst (v := nI 5) hx hb dd_Mo_make_53 (by decide) ?_
      refine lv_iload_n hx hb dd_Mo_make_54 rfl (lv_at hl 3 rfl) ?_
      refine lv_imul hx hb dd_Mo_make_55 ?_
      refine mw_topi (y := nI (5 * k)) (pk_mul _ _) ?_
      refine lv_iload_n hx hb dd_Mo_make_56 rfl (lv_at hl 0 rfl) ?_
      refine lv_iadd hx hb dd_Mo_make_57 ?_
      refine mw_topi (y := nI ((5 * k) + (1 + 1))) (nI_add _ _) ?_
      refine mw_iald hx hb E.K hM 0 w42 rfl (vp_in_nI (by omega) (by omega)) dd_Mo_make_58 ?_
      refine mw_topi (y := (A26 42) ((5 * k) + (1 + 1))) (by rw [nI_clamp (by omega)]) ?_
      refine mw_topi (y := nI q2) (by rw [hob.2.1 42 (by decide)]; exact hfv.2.2.1) ?_
      refine mw_V (As := [.int (nI q2)]) (rest := []) E (cc_Mo_outNumber l D z (M1) mm ra V V26 A A26 S K5 (q2) hR hob (by omega) hqb.2.1) ky_Mo_outNumber kv_Mo_outNumber tw_Mo_271 hM hS hR.m rfl rfl rfl hl.1 rfl (Nat.le_of_ble_eq_true rfl) dd_Mo_make_59 (by first | decide | exact ⟨by dsimp only; omega, by dsimp only; omega⟩) (by decide) (fun v M1 H locs hp hM hS => ?_)
      obtain ⟨rfl, ⟨V27, A27, hR, hob⟩, hF2⟩ := hp
      have hF := hF.trans hF2
      have hnl := nm_l_len q2
      obtain ⟨K6, hK6⟩ : ∃ L9 : List Nat, L9 = K5 ++ nm_l q2 := ⟨_, rfl⟩
      have hnK6 : K6.length = K5.length + (nm_l q2).length := by rw [hK6]; rw [List.length_append]
      rw [← hK6] at hob
      refine W.eq (g2 := F0 m 62 ls []) rfl ?_
      refine lv_iinc (k := 0) (v := nI (1 + 1 + 1)) (lv' := [(3, .int (nI (1 + 1 + 1))), (2, .int (nI i0)), (0, .ref mm), (1, .int (nI k))]) hx hb dd_Mo_make_62 hl rfl (nI_1 _) (by decide) rfl (fun ls hl => ?_)
      refine lv_goto (tgt := 43) hx hb dd_Mo_make_65 (by decide) ?_
      refine lv_iload_n hx hb dd_Mo_make_43 rfl (lv_at hl 0 rfl) ?_
      refine lv_iconst (v := nI 5) hx hb dd_Mo_make_44 (by decide) ?_
      refine lv_icmp_ge (tgt := 68) hx hb dd_Mo_make_45 (by decide) (fun h45 => ?_) (fun h45 => ?_)
      ·
        rw [nI_leI (by omega) (by omega)] at h45
        omega
      ·
        rw [nI_leI (by omega) (by omega)] at h45
        refine lv_aload_n hx hb dd_Mo_make_48 rfl (lv_at hl 2 rfl) ?_
        refine lv_aload_n hx hb dd_Mo_make_49 rfl (lv_at hl 2 rfl) ?_
        refine gf_Mo_96 E hM hR.m ((mo_at (by decide)).trans (congrArg some (mq_va rfl))) dd_Mo_make_50 ?_
        have w42 : M1 (ra 42) = some (.inl (D.1 100, 60, .inl (A27 42))) := hR.w 42 rfl (by decide)
        refine lv_iconst (v := nI 5) hx hb dd_Mo_make_53 (by decide) ?_
        refine lv_iload_n hx hb dd_Mo_make_54 rfl (lv_at hl 3 rfl) ?_
        refine lv_imul hx hb dd_Mo_make_55 ?_
        refine mw_topi (y := nI (5 * k)) (pk_mul _ _) ?_
        refine lv_iload_n hx hb dd_Mo_make_56 rfl (lv_at hl 0 rfl) ?_
        refine lv_iadd hx hb dd_Mo_make_57 ?_
        refine mw_topi (y := nI ((5 * k) + (1 + 1 + 1))) (nI_add _ _) ?_
        refine mw_iald hx hb E.K hM 0 w42 rfl (vp_in_nI (by omega) (by omega)) dd_Mo_make_58 ?_
        refine mw_topi (y := (A27 42) ((5 * k) + (1 + 1 + 1))) (by rw [nI_clamp (by omega)]) ?_
        refine mw_topi (y := nI q3) (by rw [hob.2.1 42 (by decide)]; exact hfv.2.2.2.1) ?_
        refine mw_V (As := [.int (nI q3)]) (rest := []) E (cc_Mo_outNumber l D z (M1) mm ra V V27 A A27 S K6 (q3) hR hob (by omega) hqb.2.2.1) ky_Mo_outNumber kv_Mo_outNumber tw_Mo_271 hM hS hR.m rfl rfl rfl hl.1 rfl (Nat.le_of_ble_eq_true rfl) dd_Mo_make_59 (by first | decide | exact ⟨by dsimp only; omega, by dsimp only; omega⟩) (by decide) (fun v M1 H locs hp hM hS => ?_)
        obtain ⟨rfl, ⟨V28, A28, hR, hob⟩, hF2⟩ := hp
        have hF := hF.trans hF2
        have hnl := nm_l_len q3
        obtain ⟨K7, hK7⟩ : ∃ L9 : List Nat, L9 = K6 ++ nm_l q3 := ⟨_, rfl⟩
        have hnK7 : K7.length = K6.length + (nm_l q3).length := by rw [hK7]; rw [List.length_append]
        rw [← hK7] at hob
        refine W.eq (g2 := F0 m 62 ls []) rfl ?_
        refine lv_iinc (k := 0) (v := nI (1 + 1 + 1 + 1)) (lv' := [(3, .int (nI (1 + 1 + 1 + 1))), (2, .int (nI i0)), (0, .ref mm), (1, .int (nI k))]) hx hb dd_Mo_make_62 hl rfl (nI_1 _) (by decide) rfl (fun ls hl => ?_)
        refine lv_goto (tgt := 43) hx hb dd_Mo_make_65 (by decide) ?_
        refine lv_iload_n hx hb dd_Mo_make_43 rfl (lv_at hl 0 rfl) ?_
        refine lv_iconst (v := nI 5) hx hb dd_Mo_make_44 (by decide) ?_
        refine lv_icmp_ge (tgt := 68) hx hb dd_Mo_make_45 (by decide) (fun h45 => ?_) (fun h45 => ?_)
        ·
          rw [nI_leI (by omega) (by omega)] at h45
          omega
        ·
          rw [nI_leI (by omega) (by omega)] at h45
          refine lv_aload_n hx hb dd_Mo_make_48 rfl (lv_at hl 2 rfl) ?_
          refine lv_aload_n hx hb dd_Mo_make_49 rfl (lv_at hl 2 rfl) ?_
          refine gf_Mo_96 E hM hR.m ((mo_at (by decide)).trans (congrArg some (mq_va rfl))) dd_Mo_make_50 ?_
          have w42 : M1 (ra 42) = some (.inl (D.1 100, 60, .inl (A28 42))) := hR.w 42 rfl (by decide)
          refine lv_iconst (v := nI 5) hx hb dd_Mo_make_53 (by decide) ?_
          refine lv_iload_n hx hb dd_Mo_make_54 rfl (lv_at hl 3 rfl) ?_
          refine lv_imul hx hb dd_Mo_make_55 ?_
          refine mw_topi (y := nI (5 * k)) (pk_mul _ _) ?_
          refine lv_iload_n hx hb dd_Mo_make_56 rfl (lv_at hl 0 rfl) ?_
          refine lv_iadd hx hb dd_Mo_make_57 ?_
          refine mw_topi (y := nI ((5 * k) + (1 + 1 + 1 + 1))) (nI_add _ _) ?_
          refine mw_iald hx hb E.K hM 0 w42 rfl (vp_in_nI (by omega) (by omega)) dd_Mo_make_58 ?_
          refine mw_topi (y := (A28 42) ((5 * k) + (1 + 1 + 1 + 1))) (by rw [nI_clamp (by omega)]) ?_
          refine mw_topi (y := nI q4) (by rw [hob.2.1 42 (by decide)]; exact hfv.2.2.2.2) ?_
          refine mw_V (As := [.int (nI q4)]) (rest := []) E (cc_Mo_outNumber l D z (M1) mm ra V V28 A A28 S K7 (q4) hR hob (by omega) hqb.2.2.2) ky_Mo_outNumber kv_Mo_outNumber tw_Mo_271 hM hS hR.m rfl rfl rfl hl.1 rfl (Nat.le_of_ble_eq_true rfl) dd_Mo_make_59 (by first | decide | exact ⟨by dsimp only; omega, by dsimp only; omega⟩) (by decide) (fun v M1 H locs hp hM hS => ?_)
          obtain ⟨rfl, ⟨V29, A29, hR, hob⟩, hF2⟩ := hp
          have hF := hF.trans hF2
          have hnl := nm_l_len q4
          obtain ⟨K8, hK8⟩ : ∃ L9 : List Nat, L9 = K7 ++ nm_l q4 := ⟨_, rfl⟩
          have hnK8 : K8.length = K7.length + (nm_l q4).length := by rw [hK8]; rw [List.length_append]
          rw [← hK8] at hob
          refine W.eq (g2 := F0 m 62 ls []) rfl ?_
          refine lv_iinc (k := 0) (v := nI (1 + 1 + 1 + 1 + 1)) (lv' := [(3, .int (nI (1 + 1 + 1 + 1 + 1))), (2, .int (nI i0)), (0, .ref mm), (1, .int (nI k))]) hx hb dd_Mo_make_62 hl rfl (nI_1 _) (by decide) rfl (fun ls hl => ?_)
          refine lv_goto (tgt := 43) hx hb dd_Mo_make_65 (by decide) ?_
          refine lv_iload_n hx hb dd_Mo_make_43 rfl (lv_at hl 0 rfl) ?_
          refine lv_iconst (v := nI 5) hx hb dd_Mo_make_44 (by decide) ?_
          refine lv_icmp_ge (tgt := 68) hx hb dd_Mo_make_45 (by decide) (fun h45 => ?_) (fun h45 => ?_)
          ·
            rw [nI_leI (by omega) (by omega)] at h45
            refine lv_aload_n hx hb dd_Mo_make_68 rfl (lv_at hl 2 rfl) ?_
            refine lv_sipush (v := nI 134) hx hb dd_Mo_make_69 (by decide) ?_
            refine mw_V (As := [.int (nI 134)]) (rest := []) E (cc_Mo_out l D z (M1) mm ra V V29 A A29 S K8 (134) hR hob (by omega)) ky_Mo_out kv_Mo_out tw_Mo_268 hM hS hR.m rfl rfl rfl hl.1 rfl (Nat.le_of_ble_eq_true rfl) dd_Mo_make_72 (by first | decide | exact ⟨by dsimp only; omega, by dsimp only; omega⟩) (by decide) (fun v M1 H locs hp hM hS => ?_)
            obtain ⟨rfl, ⟨V30, A30, hR, hob⟩, hF2⟩ := hp
            have hF := hF.trans hF2
            obtain ⟨K9, hK9⟩ : ∃ L9 : List Nat, L9 = K8 ++ [134] := ⟨_, rfl⟩
            have hnK9 : K9.length = K8.length + 1 := by rw [hK9]; rw [List.length_append]; rfl
            rw [← hK9] at hob
            refine W.eq (g2 := F0 m 75 ls []) rfl ?_
            refine lv_aload_n hx hb dd_Mo_make_75 rfl (lv_at hl 2 rfl) ?_
            refine lv_aload_n hx hb dd_Mo_make_76 rfl (lv_at hl 2 rfl) ?_
            refine gf_Mo_16 E hM hR.m ((mo_at (by decide)).trans (congrArg some (mq_va rfl))) dd_Mo_make_77 ?_
            have w6 : M1 (ra 6) = some (.inl (D.1 100, 12, .inl (A30 6))) := hR.w 6 rfl (by decide)
            refine lv_iload_n hx hb dd_Mo_make_80 rfl (lv_at hl 1 rfl) ?_
            refine mw_iald hx hb E.K hM 0 w6 rfl (vp_in_nI (by omega) (by omega)) dd_Mo_make_81 ?_
            refine mw_topi (y := (A30 6) i0) (by rw [nI_clamp (by omega)]) ?_
            refine mw_topi (y := nI (Ln i0)) (by rw [hob.2.1 6 (by decide)]; exact j1) ?_
            refine mw_V (As := [.int (nI (Ln i0))]) (rest := []) E (cc_Mo_out l D z (M1) mm ra V V30 A A30 S K9 (Ln i0) hR hob (by omega)) ky_Mo_out kv_Mo_out tw_Mo_268 hM hS hR.m rfl rfl rfl hl.1 rfl (Nat.le_of_ble_eq_true rfl) dd_Mo_make_82 (by first | decide | exact ⟨by dsimp only; omega, by dsimp only; omega⟩) (by decide) (fun v M1 H locs hp hM hS => ?_)
            obtain ⟨rfl, ⟨V31, A31, hR, hob⟩, hF2⟩ := hp
            have hF := hF.trans hF2
            obtain ⟨K10, hK10⟩ : ∃ L9 : List Nat, L9 = K9 ++ [Ln i0] := ⟨_, rfl⟩
            have hnK10 : K10.length = K9.length + 1 := by rw [hK10]; rw [List.length_append]; rfl
            rw [← hK10] at hob
            refine W.eq (g2 := F0 m 85 ls []) rfl ?_
            refine lv_iconst (v := nI 0) hx hb dd_Mo_make_85 (by decide) ?_
            refine lv_istore_n (lv' := [(3, .int (nI 0)), (2, .int (nI i0)), (0, .ref mm), (1, .int (nI k))]) hx hb dd_Mo_make_86 rfl hl (by decide) rfl (fun ls hl => ?_)
            have hE0 : K10 ++ id_tx Ln G i0 ++ [3, 2, 7, 128] = ec_0 q1 q2 q3 q4 (id_tx Ln G i0) := by
              rw [hK10, hK9, hK8, hK7, hK6, hK5, hK4, hK3, hK2, hK1, hK0]
              simp only [ec_0, htl, List.append_assoc, List.cons_append, List.nil_append]
            have hT0 : K10.length + Ln i0 + 4 = (ec_0 q1 q2 q3 q4 (id_tx Ln G i0)).length := by rw [← hE0, List.length_append, List.length_append, htl]; rfl
            have loop87 : ∀ (d9 : Nat) (p0 : Nat) (L1 : List Nat) (V3 : Nat → Int32) (A3 : Nat → Nat → Int32) (M3 : mw_M) (H : Heap) (locs : List Loc) (ls : Array Slot), p0 + d9 = Ln i0 → L1 = K10 ++ (List.range p0).map (G i0) → mq_R D M3 mm ra V3 A3 S → mo_ob V A V3 A3 L1 → mw_fr (mq_P mm ra) M M3 → mw_at D mg_cl z M3 H → va_S (mw_A z) s.heap H locs → lv_has ls 6 [(3, .int (nI p0)), (0, .ref mm), (1, .int (nI k)), (2, .int (nI i0))] → W p l e ({ frames := 2, cells := 0, slots := 0, locals := 47 } : Room) s m ([.ref mm, .int (nI k)] : List Value).toArray below meth c H locs (0) (0) (MQ below (mw_Q D z (fun v M' => v = none ∧ (∃ V2 A2 S2, mq_R D M' mm ra V2 A2 S2 ∧ mo_ob V A V2 A2 (ec_3 q1 q2 q3 q4 (id_tx Ln G i0)) ∧ (∀ j : Nat, j < 4 → S2 j = 0 ∨ S2 j = lN (sk_s j))) ∧ mw_fr (mq_P mm ra) M M')) ([.ref mm, .int (nI k)] : List Value).toArray s 0 0 (mw_A z)) (F0 m 87 ls []) := by
              intro d9
              induction d9 with
              | zero =>
                intro p0 L1 V3 A3 M3 H locs ls hp0 hLL hR hob hF hM hS hl
                have hll : L1.length = K10.length + p0 := by rw [hLL, List.length_append, List.length_map, List.length_range]
                refine lv_iload_n hx hb dd_Mo_make_87 rfl (lv_at hl 0 rfl) ?_
                refine lv_aload_n hx hb dd_Mo_make_88 rfl (lv_at hl 1 rfl) ?_
                refine gf_Mo_16 E hM hR.m ((mo_at (by decide)).trans (congrArg some (mq_va rfl))) dd_Mo_make_89 ?_
                have w6 : M3 (ra 6) = some (.inl (D.1 100, 12, .inl (A3 6))) := hR.w 6 rfl (by decide)
                refine lv_iload_n hx hb dd_Mo_make_92 rfl (lv_at hl 3 rfl) ?_
                refine mw_iald hx hb E.K hM 0 w6 rfl (vp_in_nI (by omega) (by omega)) dd_Mo_make_93 ?_
                refine mw_topi (y := (A3 6) i0) (by rw [nI_clamp (by omega)]) ?_
                refine mw_topi (y := nI (Ln i0)) (by rw [hob.2.1 6 (by decide)]; exact j1) ?_
                refine lv_icmp_ge (tgt := 118) hx hb dd_Mo_make_94 (by decide) (fun h94 => ?_) (fun h94 => ?_)
                ·
                  rw [nI_leI (by omega) (by omega)] at h94
                  rw [show p0 = Ln i0 by omega] at hLL hll
                  refine lv_aload_n hx hb dd_Mo_make_118 rfl (lv_at hl 1 rfl) ?_
                  refine lv_iconst (v := nI 3) hx hb dd_Mo_make_119 (by decide) ?_
                  refine mw_V (As := [.int (nI 3)]) (rest := []) E (cc_Mo_out l D z (M3) mm ra V V3 A A3 S L1 (3) hR hob (by omega)) ky_Mo_out kv_Mo_out tw_Mo_268 hM hS hR.m rfl rfl rfl hl.1 rfl (Nat.le_of_ble_eq_true rfl) dd_Mo_make_120 (by first | decide | exact ⟨by dsimp only; omega, by dsimp only; omega⟩) (by decide) (fun v M1 H locs hp hM hS => ?_)
                  obtain ⟨rfl, ⟨V32, A32, hR, hob⟩, hF2⟩ := hp
                  have hF := hF.trans hF2
                  obtain ⟨K11, hK11⟩ : ∃ L9 : List Nat, L9 = L1 ++ [3] := ⟨_, rfl⟩
                  have hnK11 : K11.length = L1.length + 1 := by rw [hK11]; rw [List.length_append]; rfl
                  rw [← hK11] at hob
                  refine W.eq (g2 := F0 m 123 ls []) rfl ?_
                  refine lv_aload_n hx hb dd_Mo_make_123 rfl (lv_at hl 1 rfl) ?_
                  refine lv_iconst (v := nI 2) hx hb dd_Mo_make_124 (by decide) ?_
                  refine mw_V (As := [.int (nI 2)]) (rest := []) E (cc_Mo_out l D z (M1) mm ra V V32 A A32 S K11 (2) hR hob (by omega)) ky_Mo_out kv_Mo_out tw_Mo_268 hM hS hR.m rfl rfl rfl hl.1 rfl (Nat.le_of_ble_eq_true rfl) dd_Mo_make_125 (by first | decide | exact ⟨by dsimp only; omega, by dsimp only; omega⟩) (by decide) (fun v M1 H locs hp hM hS => ?_)
                  obtain ⟨rfl, ⟨V33, A33, hR, hob⟩, hF2⟩ := hp
                  have hF := hF.trans hF2
                  obtain ⟨K12, hK12⟩ : ∃ L9 : List Nat, L9 = K11 ++ [2] := ⟨_, rfl⟩
                  have hnK12 : K12.length = K11.length + 1 := by rw [hK12]; rw [List.length_append]; rfl
                  rw [← hK12] at hob
                  refine W.eq (g2 := F0 m 128 ls []) rfl ?_
                  refine lv_aload_n hx hb dd_Mo_make_128 rfl (lv_at hl 1 rfl) ?_
                  refine lv_bipush (v := nI 7) hx hb dd_Mo_make_129 (by decide) ?_
                  refine mw_V (As := [.int (nI 7)]) (rest := []) E (cc_Mo_out l D z (M1) mm ra V V33 A A33 S K12 (7) hR hob (by omega)) ky_Mo_out kv_Mo_out tw_Mo_268 hM hS hR.m rfl rfl rfl hl.1 rfl (Nat.le_of_ble_eq_true rfl) dd_Mo_make_131 (by first | decide | exact ⟨by dsimp only; omega, by dsimp only; omega⟩) (by decide) (fun v M1 H locs hp hM hS => ?_)
                  obtain ⟨rfl, ⟨V34, A34, hR, hob⟩, hF2⟩ := hp
                  have hF := hF.trans hF2
                  obtain ⟨K13, hK13⟩ : ∃ L9 : List Nat, L9 = K12 ++ [7] := ⟨_, rfl⟩
                  have hnK13 : K13.length = K12.length + 1 := by rw [hK13]; rw [List.length_append]; rfl
                  rw [← hK13] at hob
                  refine W.eq (g2 := F0 m 134 ls []) rfl ?_
                  refine lv_aload_n hx hb dd_Mo_make_134 rfl (lv_at hl 1 rfl) ?_
                  refine lv_sipush (v := nI 128) hx hb dd_Mo_make_135 (by decide) ?_
                  refine mw_V (As := [.int (nI 128)]) (rest := []) E (cc_Mo_out l D z (M1) mm ra V V34 A A34 S K13 (128) hR hob (by omega)) ky_Mo_out kv_Mo_out tw_Mo_268 hM hS hR.m rfl rfl rfl hl.1 rfl (Nat.le_of_ble_eq_true rfl) dd_Mo_make_138 (by first | decide | exact ⟨by dsimp only; omega, by dsimp only; omega⟩) (by decide) (fun v M1 H locs hp hM hS => ?_)
                  obtain ⟨rfl, ⟨V35, A35, hR, hob⟩, hF2⟩ := hp
                  have hF := hF.trans hF2
                  obtain ⟨K14, hK14⟩ : ∃ L9 : List Nat, L9 = K13 ++ [128] := ⟨_, rfl⟩
                  have hnK14 : K14.length = K13.length + 1 := by rw [hK14]; rw [List.length_append]; rfl
                  rw [← hK14] at hob
                  refine W.eq (g2 := F0 m 141 ls []) rfl ?_
                  refine lv_aload_n hx hb dd_Mo_make_141 rfl (lv_at hl 1 rfl) ?_
                  refine gf_Mo_105 E hM hR.m ((mo_at (by decide)).trans (congrArg some (mq_va rfl))) dd_Mo_make_142 ?_
                  have w49 : M1 (ra 49) = some (.inl (D.1 100, 100, .inl (A35 49))) := hR.w 49 rfl (by decide)
                  refine lv_iconst (v := nI 3) hx hb dd_Mo_make_145 (by decide) ?_
                  refine lv_aload_n hx hb dd_Mo_make_146 rfl (lv_at hl 1 rfl) ?_
                  refine gf_Mo_263 E hM hR.m ((mo_at (by decide)).trans (congrArg some (mq_vi rfl hob.2.2.1))) dd_Mo_make_147 ?_
                  refine lv_iconst (v := nI 4) hx hb dd_Mo_make_150 (by decide) ?_
                  refine lv_isub hx hb dd_Mo_make_151 ?_
                  refine mw_topi (y := nI (K14.length - 4)) (pk_sub (by omega)) ?_
                  have w49 : M1 (ra 49) = some (.inl (D.1 100, 100, .inl (A35 49))) := hR.w 49 rfl (by decide)
                  refine mw_iast hx hb E.K hM E.zz hS 0 w49 rfl (vp_in_nI (by omega) (by omega)) dd_Mo_make_152 (fun H locs hM hS => ?_)
                  rw [nI_clamp (by omega)] at hM
                  have hM : mw_at D mg_cl z (va_up M1 (ra 49) (some (.inl (D.1 100, 100, .inl ((upd (A35 49) 3 (nI (K14.length - 4)))))))) H := hM
                  obtain ⟨M1, hM1⟩ : ∃ M9 : mw_M, M9 = va_up M1 (ra 49) (some (.inl (D.1 100, 100, .inl ((upd (A35 49) 3 (nI (K14.length - 4))))))) := ⟨_, rfl⟩
                  rw [← hM1] at hM
                  obtain ⟨A36, hA36⟩ : ∃ A9 : Nat → Nat → Int32, A9 = va_up A35 49 (upd (A35 49) 3 (nI (K14.length - 4))) := ⟨_, rfl⟩
                  have hR := hR.setA 49 rfl (by decide) hM1 hA36
                  have hF := mw_fu hM1 hF (mq_Pa (k := 49) rfl)
                  have hEE : K14 = ec_0 q1 q2 q3 q4 (id_tx Ln G i0) := by
                    rw [hK14, hK13, hK12, hK11, hLL, ← hE0]
                    simp only [List.append_assoc, List.cons_append, List.nil_append]
                    rfl
                  have hob : mo_ob V A V35 A36 (K14.set 3 (K14.length - 4)) := ⟨hob.1, fun k9 hk9 => by rw [hA36, va_up_ne _ _ hk9]; exact hob.2.1 k9 hk9, by rw [List.length_set]; exact hob.2.2.1, by rw [hA36, va_up_self]; exact by_set hob.2.2.2.1 3 _, by rw [List.length_set]; exact hob.2.2.2.2⟩
                  rw [hEE] at hob
                  have hl1 : (ec_1 q1 q2 q3 q4 (id_tx Ln G i0)).length = (ec_0 q1 q2 q3 q4 (id_tx Ln G i0)).length := List.length_set
                  obtain ⟨K99, hK99⟩ : ∃ L9 : List Nat, L9 = ec_1 q1 q2 q3 q4 (id_tx Ln G i0) := ⟨_, rfl⟩
                  have hob : mo_ob V A V35 A36 K99 := by rw [hK99]; exact hob
                  have hn99 : K99.length = (ec_0 q1 q2 q3 q4 (id_tx Ln G i0)).length := by rw [hK99]; exact hl1
                  refine lv_lconst (v := lN 1) hx hb dd_Mo_make_153 (by decide) ?_
                  refine lv_lstore_n (lv' := [(3, .long (lN 1)), (0, .ref mm), (1, .int (nI k)), (2, .int (nI i0))]) hx hb dd_Mo_make_154 rfl hl (by decide) rfl (fun ls hl => ?_)
                  refine lv_iconst (v := nI 2) hx hb dd_Mo_make_155 (by decide) ?_
                  refine lv_istore (lv' := [(5, .int (nI 2)), (3, .long (lN 1)), (0, .ref mm), (1, .int (nI k)), (2, .int (nI i0))]) hx hb dd_Mo_make_156 hl (by decide) rfl (fun ls hl => ?_)
                  have loop158 : ∀ (c9 : Nat) (q h0 : Nat) (H : Heap) (locs : List Loc) (ls : Array Slot), 2 ≤ q → q + c9 = K99.length → h0 = by_sm (fun j => K99.getD j 0) 2 (q - 2) → mw_at D mg_cl z M1 H → va_S (mw_A z) s.heap H locs → lv_has ls 6 [(5, .int (nI q)), (3, .long (lN h0)), (0, .ref mm), (1, .int (nI k))] → W p l e ({ frames := 2, cells := 0, slots := 0, locals := 47 } : Room) s m ([.ref mm, .int (nI k)] : List Value).toArray below meth c H locs (0) (0) (MQ below (mw_Q D z (fun v M' => v = none ∧ (∃ V2 A2 S2, mq_R D M' mm ra V2 A2 S2 ∧ mo_ob V A V2 A2 (ec_3 q1 q2 q3 q4 (id_tx Ln G i0)) ∧ (∀ j : Nat, j < 4 → S2 j = 0 ∨ S2 j = lN (sk_s j))) ∧ mw_fr (mq_P mm ra) M M')) ([.ref mm, .int (nI k)] : List Value).toArray s 0 0 (mw_A z)) (F0 m 158 ls []) := by
                    intro c9
                    induction c9 with
                    | zero =>
                      intro q h0 H locs ls hq2 hqn hh0 hM hS hl
                      have hhb : h0 < 1000000007 := by rw [hh0]; exact by_sm_lt _ _ _
                      refine lv_iload hx hb dd_Mo_make_158 (lv_at hl 0 rfl) ?_
                      refine lv_aload_n hx hb dd_Mo_make_160 rfl (lv_at hl 2 rfl) ?_
                      refine gf_Mo_263 E hM hR.m ((mo_at (by decide)).trans (congrArg some (mq_vi rfl hob.2.2.1))) dd_Mo_make_161 ?_
                      refine lv_icmp_ge (tgt := 185) hx hb dd_Mo_make_164 (by decide) (fun h164 => ?_) (fun h164 => ?_)
                      ·
                        rw [nI_leI (by omega) (by omega)] at h164
                        have hsum : h0 = ec_sum K99 := by rw [hh0, show q = K99.length by omega, sm_fold K99 2 _ (by omega), List.take_of_length_le (by rw [List.length_drop]; exact Nat.le_refl _)]; rfl
                        have hmk := sk_lt q2
                        refine lv_aload_n hx hb dd_Mo_make_185 rfl (lv_at hl 2 rfl) ?_
                        refine gf_Mo_96 E hM hR.m ((mo_at (by decide)).trans (congrArg some (mq_va rfl))) dd_Mo_make_186 ?_
                        have w42 : M1 (ra 42) = some (.inl (D.1 100, 60, .inl (A36 42))) := hR.w 42 rfl (by decide)
                        refine lv_iconst (v := nI 5) hx hb dd_Mo_make_189 (by decide) ?_
                        refine lv_iload_n hx hb dd_Mo_make_190 rfl (lv_at hl 3 rfl) ?_
                        refine lv_imul hx hb dd_Mo_make_191 ?_
                        refine mw_topi (y := nI (5 * k)) (pk_mul _ _) ?_
                        refine lv_iconst (v := nI 2) hx hb dd_Mo_make_192 (by decide) ?_
                        refine lv_iadd hx hb dd_Mo_make_193 ?_
                        refine mw_topi (y := nI ((5 * k) + 2)) (nI_add _ _) ?_
                        refine mw_iald hx hb E.K hM 0 w42 rfl (vp_in_nI (by omega) (by omega)) dd_Mo_make_194 ?_
                        refine mw_topi (y := (A36 42) ((5 * k) + 2)) (by rw [nI_clamp (by omega)]) ?_
                        refine mw_topi (y := nI q2) (by rw [hob.2.1 42 (by decide)]; exact hfv.2.2.1) ?_
                        refine lv_istore (lv' := [(5, .int (nI q2)), (3, .long (lN h0)), (0, .ref mm), (1, .int (nI k))]) hx hb dd_Mo_make_195 hl (by decide) rfl (fun ls hl => ?_)
                        refine lv_aload_n hx hb dd_Mo_make_197 rfl (lv_at hl 2 rfl) ?_
                        refine lv_lload_n hx hb dd_Mo_make_198 rfl (lv_at hl 1 rfl) ?_
                        refine lv_aload_n hx hb dd_Mo_make_199 rfl (lv_at hl 2 rfl) ?_
                        refine lv_iload hx hb dd_Mo_make_200 (lv_at hl 0 rfl) ?_
                        refine mw_V (As := [.int (nI q2)]) (rest := [.long (lN h0), .ref mm]) E (cc_Mo_secretOf l D z (M1) mm ra V35 A36 S q2 hR hqb.2.1 hso) ky_Mo_secretOf kv_Mo_secretOf tw_Mo_278 hM hS hR.m rfl rfl rfl hl.1 rfl (Nat.le_of_ble_eq_true rfl) dd_Mo_make_202 (by first | decide | exact ⟨by dsimp only; omega, by dsimp only; omega⟩) (by decide) (fun v M1 H locs hp hM hS => ?_)
                        obtain ⟨rfl, ⟨S8, hR, hso8⟩, hF2⟩ := hp
                        have hF := hF.trans hF2
                        refine W.eq (g2 := F0 m 205 ls [.long (lN (sk_s q2)), .long (lN h0), .ref mm]) rfl ?_
                        refine lv_iload hx hb dd_Mo_make_205 (lv_at hl 0 rfl) ?_
                        refine mw_S (As := [.int (nI q2)]) (rest := [.long (lN (sk_s q2)), .long (lN h0), .ref mm]) E (cc_Mo_modulus l D z (M1) q2 hqb.2.1) ky_Mo_modulus kv_Mo_modulus tw_Mo_252 hM hS rfl hl.1 rfl (Nat.le_of_ble_eq_true rfl) dd_Mo_make_207 (by first | decide | exact ⟨by dsimp only; omega, by dsimp only; omega⟩) (by decide) (fun v M1 H locs hp hM hS => ?_)
                        obtain ⟨rfl, hq⟩ := hp
                        have hq := hq.symm
                        subst hq
                        refine W.eq (g2 := F0 m 210 ls [.long (lN (sk_m q2)), .long (lN (sk_s q2)), .long (lN h0), .ref mm]) rfl ?_
                        refine mw_S (As := [.long (lN h0), .long (lN (sk_s q2)), .long (lN (sk_m q2))]) (rest := [.ref mm]) E (cc_Mo_power l D z (M1) h0 (sk_s q2) (sk_m q2) (by omega) (by have := (sk_at q2).2.2.2.1; omega) (by omega) (by omega)) ky_Mo_power kv_Mo_power tw_Mo_281 hM hS rfl hl.1 rfl (Nat.le_of_ble_eq_true rfl) dd_Mo_make_210 (by first | decide | exact ⟨by dsimp only; omega, by dsimp only; omega⟩) (by decide) (fun v M1 H locs hp hM hS => ?_)
                        obtain ⟨rfl, hq⟩ := hp
                        have hq := hq.symm
                        subst hq
                        refine W.eq (g2 := F0 m 213 ls [.long (lN (pw_n (sk_m q2) 31 (sk_s q2) (h0 % sk_m q2) 1)), .ref mm]) rfl ?_
                        have hpl := pw_lt (show 1 < sk_m q2 by omega) 31 (sk_s q2) (h0 % sk_m q2) 1 (by omega)
                        refine lv_l2i (v := (lN (pw_n (sk_m q2) 31 (sk_s q2) (h0 % sk_m q2) 1)).toInt32) hx hb dd_Mo_make_213 rfl ?_
                        refine mw_topi (y := nI (pw_n (sk_m q2) 31 (sk_s q2) (h0 % sk_m q2) 1)) (lN_i _) ?_
                        refine mw_V (As := [.int (nI (pw_n (sk_m q2) 31 (sk_s q2) (h0 % sk_m q2) 1))]) (rest := []) E (cc_Mo_outNumber l D z (M1) mm ra V V35 A A36 S8 K99 (pw_n (sk_m q2) 31 (sk_s q2) (h0 % sk_m q2) 1) hR hob (by omega) (by omega)) ky_Mo_outNumber kv_Mo_outNumber tw_Mo_271 hM hS hR.m rfl rfl rfl hl.1 rfl (Nat.le_of_ble_eq_true rfl) dd_Mo_make_214 (by first | decide | exact ⟨by dsimp only; omega, by dsimp only; omega⟩) (by decide) (fun v M1 H locs hp hM hS => ?_)
                        obtain ⟨rfl, ⟨V37, A37, hR, hob⟩, hF2⟩ := hp
                        have hF := hF.trans hF2
                        have hnl := nm_l_len (pw_n (sk_m q2) 31 (sk_s q2) (h0 % sk_m q2) 1)
                        obtain ⟨K15, hK15⟩ : ∃ L9 : List Nat, L9 = K99 ++ nm_l (pw_n (sk_m q2) 31 (sk_s q2) (h0 % sk_m q2) 1) := ⟨_, rfl⟩
                        have hnK15 : K15.length = K99.length + (nm_l (pw_n (sk_m q2) 31 (sk_s q2) (h0 % sk_m q2) 1)).length := by rw [hK15]; rw [List.length_append]
                        rw [← hK15] at hob
                        refine W.eq (g2 := F0 m 217 ls []) rfl ?_
                        refine lv_aload_n hx hb dd_Mo_make_217 rfl (lv_at hl 2 rfl) ?_
                        refine gf_Mo_105 E hM hR.m ((mo_at (by decide)).trans (congrArg some (mq_va rfl))) dd_Mo_make_218 ?_
                        have w49 : M1 (ra 49) = some (.inl (D.1 100, 100, .inl (A37 49))) := hR.w 49 rfl (by decide)
                        refine lv_iconst (v := nI 1) hx hb dd_Mo_make_221 (by decide) ?_
                        refine lv_aload_n hx hb dd_Mo_make_222 rfl (lv_at hl 2 rfl) ?_
                        refine gf_Mo_263 E hM hR.m ((mo_at (by decide)).trans (congrArg some (mq_vi rfl hob.2.2.1))) dd_Mo_make_223 ?_
                        refine lv_iconst (v := nI 2) hx hb dd_Mo_make_226 (by decide) ?_
                        refine lv_isub hx hb dd_Mo_make_227 ?_
                        refine mw_topi (y := nI (K15.length - 2)) (pk_sub (by omega)) ?_
                        have w49 : M1 (ra 49) = some (.inl (D.1 100, 100, .inl (A37 49))) := hR.w 49 rfl (by decide)
                        refine mw_iast hx hb E.K hM E.zz hS 0 w49 rfl (vp_in_nI (by omega) (by omega)) dd_Mo_make_228 (fun H locs hM hS => ?_)
                        rw [nI_clamp (by omega)] at hM
                        have hM : mw_at D mg_cl z (va_up M1 (ra 49) (some (.inl (D.1 100, 100, .inl ((upd (A37 49) 1 (nI (K15.length - 2)))))))) H := hM
                        obtain ⟨M1, hM1⟩ : ∃ M9 : mw_M, M9 = va_up M1 (ra 49) (some (.inl (D.1 100, 100, .inl ((upd (A37 49) 1 (nI (K15.length - 2))))))) := ⟨_, rfl⟩
                        rw [← hM1] at hM
                        obtain ⟨A38, hA38⟩ : ∃ A9 : Nat → Nat → Int32, A9 = va_up A37 49 (upd (A37 49) 1 (nI (K15.length - 2))) := ⟨_, rfl⟩
                        have hR := hR.setA 49 rfl (by decide) hM1 hA38
                        have hF := mw_fu hM1 hF (mq_Pa (k := 49) rfl)
                        have hob : mo_ob V A V37 A38 (K15.set 1 (K15.length - 2)) := ⟨hob.1, fun k9 hk9 => by rw [hA38, va_up_ne _ _ hk9]; exact hob.2.1 k9 hk9, by rw [List.length_set]; exact hob.2.2.1, by rw [hA38, va_up_self]; exact by_set hob.2.2.2.1 1 _, by rw [List.length_set]; exact hob.2.2.2.2⟩
                        refine mr_v E hr hk hM hS (by decide) (by decide) ?_ dd_Mo_make_229
                        have hE2 : K15 = ec_2 q1 q2 q3 q4 (id_tx Ln G i0) := by rw [hK15, hsum, hK99]; rfl
                        rw [hE2] at hob
                        exact ⟨rfl, ⟨_, _, S8, hR, hob, hso8⟩, hF⟩
                      ·
                        rw [nI_leI (by omega) (by omega)] at h164
                        omega
                    | succ c9 ih5 =>
                      intro q h0 H locs ls hq2 hqn hh0 hM hS hl
                      have hhb : h0 < 1000000007 := by rw [hh0]; exact by_sm_lt _ _ _
                      refine lv_iload hx hb dd_Mo_make_158 (lv_at hl 0 rfl) ?_
                      refine lv_aload_n hx hb dd_Mo_make_160 rfl (lv_at hl 2 rfl) ?_
                      refine gf_Mo_263 E hM hR.m ((mo_at (by decide)).trans (congrArg some (mq_vi rfl hob.2.2.1))) dd_Mo_make_161 ?_
                      refine lv_icmp_ge (tgt := 185) hx hb dd_Mo_make_164 (by decide) (fun h164 => ?_) (fun h164 => ?_)
                      ·
                        rw [nI_leI (by omega) (by omega)] at h164
                        omega
                      ·
                        rw [nI_leI (by omega) (by omega)] at h164
                        refine lv_lload_n hx hb dd_Mo_make_167 rfl (lv_at hl 1 rfl) ?_
                        refine lv_aload_n hx hb dd_Mo_make_168 rfl (lv_at hl 2 rfl) ?_
                        refine gf_Mo_105 E hM hR.m ((mo_at (by decide)).trans (congrArg some (mq_va rfl))) dd_Mo_make_169 ?_
                        have w49 : M1 (ra 49) = some (.inl (D.1 100, 100, .inl (A36 49))) := hR.w 49 rfl (by decide)
                        refine lv_iload hx hb dd_Mo_make_172 (lv_at hl 0 rfl) ?_
                        refine mw_iald hx hb E.K hM 0 w49 rfl (vp_in_nI (by omega) (by omega)) dd_Mo_make_174 ?_
                        refine mw_topi (y := (A36 49) q) (by rw [nI_clamp (by omega)]) ?_
                        refine mw_topi (y := nI (K99.getD q 0)) (hob.2.2.2.1 q _ (es_gd (by omega))) ?_
                        have hall9 : ∀ c : Nat, c ∈ K99 → c < 256 := by rw [hK99]; exact ec_1_lt (id_tx_lt o4) (by omega)
                        have hb256 := hall9 _ (List.mem_of_getElem? (es_gd (show q < K99.length by omega)))
                        refine mw_S (As := [.long (lN h0), .int (nI (K99.getD q 0))]) (rest := []) E (cc_Mo_mix l D z (M1) h0 (K99.getD q 0) hhb hb256) ky_Mo_mix kv_Mo_mix tw_Mo_274 hM hS rfl hl.1 rfl (Nat.le_of_ble_eq_true rfl) dd_Mo_make_175 (by first | decide | exact ⟨by dsimp only; omega, by dsimp only; omega⟩) (by decide) (fun v M1 H locs hp hM hS => ?_)
                        obtain ⟨rfl, hq⟩ := hp
                        have hq := hq.symm
                        subst hq
                        refine W.eq (g2 := F0 m 178 ls [.long (lN ((h0 * 257 + K99.getD q 0 + 1) % 1000000007))]) rfl ?_
                        refine lv_lstore_n (lv' := [(3, .long (lN ((h0 * 257 + K99.getD q 0 + 1) % 1000000007))), (5, .int (nI q)), (0, .ref mm), (1, .int (nI k))]) hx hb dd_Mo_make_178 rfl hl (by decide) rfl (fun ls hl => ?_)
                        refine lv_iinc (k := 1) (v := nI (q + 1)) (lv' := [(5, .int (nI (q + 1))), (3, .long (lN ((h0 * 257 + K99.getD q 0 + 1) % 1000000007))), (0, .ref mm), (1, .int (nI k))]) hx hb dd_Mo_make_179 hl rfl (nI_1 _) (by decide) rfl (fun ls hl => ?_)
                        refine lv_goto (tgt := 158) hx hb dd_Mo_make_182 (by decide) ?_
                        exact ih5 (q + 1) _ H locs ls (by omega) (by omega) (by rw [show q + 1 - 2 = (q - 2) + 1 by omega]; show _ = (by_sm (fun j => K99.getD j 0) 2 (q - 2) * 257 + K99.getD (2 + (q - 2)) 0 + 1) % 1000000007; rw [← hh0, show 2 + (q - 2) = q by omega]) hM hS (lv_sub hl [0, 1, 2, 3] rfl)
                  exact loop158 (K99.length - 2) 2 1 H locs ls (by omega) (by omega) rfl hM hS (lv_sub hl [0, 1, 2, 3] rfl)
                ·
                  rw [nI_leI (by omega) (by omega)] at h94
                  omega
              | succ d9 ih =>
                intro p0 L1 V3 A3 M3 H locs ls hp0 hLL hR hob hF hM hS hl
                have hll : L1.length = K10.length + p0 := by rw [hLL, List.length_append, List.length_map, List.length_range]
                refine lv_iload_n hx hb dd_Mo_make_87 rfl (lv_at hl 0 rfl) ?_
                refine lv_aload_n hx hb dd_Mo_make_88 rfl (lv_at hl 1 rfl) ?_
                refine gf_Mo_16 E hM hR.m ((mo_at (by decide)).trans (congrArg some (mq_va rfl))) dd_Mo_make_89 ?_
                have w6 : M3 (ra 6) = some (.inl (D.1 100, 12, .inl (A3 6))) := hR.w 6 rfl (by decide)
                refine lv_iload_n hx hb dd_Mo_make_92 rfl (lv_at hl 3 rfl) ?_
                refine mw_iald hx hb E.K hM 0 w6 rfl (vp_in_nI (by omega) (by omega)) dd_Mo_make_93 ?_
                refine mw_topi (y := (A3 6) i0) (by rw [nI_clamp (by omega)]) ?_
                refine mw_topi (y := nI (Ln i0)) (by rw [hob.2.1 6 (by decide)]; exact j1) ?_
                refine lv_icmp_ge (tgt := 118) hx hb dd_Mo_make_94 (by decide) (fun h94 => ?_) (fun h94 => ?_)
                ·
                  rw [nI_leI (by omega) (by omega)] at h94
                  omega
                ·
                  rw [nI_leI (by omega) (by omega)] at h94
                  refine lv_aload_n hx hb dd_Mo_make_97 rfl (lv_at hl 1 rfl) ?_
                  refine lv_aload_n hx hb dd_Mo_make_98 rfl (lv_at hl 1 rfl) ?_
                  refine gf_Mo_13 E hM hR.m ((mo_at (by decide)).trans (congrArg some (mq_va rfl))) dd_Mo_make_99 ?_
                  have w5 : M3 (ra 5) = some (.inl (D.1 100, 480, .inl (A3 5))) := hR.w 5 rfl (by decide)
                  refine lv_bipush (v := nI 40) hx hb dd_Mo_make_102 (by decide) ?_
                  refine lv_iload_n hx hb dd_Mo_make_104 rfl (lv_at hl 3 rfl) ?_
                  refine lv_imul hx hb dd_Mo_make_105 ?_
                  refine mw_topi (y := nI (40 * i0)) (pk_mul _ _) ?_
                  refine lv_iload_n hx hb dd_Mo_make_106 rfl (lv_at hl 0 rfl) ?_
                  refine lv_iadd hx hb dd_Mo_make_107 ?_
                  refine mw_topi (y := nI ((40 * i0) + p0)) (nI_add _ _) ?_
                  refine mw_iald hx hb E.K hM 0 w5 rfl (vp_in_nI (by omega) (by omega)) dd_Mo_make_108 ?_
                  refine mw_topi (y := (A3 5) ((40 * i0) + p0)) (by rw [nI_clamp (by omega)]) ?_
                  refine mw_topi (y := nI (G i0 p0)) (by rw [hob.2.1 5 (by decide)]; exact j3 p0 (by omega)) ?_
                  refine mw_V (As := [.int (nI (G i0 p0))]) (rest := []) E (cc_Mo_out l D z (M3) mm ra V V3 A A3 S L1 (G i0 p0) hR hob (by omega)) ky_Mo_out kv_Mo_out tw_Mo_268 hM hS hR.m rfl rfl rfl hl.1 rfl (Nat.le_of_ble_eq_true rfl) dd_Mo_make_109 (by first | decide | exact ⟨by dsimp only; omega, by dsimp only; omega⟩) (by decide) (fun v M1 H locs hp hM hS => ?_)
                  obtain ⟨rfl, ⟨V39, A39, hR, hob⟩, hF2⟩ := hp
                  have hF := hF.trans hF2
                  obtain ⟨K16, hK16⟩ : ∃ L9 : List Nat, L9 = L1 ++ [G i0 p0] := ⟨_, rfl⟩
                  have hnK16 : K16.length = L1.length + 1 := by rw [hK16]; rw [List.length_append]; rfl
                  rw [← hK16] at hob
                  refine W.eq (g2 := F0 m 112 ls []) rfl ?_
                  refine lv_iinc (k := 0) (v := nI (p0 + 1)) (lv' := [(3, .int (nI (p0 + 1))), (0, .ref mm), (1, .int (nI k)), (2, .int (nI i0))]) hx hb dd_Mo_make_112 hl rfl (nI_1 _) (by decide) rfl (fun ls hl => ?_)
                  refine lv_goto (tgt := 87) hx hb dd_Mo_make_115 (by decide) ?_
                  exact ih (p0 + 1) _ _ _ M1 H locs ls (by omega) (by rw [hK16, hLL, List.range_succ, List.map_append, List.append_assoc]; rfl) hR hob hF hM hS (lv_sub hl [0, 1, 2, 3] rfl)
            exact loop87 (Ln i0) 0 K10 _ _ M1 H locs ls (by omega) (List.append_nil _).symm hR hob hF hM hS (lv_sub hl [0, 2, 3, 1] rfl)
          ·
            rw [nI_leI (by omega) (by omega)] at h45
            omega
