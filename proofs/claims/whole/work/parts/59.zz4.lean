/-! the reference: an ID read -/
theorem id_E2 {g : Nat → Nat} {k : Nat} (hb : ∀ j : Nat, j < k → g j < 256) (p : Nat) : id_E g k p = ((ti g k 134 134 p).or (ti g k 0 255 (p + 1))).or (if g (p + 1) ≤ k - (p + 2) then (ie_err g (p + 2) (g (p + 1))).map (fun e => p + 2 + e) else some (p + 1)) := by
  rw [ti_te, ti_ta hb, Option.or_assoc]
  unfold id_E ta
  by_cases h : p + 1 < k
  · rw [if_pos h, Option.none_or]
    by_cases h2 : g (p + 1) ≤ k - (p + 2)
    · rw [if_pos ⟨h, h2⟩, if_pos h2]
    · rw [if_neg (fun q => h2 q.2), if_neg h2]
  · rw [if_neg h, if_neg (fun q => h q.1)]
    rfl
theorem nI_2m (a : Nat) : nI (a + 1) + (-1) = nI a := by
  rw [← nI_add, Int32.add_assoc, show nI 1 + (-1) = (0 : Int32) by decide, Int32.add_zero]
set_option maxHeartbeats 4000000 in
set_option maxRecDepth 100000 in
theorem cc_Mo_inId (l : Launch) (D : va_G) (z : Nat) (M : mw_M) (mm : Nat) (ra : Nat → Nat) (V : Nat → Int32) (A : Nat → Nat → Int32) (S : Nat → Int64) (k : Nat) (g : Nat → Nat) (pl : Nat) (eo : Option Nat) (hR : mq_R D M mm ra V A S) (hk0 : k ≤ 100) (hg : ∀ j : Nat, j < k → A 2 j = nI (g j) ∧ g j < 256) (hv3 : V 3 = nI k) (hv50 : V 50 = nI pl) (hv51 : V 51 = eN eo) (heo : ∀ q : Nat, eo = some q → q < 2 ^ 20) (hpl : pl < 2 ^ 18) (hpk0 : eo = none → pl ≤ k) : mw_C l yy_Mo_inId bb_Mo_inId 3 (Option.none : Option Jvm.ClassFile.FieldType) 4 89 0 0 D z M [.ref mm] (fun v M' => (∃ (V2 : Nat → Int32) (pl' : Nat), v = none ∧ mq_R D M' mm ra V2 A S ∧ V2 3 = nI k ∧ V2 50 = nI pl' ∧ V2 51 = eN (eo.or (id_E g k pl)) ∧ rv_s V V2 ∧ (4 ≤ pl → 4 ≤ pl') ∧ pl' ≤ pl + 300 ∧ (eo.or (id_E g k pl) = none → pl' = np g pl ∧ pl' ≤ k)) ∧ mw_fr (mq_P mm ra) M M') := by
  refine mw_of (by decide) (Nat.le_of_ble_eq_true rfl) ?_
  intro p e s m below meth c ls E hr hk hnm hM hl
  have hx := E.x
  have hb := E.b
  have E : mw_E p m c bb_Mo_inId 3 s _ D z "IdentityIssuerModel" := E
  have hl : lv_has ls 3 [(0, .ref mm)] := hl
  have hS : va_S (mw_A z) s.heap s.heap [] := va_S.rf
  have hF : mw_fr (mq_P mm ra) M M := mw_fr.rf
  have hrv : rv_s V V := fun _ _ _ _ => rfl
  have hbb : ∀ j : Nat, j < k → g j < 256 := fun j q => (hg j q).2
  refine lv_aload_n hx hb dd_Mo_inId_0 rfl (lv_at hl 0 rfl) ?_
  refine lv_sipush (v := nI 134) hx hb dd_Mo_inId_1 (by decide) ?_
  refine lv_sipush (v := nI 134) hx hb dd_Mo_inId_4 (by decide) ?_
  refine mw_V (As := [.int (nI 134), .int (nI 134)]) (rest := []) E (cc_Mo_in l D z (M) mm ra V A S k g (pl) eo 134 134 hR hk0 hg hv3 hv50 hv51 heo (by omega) hpk0 (by omega) (by omega)) ky_Mo_in kv_Mo_in tw_Mo_297 hM hS hR.m rfl rfl rfl hl.1 rfl (Nat.le_of_ble_eq_true rfl) dd_Mo_inId_7 (by first | decide | exact ⟨by dsimp only; omega, by dsimp only; omega⟩) (by decide) (fun v M1 H locs hp hM hS => ?_)
  obtain ⟨rfl, ⟨V21, hR, hv3, hv50, hv51, hr2⟩, hF2⟩ := hp
  have hF := hF.trans hF2
  have hrv := rv_t hrv hr2
  obtain ⟨eo1, heo1⟩ : ∃ o9 : Option Nat, o9 = eo.or (ti g k 134 134 (pl)) := ⟨_, rfl⟩
  rw [← heo1] at hv51
  have hleo1 : ∀ q : Nat, eo1 = some q → q < 2 ^ 20 := by rw [heo1]; exact eN_or heo (ti_lt (by omega))
  have hkeo1 : eo1 = none → pl + 1 ≤ k := fun q => (ti_N (or_6 heo1 q).2).1
  refine W.eq (g2 := F0 m 10 ls [.int (if pl < k then nI (g (pl)) else -1)]) rfl ?_
  refine lv_pop hx hb dd_Mo_inId_10 rfl ?_
  refine lv_aload_n hx hb dd_Mo_inId_11 rfl (lv_at hl 0 rfl) ?_
  refine lv_iconst (v := nI 0) hx hb dd_Mo_inId_12 (by decide) ?_
  refine lv_sipush (v := nI 255) hx hb dd_Mo_inId_13 (by decide) ?_
  refine mw_V (As := [.int (nI 0), .int (nI 255)]) (rest := []) E (cc_Mo_in l D z (M1) mm ra V21 A S k g (pl + 1) eo1 0 255 hR hk0 hg hv3 hv50 hv51 hleo1 (by omega) hkeo1 (by omega) (by omega)) ky_Mo_in kv_Mo_in tw_Mo_297 hM hS hR.m rfl rfl rfl hl.1 rfl (Nat.le_of_ble_eq_true rfl) dd_Mo_inId_16 (by first | decide | exact ⟨by dsimp only; omega, by dsimp only; omega⟩) (by decide) (fun v M1 H locs hp hM hS => ?_)
  obtain ⟨rfl, ⟨V22, hR, hv3, hv50, hv51, hr2⟩, hF2⟩ := hp
  have hF := hF.trans hF2
  have hrv := rv_t hrv hr2
  obtain ⟨eo2, heo2⟩ : ∃ o9 : Option Nat, o9 = eo1.or (ti g k 0 255 (pl + 1)) := ⟨_, rfl⟩
  rw [← heo2] at hv51
  have hleo2 : ∀ q : Nat, eo2 = some q → q < 2 ^ 20 := by rw [heo2]; exact eN_or hleo1 (ti_lt (by omega))
  have hkeo2 : eo2 = none → pl + 1 + 1 ≤ k := fun q => (ti_N (or_6 heo2 q).2).1
  refine W.eq (g2 := F0 m 19 ls [.int (if pl + 1 < k then nI (g (pl + 1)) else -1)]) rfl ?_
  have hE2 : eo.or (id_E g k pl) = eo2.or (if g (pl + 1) ≤ k - (pl + 2) then (ie_err g (pl + 2) (g (pl + 1))).map (fun e => pl + 2 + e) else some (pl + 1)) := by rw [id_E2 hbb, ← Option.or_assoc, ← Option.or_assoc, ← heo1, ← heo2]
  cases he2 : eo2 with
  | some q9 =>
    rw [he2] at hE2 hv51 hleo2
    have hl9 := hleo2 q9 rfl
    have hE3 : eo.or (id_E g k pl) = some q9 := hE2
    by_cases hpk : pl + 1 < k
    ·
      have hv51 : V22 51 = nI q9 := hv51
      have hg9 := hbb _ hpk
      refine mw_topi (y := nI (g (pl + 1))) (if_pos hpk) ?_
      refine lv_istore_n (lv' := [(1, .int (nI (g (pl + 1)))), (0, .ref mm)]) hx hb dd_Mo_inId_19 rfl hl (by decide) rfl (fun ls hl => ?_)
      refine lv_aload_n hx hb dd_Mo_inId_20 rfl (lv_at hl 1 rfl) ?_
      refine gf_Mo_288 E hM hR.m ((mo_at (by decide)).trans (congrArg some (mq_vi rfl hv51))) dd_Mo_inId_21 ?_
      refine lv_if_ge (tgt := 50) hx hb dd_Mo_inId_24 (by decide) (fun h24 => ?_) (fun h24 => ?_)
      ·
        refine lv_aload_n hx hb dd_Mo_inId_50 rfl (lv_at hl 1 rfl) ?_
        refine gf_Mo_288 E hM hR.m ((mo_at (by decide)).trans (congrArg some (mq_vi rfl hv51))) dd_Mo_inId_51 ?_
        refine lv_if_ge (tgt := 69) hx hb dd_Mo_inId_54 (by decide) (fun h54 => ?_) (fun h54 => ?_)
        ·
          refine lv_iconst (v := -1) hx hb dd_Mo_inId_69 (by decide) ?_
          refine lv_istore_n (lv' := [(2, .int (-1)), (1, .int (nI (g (pl + 1)))), (0, .ref mm)]) hx hb dd_Mo_inId_70 rfl hl (by decide) rfl (fun ls hl => ?_)
          refine lv_iload_n hx hb dd_Mo_inId_71 rfl (lv_at hl 0 rfl) ?_
          refine lv_if_lt (tgt := 85) hx hb dd_Mo_inId_72 (by decide) (fun h72 => ?_) (fun h72 => ?_)
          ·
            refine lv_aload_n hx hb dd_Mo_inId_85 rfl (lv_at hl 2 rfl) ?_
            refine lv_dup hx hb dd_Mo_inId_86 rfl ?_
            refine gf_Mo_291 E hM hR.m ((mo_at (by decide)).trans (congrArg some (mq_vi rfl hv50))) dd_Mo_inId_87 ?_
            refine lv_iload_n hx hb dd_Mo_inId_90 rfl (lv_at hl 1 rfl) ?_
            refine lv_iadd hx hb dd_Mo_inId_91 ?_
            refine mw_topi (y := nI ((pl + 1 + 1) + (g (pl + 1)))) (nI_add _ _) ?_
            refine pf_Mo_291 E hM hS hR.m (by rw [mo_len]; decide) dd_Mo_inId_92 (fun H locs hM hS => ?_)
            rw [mo_set (by decide), mq_vu rfl] at hM
            obtain ⟨V23, hV23⟩ : ∃ V9 : Nat → Int32, V9 = va_up V22 50 (nI ((pl + 1 + 1) + (g (pl + 1)))) := ⟨_, rfl⟩
            rw [← hV23] at hM
            obtain ⟨M1, hM1⟩ : ∃ M9 : mw_M, M9 = va_up M1 mm (some (.inr (13, mo_l (mq_v ra V23)))) := ⟨_, rfl⟩
            rw [← hM1] at hM
            have hR := hR.setV hM1
            have hF := mw_fu hM1 hF (Or.inl rfl)
            have hv3 := mq_vn hV23 hv3 (by decide)
            have hv51 := mq_vn hV23 hv51 (by decide)
            have hv50 := mq_vs hV23
            refine mr_v E hr hk hM hS (by decide) (by decide) ?_ dd_Mo_inId_95
            have hrv9 : rv_s V V23 := fun j a b c9 => by have h9 := hrv j a b c9; rw [hV23, va_up_ne _ _ a, h9]
            exact ⟨⟨_, (pl + 1 + 1) + (g (pl + 1)), rfl, hR, hv3, hv50, by rw [hE3]; exact hv51, hrv9, by omega, by omega, fun q => by rw [hE3] at q; cases q⟩, hF⟩
          ·
            exact absurd (by decide) h72
        ·
          exact absurd (nI_z0 (by omega)) h54
      ·
        exact absurd (nI_z0 (by omega)) h24
    ·
      have hv51 : V22 51 = nI q9 := hv51
      refine mw_topi (y := -1) (if_neg hpk) ?_
      refine lv_istore_n (lv' := [(1, .int (-1)), (0, .ref mm)]) hx hb dd_Mo_inId_19 rfl hl (by decide) rfl (fun ls hl => ?_)
      refine lv_aload_n hx hb dd_Mo_inId_20 rfl (lv_at hl 1 rfl) ?_
      refine gf_Mo_288 E hM hR.m ((mo_at (by decide)).trans (congrArg some (mq_vi rfl hv51))) dd_Mo_inId_21 ?_
      refine lv_if_ge (tgt := 50) hx hb dd_Mo_inId_24 (by decide) (fun h24 => ?_) (fun h24 => ?_)
      ·
        refine lv_aload_n hx hb dd_Mo_inId_50 rfl (lv_at hl 1 rfl) ?_
        refine gf_Mo_288 E hM hR.m ((mo_at (by decide)).trans (congrArg some (mq_vi rfl hv51))) dd_Mo_inId_51 ?_
        refine lv_if_ge (tgt := 69) hx hb dd_Mo_inId_54 (by decide) (fun h54 => ?_) (fun h54 => ?_)
        ·
          refine lv_iconst (v := -1) hx hb dd_Mo_inId_69 (by decide) ?_
          refine lv_istore_n (lv' := [(2, .int (-1)), (1, .int (-1)), (0, .ref mm)]) hx hb dd_Mo_inId_70 rfl hl (by decide) rfl (fun ls hl => ?_)
          refine lv_iload_n hx hb dd_Mo_inId_71 rfl (lv_at hl 0 rfl) ?_
          refine lv_if_lt (tgt := 85) hx hb dd_Mo_inId_72 (by decide) (fun h72 => ?_) (fun h72 => ?_)
          ·
            refine lv_aload_n hx hb dd_Mo_inId_85 rfl (lv_at hl 2 rfl) ?_
            refine lv_dup hx hb dd_Mo_inId_86 rfl ?_
            refine gf_Mo_291 E hM hR.m ((mo_at (by decide)).trans (congrArg some (mq_vi rfl hv50))) dd_Mo_inId_87 ?_
            refine lv_iload_n hx hb dd_Mo_inId_90 rfl (lv_at hl 1 rfl) ?_
            refine lv_iadd hx hb dd_Mo_inId_91 ?_
            refine pf_Mo_291 E hM hS hR.m (by rw [mo_len]; decide) dd_Mo_inId_92 (fun H locs hM hS => ?_)
            rw [mo_set (by decide), mq_vu rfl] at hM
            obtain ⟨V24, hV24⟩ : ∃ V9 : Nat → Int32, V9 = va_up V22 50 ((nI (pl + 1 + 1)) + (-1)) := ⟨_, rfl⟩
            rw [← hV24] at hM
            obtain ⟨M1, hM1⟩ : ∃ M9 : mw_M, M9 = va_up M1 mm (some (.inr (13, mo_l (mq_v ra V24)))) := ⟨_, rfl⟩
            rw [← hM1] at hM
            have hR := hR.setV hM1
            have hF := mw_fu hM1 hF (Or.inl rfl)
            have hv3 := mq_vn hV24 hv3 (by decide)
            have hv51 := mq_vn hV24 hv51 (by decide)
            have hv50 := mq_vs hV24
            refine mr_v E hr hk hM hS (by decide) (by decide) ?_ dd_Mo_inId_95
            have hrv9 : rv_s V V24 := fun j a b c9 => by have h9 := hrv j a b c9; rw [hV24, va_up_ne _ _ a, h9]
            exact ⟨⟨_, pl + 1, rfl, hR, hv3, (by rw [hv50]; exact nI_2m (pl + 1)), by rw [hE3]; exact hv51, hrv9, by omega, by omega, fun q => by rw [hE3] at q; cases q⟩, hF⟩
          ·
            exact absurd (by decide) h72
        ·
          exact absurd (nI_z0 (by omega)) h54
      ·
        exact absurd (nI_z0 (by omega)) h24
  | none =>
    rw [he2, Option.none_or] at hE2
    rw [he2] at hv51
    have hc1 := ti_N (or_6 heo2 he2).2
    have hg9 := hbb _ hc1.1
    have hv51 : V22 51 = -1 := hv51
    refine mw_topi (y := nI (g (pl + 1))) (if_pos hc1.1) ?_
    refine lv_istore_n (lv' := [(1, .int (nI (g (pl + 1)))), (0, .ref mm)]) hx hb dd_Mo_inId_19 rfl hl (by decide) rfl (fun ls hl => ?_)
    refine lv_aload_n hx hb dd_Mo_inId_20 rfl (lv_at hl 1 rfl) ?_
    refine gf_Mo_288 E hM hR.m ((mo_at (by decide)).trans (congrArg some (mq_vi rfl hv51))) dd_Mo_inId_21 ?_
    refine lv_if_ge (tgt := 50) hx hb dd_Mo_inId_24 (by decide) (fun h24 => ?_) (fun h24 => ?_)
    ·
      exact absurd h24 (by decide)
    ·
      refine lv_iload_n hx hb dd_Mo_inId_27 rfl (lv_at hl 0 rfl) ?_
      refine lv_aload_n hx hb dd_Mo_inId_28 rfl (lv_at hl 1 rfl) ?_
      refine gf_Mo_122 E hM hR.m ((mo_at (by decide)).trans (congrArg some (mq_vi rfl hv3))) dd_Mo_inId_29 ?_
      refine lv_aload_n hx hb dd_Mo_inId_32 rfl (lv_at hl 1 rfl) ?_
      refine gf_Mo_291 E hM hR.m ((mo_at (by decide)).trans (congrArg some (mq_vi rfl hv50))) dd_Mo_inId_33 ?_
      refine lv_isub hx hb dd_Mo_inId_36 ?_
      refine mw_topi (y := nI (k - (pl + 1 + 1))) (pk_sub (by omega)) ?_
      refine lv_icmp_le (tgt := 50) hx hb dd_Mo_inId_37 (by decide) (fun h37 => ?_) (fun h37 => ?_)
      ·
        rw [nI_leI (by omega) (by omega)] at h37
        rw [if_pos (by omega)] at hE2
        refine lv_aload_n hx hb dd_Mo_inId_50 rfl (lv_at hl 1 rfl) ?_
        refine gf_Mo_288 E hM hR.m ((mo_at (by decide)).trans (congrArg some (mq_vi rfl hv51))) dd_Mo_inId_51 ?_
        refine lv_if_ge (tgt := 69) hx hb dd_Mo_inId_54 (by decide) (fun h54 => ?_) (fun h54 => ?_)
        ·
          exact absurd h54 (by decide)
        ·
          refine lv_aload_n hx hb dd_Mo_inId_57 rfl (lv_at hl 1 rfl) ?_
          refine lv_aload_n hx hb dd_Mo_inId_58 rfl (lv_at hl 1 rfl) ?_
          refine gf_Mo_291 E hM hR.m ((mo_at (by decide)).trans (congrArg some (mq_vi rfl hv50))) dd_Mo_inId_59 ?_
          refine lv_iload_n hx hb dd_Mo_inId_62 rfl (lv_at hl 0 rfl) ?_
          refine mw_V (As := [.int (nI (pl + 1 + 1)), .int (nI (g (pl + 1)))]) (rest := []) E (cc_Mo_idError l D z (M1) mm (mq_v ra V22) (ra 2) (A 2) k g (pl + 1 + 1) (g (pl + 1)) hR.m (mq_va rfl) (hR.w 2 rfl (by decide)) hk0 hg (by omega) (Ne.symm (hR.ne 2 rfl)) ⟨V22 8, mq_vi rfl rfl⟩) ky_Mo_idError kv_Mo_idError tw_Mo_147 hM hS hR.m rfl rfl rfl hl.1 rfl (Nat.le_of_ble_eq_true rfl) dd_Mo_inId_63 (by first | decide | exact ⟨by dsimp only; omega, by dsimp only; omega⟩) (by decide) (fun v M1 H locs hp hM hS => ?_)
          obtain ⟨rfl, ⟨G9, hm9, hg9, ⟨x8, h88⟩, h89⟩, hF9⟩ := hp
          have hR := hR.of8 hF9 hm9 hg9 h88
          have hF := hF.trans (hF9.mono (fun q h => Or.inl h))
          obtain ⟨V8, hV8⟩ : ∃ V9 : Nat → Int32, V9 = va_up V22 8 x8 := ⟨_, rfl⟩
          rw [← hV8] at hR
          have hrv : rv_s V V8 := fun j a b c9 => by rw [hV8, va_up_ne _ _ c9]; exact hrv j a b c9
          have hv3 := mq_vn hV8 hv3 (by decide)
          have hv50 := mq_vn hV8 hv50 (by decide)
          have hv51 := mq_vn hV8 hv51 (by decide)
          cases hie : ie_err g (pl + 1 + 1) (g (pl + 1)) with
          | none =>
            refine W.eq (g2 := F0 m 66 ls [.int (-1)]) rfl ?_
            have hE3 : eo.or (id_E g k pl) = none := by rw [hE2, show ie_err g (pl + 2) (g (pl + 1)) = _ from hie]; rfl
            refine lv_goto (tgt := 70) hx hb dd_Mo_inId_66 (by decide) ?_
            refine lv_istore_n (lv' := [(2, .int (-1)), (1, .int (nI (g (pl + 1)))), (0, .ref mm)]) hx hb dd_Mo_inId_70 rfl hl (by decide) rfl (fun ls hl => ?_)
            refine lv_iload_n hx hb dd_Mo_inId_71 rfl (lv_at hl 0 rfl) ?_
            refine lv_if_lt (tgt := 85) hx hb dd_Mo_inId_72 (by decide) (fun h72 => ?_) (fun h72 => ?_)
            ·
              refine lv_aload_n hx hb dd_Mo_inId_85 rfl (lv_at hl 2 rfl) ?_
              refine lv_dup hx hb dd_Mo_inId_86 rfl ?_
              refine gf_Mo_291 E hM hR.m ((mo_at (by decide)).trans (congrArg some (mq_vi rfl hv50))) dd_Mo_inId_87 ?_
              refine lv_iload_n hx hb dd_Mo_inId_90 rfl (lv_at hl 1 rfl) ?_
              refine lv_iadd hx hb dd_Mo_inId_91 ?_
              refine mw_topi (y := nI ((pl + 1 + 1) + (g (pl + 1)))) (nI_add _ _) ?_
              refine pf_Mo_291 E hM hS hR.m (by rw [mo_len]; decide) dd_Mo_inId_92 (fun H locs hM hS => ?_)
              rw [mo_set (by decide), mq_vu rfl] at hM
              obtain ⟨V23, hV23⟩ : ∃ V9 : Nat → Int32, V9 = va_up V8 50 (nI ((pl + 1 + 1) + (g (pl + 1)))) := ⟨_, rfl⟩
              rw [← hV23] at hM
              obtain ⟨M1, hM1⟩ : ∃ M9 : mw_M, M9 = va_up M1 mm (some (.inr (13, mo_l (mq_v ra V23)))) := ⟨_, rfl⟩
              rw [← hM1] at hM
              have hR := hR.setV hM1
              have hF := mw_fu hM1 hF (Or.inl rfl)
              have hv3 := mq_vn hV23 hv3 (by decide)
              have hv51 := mq_vn hV23 hv51 (by decide)
              have hv50 := mq_vs hV23
              refine mr_v E hr hk hM hS (by decide) (by decide) ?_ dd_Mo_inId_95
              have hrv9 : rv_s V V23 := fun j a b c9 => by have h9 := hrv j a b c9; rw [hV23, va_up_ne _ _ a, h9]
              exact ⟨⟨_, (pl + 1 + 1) + (g (pl + 1)), rfl, hR, hv3, hv50, by rw [hE3]; exact hv51, hrv9, by omega, by omega, fun _ => ⟨by unfold np; omega, by omega⟩⟩, hF⟩
            ·
              exact absurd (by decide) h72
          | some e9 =>
            refine W.eq (g2 := F0 m 66 ls [.int (nI e9)]) rfl ?_
            have hle9 := ie_err_le hie
            have hE3 : eo.or (id_E g k pl) = some (pl + 2 + e9) := by rw [hE2, show ie_err g (pl + 2) (g (pl + 1)) = _ from hie]; rfl
            refine lv_goto (tgt := 70) hx hb dd_Mo_inId_66 (by decide) ?_
            refine lv_istore_n (lv' := [(2, .int (nI e9)), (1, .int (nI (g (pl + 1)))), (0, .ref mm)]) hx hb dd_Mo_inId_70 rfl hl (by decide) rfl (fun ls hl => ?_)
            refine lv_iload_n hx hb dd_Mo_inId_71 rfl (lv_at hl 0 rfl) ?_
            refine lv_if_lt (tgt := 85) hx hb dd_Mo_inId_72 (by decide) (fun h72 => ?_) (fun h72 => ?_)
            ·
              exact absurd h72 (nI_pos (by omega))
            ·
              refine lv_aload_n hx hb dd_Mo_inId_75 rfl (lv_at hl 2 rfl) ?_
              refine lv_aload_n hx hb dd_Mo_inId_76 rfl (lv_at hl 2 rfl) ?_
              refine gf_Mo_291 E hM hR.m ((mo_at (by decide)).trans (congrArg some (mq_vi rfl hv50))) dd_Mo_inId_77 ?_
              refine lv_iload_n hx hb dd_Mo_inId_80 rfl (lv_at hl 0 rfl) ?_
              refine lv_iadd hx hb dd_Mo_inId_81 ?_
              refine mw_topi (y := nI ((pl + 1 + 1) + e9)) (nI_add _ _) ?_
              refine pf_Mo_288 E hM hS hR.m (by rw [mo_len]; decide) dd_Mo_inId_82 (fun H locs hM hS => ?_)
              rw [mo_set (by decide), mq_vu rfl] at hM
              obtain ⟨V24, hV24⟩ : ∃ V9 : Nat → Int32, V9 = va_up V8 51 (nI ((pl + 1 + 1) + e9)) := ⟨_, rfl⟩
              rw [← hV24] at hM
              obtain ⟨M1, hM1⟩ : ∃ M9 : mw_M, M9 = va_up M1 mm (some (.inr (13, mo_l (mq_v ra V24)))) := ⟨_, rfl⟩
              rw [← hM1] at hM
              have hR := hR.setV hM1
              have hF := mw_fu hM1 hF (Or.inl rfl)
              have hv3 := mq_vn hV24 hv3 (by decide)
              have hv50 := mq_vn hV24 hv50 (by decide)
              have hv51 := mq_vs hV24
              refine lv_aload_n hx hb dd_Mo_inId_85 rfl (lv_at hl 2 rfl) ?_
              refine lv_dup hx hb dd_Mo_inId_86 rfl ?_
              refine gf_Mo_291 E hM hR.m ((mo_at (by decide)).trans (congrArg some (mq_vi rfl hv50))) dd_Mo_inId_87 ?_
              refine lv_iload_n hx hb dd_Mo_inId_90 rfl (lv_at hl 1 rfl) ?_
              refine lv_iadd hx hb dd_Mo_inId_91 ?_
              refine mw_topi (y := nI ((pl + 1 + 1) + (g (pl + 1)))) (nI_add _ _) ?_
              refine pf_Mo_291 E hM hS hR.m (by rw [mo_len]; decide) dd_Mo_inId_92 (fun H locs hM hS => ?_)
              rw [mo_set (by decide), mq_vu rfl] at hM
              obtain ⟨V25, hV25⟩ : ∃ V9 : Nat → Int32, V9 = va_up V24 50 (nI ((pl + 1 + 1) + (g (pl + 1)))) := ⟨_, rfl⟩
              rw [← hV25] at hM
              obtain ⟨M1, hM1⟩ : ∃ M9 : mw_M, M9 = va_up M1 mm (some (.inr (13, mo_l (mq_v ra V25)))) := ⟨_, rfl⟩
              rw [← hM1] at hM
              have hR := hR.setV hM1
              have hF := mw_fu hM1 hF (Or.inl rfl)
              have hv3 := mq_vn hV25 hv3 (by decide)
              have hv51 := mq_vn hV25 hv51 (by decide)
              have hv50 := mq_vs hV25
              refine mr_v E hr hk hM hS (by decide) (by decide) ?_ dd_Mo_inId_95
              have hrv9 : rv_s V V25 := fun j a b c9 => by have h9 := hrv j a b c9; rw [hV25, va_up_ne _ _ a, hV24, va_up_ne _ _ b, h9]
              exact ⟨⟨_, (pl + 1 + 1) + (g (pl + 1)), rfl, hR, hv3, hv50, by rw [hE3]; exact hv51, hrv9, by omega, by omega, fun q => by rw [hE3] at q; cases q⟩, hF⟩
      ·
        rw [nI_leI (by omega) (by omega)] at h37
        refine lv_aload_n hx hb dd_Mo_inId_40 rfl (lv_at hl 1 rfl) ?_
        refine lv_aload_n hx hb dd_Mo_inId_41 rfl (lv_at hl 1 rfl) ?_
        refine gf_Mo_291 E hM hR.m ((mo_at (by decide)).trans (congrArg some (mq_vi rfl hv50))) dd_Mo_inId_42 ?_
        refine lv_iconst (v := nI 1) hx hb dd_Mo_inId_45 (by decide) ?_
        refine lv_isub hx hb dd_Mo_inId_46 ?_
        refine mw_topi (y := nI ((pl + 1 + 1) - 1)) (pk_sub (by omega)) ?_
        have hv51 : V22 51 = eN none := hv51
        rw [if_neg (by omega)] at hE2
        refine mw_V (As := [.int (nI ((pl + 1 + 1) - 1))]) (rest := []) E (cc_Mo_error l D z (M1) mm ra V22 A S k g (pl + 1 + 1) none (pl + 1 + 1 - 1) hR hk0 hg hv3 hv50 hv51 none_lt (by omega) (fun _ => by omega) (fun _ => by omega) (by omega)) ky_Mo_error kv_Mo_error tw_Mo_294 hM hS hR.m rfl rfl rfl hl.1 rfl (Nat.le_of_ble_eq_true rfl) dd_Mo_inId_47 (by first | decide | exact ⟨by dsimp only; omega, by dsimp only; omega⟩) (by decide) (fun v M1 H locs hp hM hS => ?_)
        obtain ⟨rfl, ⟨V26, hR, hv3, hv50, hv51, hr2⟩, hF2⟩ := hp
        have hF := hF.trans hF2
        have hrv := rv_t hrv hr2
        obtain ⟨eo3, heo3⟩ : ∃ o9 : Option Nat, o9 = none.or (some (pl + 1 + 1 - 1)) := ⟨_, rfl⟩
        rw [← heo3] at hv51
        have hleo3 : ∀ q : Nat, eo3 = some q → q < 2 ^ 20 := by rw [heo3]; exact eN_or none_lt (some_lt (by omega))
        refine W.eq (g2 := F0 m 50 ls []) rfl ?_
        rw [heo3] at hv51
        have hE3 : eo.or (id_E g k pl) = some (pl + 1 + 1 - 1) := hE2
        have hv51 : V26 51 = nI (pl + 1 + 1 - 1) := hv51
        refine lv_aload_n hx hb dd_Mo_inId_50 rfl (lv_at hl 1 rfl) ?_
        refine gf_Mo_288 E hM hR.m ((mo_at (by decide)).trans (congrArg some (mq_vi rfl hv51))) dd_Mo_inId_51 ?_
        refine lv_if_ge (tgt := 69) hx hb dd_Mo_inId_54 (by decide) (fun h54 => ?_) (fun h54 => ?_)
        ·
          refine lv_iconst (v := -1) hx hb dd_Mo_inId_69 (by decide) ?_
          refine lv_istore_n (lv' := [(2, .int (-1)), (1, .int (nI (g (pl + 1)))), (0, .ref mm)]) hx hb dd_Mo_inId_70 rfl hl (by decide) rfl (fun ls hl => ?_)
          refine lv_iload_n hx hb dd_Mo_inId_71 rfl (lv_at hl 0 rfl) ?_
          refine lv_if_lt (tgt := 85) hx hb dd_Mo_inId_72 (by decide) (fun h72 => ?_) (fun h72 => ?_)
          ·
            refine lv_aload_n hx hb dd_Mo_inId_85 rfl (lv_at hl 2 rfl) ?_
            refine lv_dup hx hb dd_Mo_inId_86 rfl ?_
            refine gf_Mo_291 E hM hR.m ((mo_at (by decide)).trans (congrArg some (mq_vi rfl hv50))) dd_Mo_inId_87 ?_
            refine lv_iload_n hx hb dd_Mo_inId_90 rfl (lv_at hl 1 rfl) ?_
            refine lv_iadd hx hb dd_Mo_inId_91 ?_
            refine mw_topi (y := nI ((pl + 1 + 1) + (g (pl + 1)))) (nI_add _ _) ?_
            refine pf_Mo_291 E hM hS hR.m (by rw [mo_len]; decide) dd_Mo_inId_92 (fun H locs hM hS => ?_)
            rw [mo_set (by decide), mq_vu rfl] at hM
            obtain ⟨V27, hV27⟩ : ∃ V9 : Nat → Int32, V9 = va_up V26 50 (nI ((pl + 1 + 1) + (g (pl + 1)))) := ⟨_, rfl⟩
            rw [← hV27] at hM
            obtain ⟨M1, hM1⟩ : ∃ M9 : mw_M, M9 = va_up M1 mm (some (.inr (13, mo_l (mq_v ra V27)))) := ⟨_, rfl⟩
            rw [← hM1] at hM
            have hR := hR.setV hM1
            have hF := mw_fu hM1 hF (Or.inl rfl)
            have hv3 := mq_vn hV27 hv3 (by decide)
            have hv51 := mq_vn hV27 hv51 (by decide)
            have hv50 := mq_vs hV27
            refine mr_v E hr hk hM hS (by decide) (by decide) ?_ dd_Mo_inId_95
            have hrv9 : rv_s V V27 := fun j a b c9 => by have h9 := hrv j a b c9; rw [hV27, va_up_ne _ _ a, h9]
            exact ⟨⟨_, (pl + 1 + 1) + (g (pl + 1)), rfl, hR, hv3, hv50, by rw [hE3]; exact hv51, hrv9, by omega, by omega, fun q => by rw [hE3] at q; cases q⟩, hF⟩
          ·
            exact absurd (by decide) h72
        ·
          exact absurd (nI_z0 (by omega)) h54
