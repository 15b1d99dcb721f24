/-! texts of the reference: where one is no ID -/
theorem ie_by_d {g : Nat → Nat} {a n : Nat} (hs : ie_sc g a n 9 0 = none) (h : ie_de g (a + 9) (a + n) = a + 9) : ie_by g a n = 9 := by
  unfold ie_by
  rw [hs]
  exact if_pos h
theorem ie_by_p {g : Nat → Nat} {a n q : Nat} (hs : ie_sc g a n 9 0 = none) (h : ie_de g (a + 9) (a + n) ≠ a + 9) (hp : ie_pe g (a + n) (a + n) (ie_de g (a + 9) (a + n)) = some q) : ie_by g a n = q - a := by
  unfold ie_by
  rw [hs]
  refine (if_neg h).trans ?_
  rw [hp]
theorem ie_by_n {g : Nat → Nat} {a n : Nat} (hs : ie_sc g a n 9 0 = none) (h : ie_de g (a + 9) (a + n) ≠ a + 9) (hp : ie_pe g (a + n) (a + n) (ie_de g (a + 9) (a + n)) = none) : ie_by g a n = n + 1 := by
  unfold ie_by
  rw [hs]
  refine (if_neg h).trans ?_
  rw [hp]
theorem cc_Mo_sign (l : Launch) (D : va_G) (z : Nat) (M : mw_M) (mm : Nat) (F : Nat → Value) (rb : Nat) (f : Nat → Int32) (k : Nat) (g : Nat → Nat) (a n p0 : Nat) (wm : M mm = some (.inr (13, mo_l F))) (hf2 : F 2 = .ref rb) (wb : M rb = some (.inl (D.1 100, 100, .inl f))) (hk0 : k ≤ 100) (hg : ∀ j : Nat, j < k → f j = nI (g j) ∧ g j < 256) (han : a + n ≤ k) (hp0 : p0 < 2 ^ 20) : mw_C l yy_Mo_sign bb_Mo_sign 4 (Option.some Jvm.ClassFile.FieldType.int) 0 0 0 0 D z M [.ref mm, .int (nI a), .int (nI n), .int (nI p0)] (fun v M' => v = some (.int (if p0 < n then nI (g (a + p0)) else -1)) ∧ M' = M) := by
  refine mw_of (by decide) (Nat.le_of_ble_eq_true rfl) ?_
  intro p e s m below meth c ls E hr hk hnm hM hl
  have hx := E.x
  have hb := E.b
  have E : mw_E p m c bb_Mo_sign 4 s _ D z "IdentityIssuerModel" := E
  have hl : lv_has ls 4 [(0, .ref mm), (1, .int (nI a)), (2, .int (nI n)), (3, .int (nI p0))] := hl
  have hS : va_S (mw_A z) s.heap s.heap [] := va_S.rf
  refine lv_iload_n hx hb dd_Mo_sign_0 rfl (lv_at hl 3 rfl) ?_
  refine lv_iload_n hx hb dd_Mo_sign_1 rfl (lv_at hl 2 rfl) ?_
  refine lv_icmp_ge (tgt := 16) hx hb dd_Mo_sign_2 (by decide) (fun h2 => ?_) (fun h2 => ?_)
  ·
    rw [nI_leI (by omega) (by omega)] at h2
    refine lv_iconst (v := -1) hx hb dd_Mo_sign_16 (by decide) ?_
    refine mr_i E hr hk hM hS (by decide) (by decide) ?_ dd_Mo_sign_17
    exact ⟨by rw [if_neg (by omega)], rfl⟩
  ·
    rw [nI_leI (by omega) (by omega)] at h2
    refine lv_aload_n hx hb dd_Mo_sign_5 rfl (lv_at hl 0 rfl) ?_
    refine gf_Mo_7 E hM wm ((mo_at (by decide)).trans (congrArg some hf2)) dd_Mo_sign_6 ?_
    refine lv_iload_n hx hb dd_Mo_sign_9 rfl (lv_at hl 1 rfl) ?_
    refine lv_iload_n hx hb dd_Mo_sign_10 rfl (lv_at hl 3 rfl) ?_
    refine lv_iadd hx hb dd_Mo_sign_11 ?_
    refine mw_topi (y := nI (a + p0)) (nI_add _ _) ?_
    refine mw_iald hx hb E.K hM 0 wb rfl (vp_in_nI (by omega) (by omega)) dd_Mo_sign_12 ?_
    refine mw_topi (y := f (a + p0)) (by rw [nI_clamp (by omega)]) ?_
    refine mw_topi (y := nI (g (a + p0))) ((hg (a + p0) (by omega)).1) ?_
    refine lv_goto (tgt := 17) hx hb dd_Mo_sign_13 (by decide) ?_
    refine mr_i E hr hk hM hS (by decide) (by decide) ?_ dd_Mo_sign_17
    exact ⟨by rw [if_pos (by omega)], rfl⟩
theorem cc_Mo_scheme (l : Launch) (D : va_G) (z : Nat) (M : mw_M) (i : Nat) (hi : i < 9) : mw_C l yy_Mo_scheme bb_Mo_scheme 1 (Option.some Jvm.ClassFile.FieldType.int) 0 0 0 0 D z M [.int (nI i)] (fun v M' => v = some (.int (nI (ie_ch i))) ∧ M' = M) := by
  refine mw_of (by decide) (Nat.le_of_ble_eq_true rfl) ?_
  intro p e s m below meth c ls E hr hk hnm hM hl
  have hx := E.x
  have hb := E.b
  have E : mw_E p m c bb_Mo_scheme 1 s _ D z "IdentityIssuerModel" := E
  have hl : lv_has ls 1 [(0, .int (nI i))] := hl
  have hS : va_S (mw_A z) s.heap s.heap [] := va_S.rf
  refine lv_iload_n hx hb dd_Mo_scheme_0 rfl (lv_at hl 0 rfl) ?_
  refine lv_iconst (v := nI 3) hx hb dd_Mo_scheme_1 (by decide) ?_
  refine lv_icmp_ge (tgt := 29) hx hb dd_Mo_scheme_2 (by decide) (fun h2 => ?_) (fun h2 => ?_)
  ·
    rw [nI_leI (by omega) (by omega)] at h2
    refine lv_iload_n hx hb dd_Mo_scheme_29 rfl (lv_at hl 0 rfl) ?_
    refine lv_iconst (v := nI 5) hx hb dd_Mo_scheme_30 (by decide) ?_
    refine lv_icmp_ge (tgt := 39) hx hb dd_Mo_scheme_31 (by decide) (fun h31 => ?_) (fun h31 => ?_)
    ·
      rw [nI_leI (by omega) (by omega)] at h31
      refine lv_iload_n hx hb dd_Mo_scheme_39 rfl (lv_at hl 0 rfl) ?_
      refine lv_iconst (v := nI 5) hx hb dd_Mo_scheme_40 (by decide) ?_
      refine lv_icmp_ne (tgt := 49) hx hb dd_Mo_scheme_41 (by decide) (fun h41 => ?_) (fun h41 => ?_)
      ·
        rw [nI_eq (by omega) (by omega)] at h41
        refine lv_iload_n hx hb dd_Mo_scheme_49 rfl (lv_at hl 0 rfl) ?_
        refine lv_bipush (v := nI 6) hx hb dd_Mo_scheme_50 (by decide) ?_
        refine lv_icmp_ne (tgt := 60) hx hb dd_Mo_scheme_52 (by decide) (fun h52 => ?_) (fun h52 => ?_)
        ·
          rw [nI_eq (by omega) (by omega)] at h52
          refine lv_bipush (v := nI 47) hx hb dd_Mo_scheme_60 (by decide) ?_
          refine mr_i E hr hk hM hS (by decide) (by decide) ?_ dd_Mo_scheme_62
          have hc : ie_ch i = 47 := by
            rcases (show i = 0 ∨ i = 1 ∨ i = 2 ∨ i = 3 ∨ i = 4 ∨ i = 5 ∨ i = 6 ∨ i = 7 ∨ i = 8 by omega) with rfl | rfl | rfl | rfl | rfl | rfl | rfl | rfl | rfl <;> first | rfl | omega | exact absurd h6 (by decide) | exact absurd (by decide) h6
          exact ⟨by rw [hc], rfl⟩
        ·
          rw [nI_eq (by omega) (by omega)] at h52
          refine lv_bipush (v := nI 58) hx hb dd_Mo_scheme_55 (by decide) ?_
          refine lv_goto (tgt := 62) hx hb dd_Mo_scheme_57 (by decide) ?_
          refine mr_i E hr hk hM hS (by decide) (by decide) ?_ dd_Mo_scheme_62
          have hc : ie_ch i = 58 := by
            rcases (show i = 0 ∨ i = 1 ∨ i = 2 ∨ i = 3 ∨ i = 4 ∨ i = 5 ∨ i = 6 ∨ i = 7 ∨ i = 8 by omega) with rfl | rfl | rfl | rfl | rfl | rfl | rfl | rfl | rfl <;> first | rfl | omega | exact absurd h6 (by decide) | exact absurd (by decide) h6
          exact ⟨by rw [hc], rfl⟩
      ·
        rw [nI_eq (by omega) (by omega)] at h41
        refine lv_bipush (v := nI 101) hx hb dd_Mo_scheme_44 (by decide) ?_
        refine lv_goto (tgt := 62) hx hb dd_Mo_scheme_46 (by decide) ?_
        refine mr_i E hr hk hM hS (by decide) (by decide) ?_ dd_Mo_scheme_62
        have hc : ie_ch i = 101 := by
          rcases (show i = 0 ∨ i = 1 ∨ i = 2 ∨ i = 3 ∨ i = 4 ∨ i = 5 ∨ i = 6 ∨ i = 7 ∨ i = 8 by omega) with rfl | rfl | rfl | rfl | rfl | rfl | rfl | rfl | rfl <;> first | rfl | omega | exact absurd h6 (by decide) | exact absurd (by decide) h6
        exact ⟨by rw [hc], rfl⟩
    ·
      rw [nI_leI (by omega) (by omega)] at h31
      refine lv_bipush (v := nI 102) hx hb dd_Mo_scheme_34 (by decide) ?_
      refine lv_goto (tgt := 62) hx hb dd_Mo_scheme_36 (by decide) ?_
      refine mr_i E hr hk hM hS (by decide) (by decide) ?_ dd_Mo_scheme_62
      have hc : ie_ch i = 102 := by
        rcases (show i = 0 ∨ i = 1 ∨ i = 2 ∨ i = 3 ∨ i = 4 ∨ i = 5 ∨ i = 6 ∨ i = 7 ∨ i = 8 by omega) with rfl | rfl | rfl | rfl | rfl | rfl | rfl | rfl | rfl <;> first | rfl | omega | exact absurd h6 (by decide) | exact absurd (by decide) h6
      exact ⟨by rw [hc], rfl⟩
  ·
    rw [nI_leI (by omega) (by omega)] at h2
    refine lv_iload_n hx hb dd_Mo_scheme_5 rfl (lv_at hl 0 rfl) ?_
    refine lv_if_ne (tgt := 14) hx hb dd_Mo_scheme_6 (by decide) (fun h6 => ?_) (fun h6 => ?_)
    ·
      refine lv_iload_n hx hb dd_Mo_scheme_14 rfl (lv_at hl 0 rfl) ?_
      refine lv_iconst (v := nI 1) hx hb dd_Mo_scheme_15 (by decide) ?_
      refine lv_icmp_ne (tgt := 24) hx hb dd_Mo_scheme_16 (by decide) (fun h16 => ?_) (fun h16 => ?_)
      ·
        rw [nI_eq (by omega) (by omega)] at h16
        refine lv_bipush (v := nI 105) hx hb dd_Mo_scheme_24 (by decide) ?_
        refine lv_goto (tgt := 62) hx hb dd_Mo_scheme_26 (by decide) ?_
        refine mr_i E hr hk hM hS (by decide) (by decide) ?_ dd_Mo_scheme_62
        have hc : ie_ch i = 105 := by
          rcases (show i = 0 ∨ i = 1 ∨ i = 2 ∨ i = 3 ∨ i = 4 ∨ i = 5 ∨ i = 6 ∨ i = 7 ∨ i = 8 by omega) with rfl | rfl | rfl | rfl | rfl | rfl | rfl | rfl | rfl <;> first | rfl | omega | exact absurd h6 (by decide) | exact absurd (by decide) h6
        exact ⟨by rw [hc], rfl⟩
      ·
        rw [nI_eq (by omega) (by omega)] at h16
        refine lv_bipush (v := nI 112) hx hb dd_Mo_scheme_19 (by decide) ?_
        refine lv_goto (tgt := 62) hx hb dd_Mo_scheme_21 (by decide) ?_
        refine mr_i E hr hk hM hS (by decide) (by decide) ?_ dd_Mo_scheme_62
        have hc : ie_ch i = 112 := by
          rcases (show i = 0 ∨ i = 1 ∨ i = 2 ∨ i = 3 ∨ i = 4 ∨ i = 5 ∨ i = 6 ∨ i = 7 ∨ i = 8 by omega) with rfl | rfl | rfl | rfl | rfl | rfl | rfl | rfl | rfl <;> first | rfl | omega | exact absurd h6 (by decide) | exact absurd (by decide) h6
        exact ⟨by rw [hc], rfl⟩
    ·
      refine lv_bipush (v := nI 115) hx hb dd_Mo_scheme_9 (by decide) ?_
      refine lv_goto (tgt := 62) hx hb dd_Mo_scheme_11 (by decide) ?_
      refine mr_i E hr hk hM hS (by decide) (by decide) ?_ dd_Mo_scheme_62
      have hc : ie_ch i = 115 := by
        rcases (show i = 0 ∨ i = 1 ∨ i = 2 ∨ i = 3 ∨ i = 4 ∨ i = 5 ∨ i = 6 ∨ i = 7 ∨ i = 8 by omega) with rfl | rfl | rfl | rfl | rfl | rfl | rfl | rfl | rfl <;> first | rfl | omega | exact absurd h6 (by decide) | exact absurd (by decide) h6
      exact ⟨by rw [hc], rfl⟩
theorem cc_Mo_ofDomain (l : Launch) (D : va_G) (z : Nat) (M : mw_M) (c0 : Nat) (hc : c0 < 256) : mw_C l yy_Mo_ofDomain bb_Mo_ofDomain 1 (Option.some Jvm.ClassFile.FieldType.boolean) 0 0 0 0 D z M [.int (nI c0)] (fun v M' => v = some (.int (zI (nc_d c0))) ∧ M' = M) := by
  refine mw_of (by decide) (Nat.le_of_ble_eq_true rfl) ?_
  intro p e s m below meth c ls E hr hk hnm hM hl
  have hx := E.x
  have hb := E.b
  have E : mw_E p m c bb_Mo_ofDomain 1 s _ D z "IdentityIssuerModel" := E
  have hl : lv_has ls 1 [(0, .int (nI c0))] := hl
  have hS : va_S (mw_A z) s.heap s.heap [] := va_S.rf
  refine lv_iload_n hx hb dd_Mo_ofDomain_0 rfl (lv_at hl 0 rfl) ?_
  refine lv_bipush (v := nI 97) hx hb dd_Mo_ofDomain_1 (by decide) ?_
  refine lv_icmp_lt (tgt := 12) hx hb dd_Mo_ofDomain_3 (by decide) (fun h3 => ?_) (fun h3 => ?_)
  ·
    rw [nI_ltI (by omega) (by omega)] at h3
    refine lv_iload_n hx hb dd_Mo_ofDomain_12 rfl (lv_at hl 0 rfl) ?_
    refine lv_bipush (v := nI 48) hx hb dd_Mo_ofDomain_13 (by decide) ?_
    refine lv_icmp_lt (tgt := 24) hx hb dd_Mo_ofDomain_15 (by decide) (fun h15 => ?_) (fun h15 => ?_)
    ·
      rw [nI_ltI (by omega) (by omega)] at h15
      refine lv_iload_n hx hb dd_Mo_ofDomain_24 rfl (lv_at hl 0 rfl) ?_
      refine lv_bipush (v := nI 46) hx hb dd_Mo_ofDomain_25 (by decide) ?_
      refine lv_icmp_eq (tgt := 42) hx hb dd_Mo_ofDomain_27 (by decide) (fun h27 => ?_) (fun h27 => ?_)
      ·
        rw [nI_eq (by omega) (by omega)] at h27
        refine lv_iconst (v := nI 1) hx hb dd_Mo_ofDomain_42 (by decide) ?_
        refine lv_goto (tgt := 47) hx hb dd_Mo_ofDomain_43 (by decide) ?_
        refine mr_z E hr hk hM hS (by decide) (by decide) (rfl) ?_ dd_Mo_ofDomain_47
        exact ⟨by rw [show nc_d c0 = true from decide_eq_true (by omega)]; rfl, rfl⟩
      ·
        rw [nI_eq (by omega) (by omega)] at h27
        refine lv_iload_n hx hb dd_Mo_ofDomain_30 rfl (lv_at hl 0 rfl) ?_
        refine lv_bipush (v := nI 45) hx hb dd_Mo_ofDomain_31 (by decide) ?_
        refine lv_icmp_eq (tgt := 42) hx hb dd_Mo_ofDomain_33 (by decide) (fun h33 => ?_) (fun h33 => ?_)
        ·
          rw [nI_eq (by omega) (by omega)] at h33
          refine lv_iconst (v := nI 1) hx hb dd_Mo_ofDomain_42 (by decide) ?_
          refine lv_goto (tgt := 47) hx hb dd_Mo_ofDomain_43 (by decide) ?_
          refine mr_z E hr hk hM hS (by decide) (by decide) (rfl) ?_ dd_Mo_ofDomain_47
          exact ⟨by rw [show nc_d c0 = true from decide_eq_true (by omega)]; rfl, rfl⟩
        ·
          rw [nI_eq (by omega) (by omega)] at h33
          refine lv_iload_n hx hb dd_Mo_ofDomain_36 rfl (lv_at hl 0 rfl) ?_
          refine lv_bipush (v := nI 95) hx hb dd_Mo_ofDomain_37 (by decide) ?_
          refine lv_icmp_ne (tgt := 46) hx hb dd_Mo_ofDomain_39 (by decide) (fun h39 => ?_) (fun h39 => ?_)
          ·
            rw [nI_eq (by omega) (by omega)] at h39
            refine lv_iconst (v := nI 0) hx hb dd_Mo_ofDomain_46 (by decide) ?_
            refine mr_z E hr hk hM hS (by decide) (by decide) (rfl) ?_ dd_Mo_ofDomain_47
            exact ⟨by rw [show nc_d c0 = false from decide_eq_false (by omega)]; rfl, rfl⟩
          ·
            rw [nI_eq (by omega) (by omega)] at h39
            refine lv_iconst (v := nI 1) hx hb dd_Mo_ofDomain_42 (by decide) ?_
            refine lv_goto (tgt := 47) hx hb dd_Mo_ofDomain_43 (by decide) ?_
            refine mr_z E hr hk hM hS (by decide) (by decide) (rfl) ?_ dd_Mo_ofDomain_47
            exact ⟨by rw [show nc_d c0 = true from decide_eq_true (by omega)]; rfl, rfl⟩
    ·
      rw [nI_ltI (by omega) (by omega)] at h15
      refine lv_iload_n hx hb dd_Mo_ofDomain_18 rfl (lv_at hl 0 rfl) ?_
      refine lv_bipush (v := nI 57) hx hb dd_Mo_ofDomain_19 (by decide) ?_
      refine lv_icmp_le (tgt := 42) hx hb dd_Mo_ofDomain_21 (by decide) (fun h21 => ?_) (fun h21 => ?_)
      ·
        rw [nI_leI (by omega) (by omega)] at h21
        refine lv_iconst (v := nI 1) hx hb dd_Mo_ofDomain_42 (by decide) ?_
        refine lv_goto (tgt := 47) hx hb dd_Mo_ofDomain_43 (by decide) ?_
        refine mr_z E hr hk hM hS (by decide) (by decide) (rfl) ?_ dd_Mo_ofDomain_47
        exact ⟨by rw [show nc_d c0 = true from decide_eq_true (by omega)]; rfl, rfl⟩
      ·
        rw [nI_leI (by omega) (by omega)] at h21
        refine lv_iload_n hx hb dd_Mo_ofDomain_24 rfl (lv_at hl 0 rfl) ?_
        refine lv_bipush (v := nI 46) hx hb dd_Mo_ofDomain_25 (by decide) ?_
        refine lv_icmp_eq (tgt := 42) hx hb dd_Mo_ofDomain_27 (by decide) (fun h27 => ?_) (fun h27 => ?_)
        ·
          rw [nI_eq (by omega) (by omega)] at h27
          refine lv_iconst (v := nI 1) hx hb dd_Mo_ofDomain_42 (by decide) ?_
          refine lv_goto (tgt := 47) hx hb dd_Mo_ofDomain_43 (by decide) ?_
          refine mr_z E hr hk hM hS (by decide) (by decide) (rfl) ?_ dd_Mo_ofDomain_47
          exact ⟨by rw [show nc_d c0 = true from decide_eq_true (by omega)]; rfl, rfl⟩
        ·
          rw [nI_eq (by omega) (by omega)] at h27
          refine lv_iload_n hx hb dd_Mo_ofDomain_30 rfl (lv_at hl 0 rfl) ?_
          refine lv_bipush (v := nI 45) hx hb dd_Mo_ofDomain_31 (by decide) ?_
          refine lv_icmp_eq (tgt := 42) hx hb dd_Mo_ofDomain_33 (by decide) (fun h33 => ?_) (fun h33 => ?_)
          ·
            rw [nI_eq (by omega) (by omega)] at h33
            refine lv_iconst (v := nI 1) hx hb dd_Mo_ofDomain_42 (by decide) ?_
            refine lv_goto (tgt := 47) hx hb dd_Mo_ofDomain_43 (by decide) ?_
            refine mr_z E hr hk hM hS (by decide) (by decide) (rfl) ?_ dd_Mo_ofDomain_47
            exact ⟨by rw [show nc_d c0 = true from decide_eq_true (by omega)]; rfl, rfl⟩
          ·
            rw [nI_eq (by omega) (by omega)] at h33
            refine lv_iload_n hx hb dd_Mo_ofDomain_36 rfl (lv_at hl 0 rfl) ?_
            refine lv_bipush (v := nI 95) hx hb dd_Mo_ofDomain_37 (by decide) ?_
            refine lv_icmp_ne (tgt := 46) hx hb dd_Mo_ofDomain_39 (by decide) (fun h39 => ?_) (fun h39 => ?_)
            ·
              rw [nI_eq (by omega) (by omega)] at h39
              refine lv_iconst (v := nI 0) hx hb dd_Mo_ofDomain_46 (by decide) ?_
              refine mr_z E hr hk hM hS (by decide) (by decide) (rfl) ?_ dd_Mo_ofDomain_47
              exact ⟨by rw [show nc_d c0 = false from decide_eq_false (by omega)]; rfl, rfl⟩
            ·
              rw [nI_eq (by omega) (by omega)] at h39
              refine lv_iconst (v := nI 1) hx hb dd_Mo_ofDomain_42 (by decide) ?_
              refine lv_goto (tgt := 47) hx hb dd_Mo_ofDomain_43 (by decide) ?_
              refine mr_z E hr hk hM hS (by decide) (by decide) (rfl) ?_ dd_Mo_ofDomain_47
              exact ⟨by rw [show nc_d c0 = true from decide_eq_true (by omega)]; rfl, rfl⟩
  ·
    rw [nI_ltI (by omega) (by omega)] at h3
    refine lv_iload_n hx hb dd_Mo_ofDomain_6 rfl (lv_at hl 0 rfl) ?_
    refine lv_bipush (v := nI 122) hx hb dd_Mo_ofDomain_7 (by decide) ?_
    refine lv_icmp_le (tgt := 42) hx hb dd_Mo_ofDomain_9 (by decide) (fun h9 => ?_) (fun h9 => ?_)
    ·
      rw [nI_leI (by omega) (by omega)] at h9
      refine lv_iconst (v := nI 1) hx hb dd_Mo_ofDomain_42 (by decide) ?_
      refine lv_goto (tgt := 47) hx hb dd_Mo_ofDomain_43 (by decide) ?_
      refine mr_z E hr hk hM hS (by decide) (by decide) (rfl) ?_ dd_Mo_ofDomain_47
      exact ⟨by rw [show nc_d c0 = true from decide_eq_true (by omega)]; rfl, rfl⟩
    ·
      rw [nI_leI (by omega) (by omega)] at h9
      refine lv_iload_n hx hb dd_Mo_ofDomain_12 rfl (lv_at hl 0 rfl) ?_
      refine lv_bipush (v := nI 48) hx hb dd_Mo_ofDomain_13 (by decide) ?_
      refine lv_icmp_lt (tgt := 24) hx hb dd_Mo_ofDomain_15 (by decide) (fun h15 => ?_) (fun h15 => ?_)
      ·
        rw [nI_ltI (by omega) (by omega)] at h15
        refine lv_iload_n hx hb dd_Mo_ofDomain_24 rfl (lv_at hl 0 rfl) ?_
        refine lv_bipush (v := nI 46) hx hb dd_Mo_ofDomain_25 (by decide) ?_
        refine lv_icmp_eq (tgt := 42) hx hb dd_Mo_ofDomain_27 (by decide) (fun h27 => ?_) (fun h27 => ?_)
        ·
          rw [nI_eq (by omega) (by omega)] at h27
          refine lv_iconst (v := nI 1) hx hb dd_Mo_ofDomain_42 (by decide) ?_
          refine lv_goto (tgt := 47) hx hb dd_Mo_ofDomain_43 (by decide) ?_
          refine mr_z E hr hk hM hS (by decide) (by decide) (rfl) ?_ dd_Mo_ofDomain_47
          exact ⟨by rw [show nc_d c0 = true from decide_eq_true (by omega)]; rfl, rfl⟩
        ·
          rw [nI_eq (by omega) (by omega)] at h27
          refine lv_iload_n hx hb dd_Mo_ofDomain_30 rfl (lv_at hl 0 rfl) ?_
          refine lv_bipush (v := nI 45) hx hb dd_Mo_ofDomain_31 (by decide) ?_
          refine lv_icmp_eq (tgt := 42) hx hb dd_Mo_ofDomain_33 (by decide) (fun h33 => ?_) (fun h33 => ?_)
          ·
            rw [nI_eq (by omega) (by omega)] at h33
            refine lv_iconst (v := nI 1) hx hb dd_Mo_ofDomain_42 (by decide) ?_
            refine lv_goto (tgt := 47) hx hb dd_Mo_ofDomain_43 (by decide) ?_
            refine mr_z E hr hk hM hS (by decide) (by decide) (rfl) ?_ dd_Mo_ofDomain_47
            exact ⟨by rw [show nc_d c0 = true from decide_eq_true (by omega)]; rfl, rfl⟩
          ·
            rw [nI_eq (by omega) (by omega)] at h33
            refine lv_iload_n hx hb dd_Mo_ofDomain_36 rfl (lv_at hl 0 rfl) ?_
            refine lv_bipush (v := nI 95) hx hb dd_Mo_ofDomain_37 (by decide) ?_
            refine lv_icmp_ne (tgt := 46) hx hb dd_Mo_ofDomain_39 (by decide) (fun h39 => ?_) (fun h39 => ?_)
            ·
              rw [nI_eq (by omega) (by omega)] at h39
              refine lv_iconst (v := nI 0) hx hb dd_Mo_ofDomain_46 (by decide) ?_
              refine mr_z E hr hk hM hS (by decide) (by decide) (rfl) ?_ dd_Mo_ofDomain_47
              exact ⟨by rw [show nc_d c0 = false from decide_eq_false (by omega)]; rfl, rfl⟩
            ·
              rw [nI_eq (by omega) (by omega)] at h39
              refine lv_iconst (v := nI 1) hx hb dd_Mo_ofDomain_42 (by decide) ?_
              refine lv_goto (tgt := 47) hx hb dd_Mo_ofDomain_43 (by decide) ?_
              refine mr_z E hr hk hM hS (by decide) (by decide) (rfl) ?_ dd_Mo_ofDomain_47
              exact ⟨by rw [show nc_d c0 = true from decide_eq_true (by omega)]; rfl, rfl⟩
      ·
        rw [nI_ltI (by omega) (by omega)] at h15
        refine lv_iload_n hx hb dd_Mo_ofDomain_18 rfl (lv_at hl 0 rfl) ?_
        refine lv_bipush (v := nI 57) hx hb dd_Mo_ofDomain_19 (by decide) ?_
        refine lv_icmp_le (tgt := 42) hx hb dd_Mo_ofDomain_21 (by decide) (fun h21 => ?_) (fun h21 => ?_)
        ·
          rw [nI_leI (by omega) (by omega)] at h21
          refine lv_iconst (v := nI 1) hx hb dd_Mo_ofDomain_42 (by decide) ?_
          refine lv_goto (tgt := 47) hx hb dd_Mo_ofDomain_43 (by decide) ?_
          refine mr_z E hr hk hM hS (by decide) (by decide) (rfl) ?_ dd_Mo_ofDomain_47
          exact ⟨by rw [show nc_d c0 = true from decide_eq_true (by omega)]; rfl, rfl⟩
        ·
          rw [nI_leI (by omega) (by omega)] at h21
          refine lv_iload_n hx hb dd_Mo_ofDomain_24 rfl (lv_at hl 0 rfl) ?_
          refine lv_bipush (v := nI 46) hx hb dd_Mo_ofDomain_25 (by decide) ?_
          refine lv_icmp_eq (tgt := 42) hx hb dd_Mo_ofDomain_27 (by decide) (fun h27 => ?_) (fun h27 => ?_)
          ·
            rw [nI_eq (by omega) (by omega)] at h27
            refine lv_iconst (v := nI 1) hx hb dd_Mo_ofDomain_42 (by decide) ?_
            refine lv_goto (tgt := 47) hx hb dd_Mo_ofDomain_43 (by decide) ?_
            refine mr_z E hr hk hM hS (by decide) (by decide) (rfl) ?_ dd_Mo_ofDomain_47
            exact ⟨by rw [show nc_d c0 = true from decide_eq_true (by omega)]; rfl, rfl⟩
          ·
            rw [nI_eq (by omega) (by omega)] at h27
            refine lv_iload_n hx hb dd_Mo_ofDomain_30 rfl (lv_at hl 0 rfl) ?_
            refine lv_bipush (v := nI 45) hx hb dd_Mo_ofDomain_31 (by decide) ?_
            refine lv_icmp_eq (tgt := 42) hx hb dd_Mo_ofDomain_33 (by decide) (fun h33 => ?_) (fun h33 => ?_)
            ·
              rw [nI_eq (by omega) (by omega)] at h33
              refine lv_iconst (v := nI 1) hx hb dd_Mo_ofDomain_42 (by decide) ?_
              refine lv_goto (tgt := 47) hx hb dd_Mo_ofDomain_43 (by decide) ?_
              refine mr_z E hr hk hM hS (by decide) (by decide) (rfl) ?_ dd_Mo_ofDomain_47
              exact ⟨by rw [show nc_d c0 = true from decide_eq_true (by omega)]; rfl, rfl⟩
            ·
              rw [nI_eq (by omega) (by omega)] at h33
              refine lv_iload_n hx hb dd_Mo_ofDomain_36 rfl (lv_at hl 0 rfl) ?_
              refine lv_bipush (v := nI 95) hx hb dd_Mo_ofDomain_37 (by decide) ?_
              refine lv_icmp_ne (tgt := 46) hx hb dd_Mo_ofDomain_39 (by decide) (fun h39 => ?_) (fun h39 => ?_)
              ·
                rw [nI_eq (by omega) (by omega)] at h39
                refine lv_iconst (v := nI 0) hx hb dd_Mo_ofDomain_46 (by decide) ?_
                refine mr_z E hr hk hM hS (by decide) (by decide) (rfl) ?_ dd_Mo_ofDomain_47
                exact ⟨by rw [show nc_d c0 = false from decide_eq_false (by omega)]; rfl, rfl⟩
              ·
                rw [nI_eq (by omega) (by omega)] at h39
                refine lv_iconst (v := nI 1) hx hb dd_Mo_ofDomain_42 (by decide) ?_
                refine lv_goto (tgt := 47) hx hb dd_Mo_ofDomain_43 (by decide) ?_
                refine mr_z E hr hk hM hS (by decide) (by decide) (rfl) ?_ dd_Mo_ofDomain_47
                exact ⟨by rw [show nc_d c0 = true from decide_eq_true (by omega)]; rfl, rfl⟩
theorem cc_Mo_ofDomain_m (l : Launch) (D : va_G) (z : Nat) (M : mw_M)   : mw_C l yy_Mo_ofDomain bb_Mo_ofDomain 1 (Option.some Jvm.ClassFile.FieldType.boolean) 0 0 0 0 D z M [.int (-1)] (fun v M' => v = some (.int 0) ∧ M' = M) := by
  refine mw_of (by decide) (Nat.le_of_ble_eq_true rfl) ?_
  intro p e s m below meth c ls E hr hk hnm hM hl
  have hx := E.x
  have hb := E.b
  have E : mw_E p m c bb_Mo_ofDomain 1 s _ D z "IdentityIssuerModel" := E
  have hl : lv_has ls 1 [(0, .int (-1))] := hl
  have hS : va_S (mw_A z) s.heap s.heap [] := va_S.rf
  refine lv_iload_n hx hb dd_Mo_ofDomain_0 rfl (lv_at hl 0 rfl) ?_
  refine lv_bipush (v := nI 97) hx hb dd_Mo_ofDomain_1 (by decide) ?_
  refine lv_icmp_lt (tgt := 12) hx hb dd_Mo_ofDomain_3 (by decide) (fun h3 => ?_) (fun h3 => ?_)
  ·
    refine lv_iload_n hx hb dd_Mo_ofDomain_12 rfl (lv_at hl 0 rfl) ?_
    refine lv_bipush (v := nI 48) hx hb dd_Mo_ofDomain_13 (by decide) ?_
    refine lv_icmp_lt (tgt := 24) hx hb dd_Mo_ofDomain_15 (by decide) (fun h15 => ?_) (fun h15 => ?_)
    ·
      refine lv_iload_n hx hb dd_Mo_ofDomain_24 rfl (lv_at hl 0 rfl) ?_
      refine lv_bipush (v := nI 46) hx hb dd_Mo_ofDomain_25 (by decide) ?_
      refine lv_icmp_eq (tgt := 42) hx hb dd_Mo_ofDomain_27 (by decide) (fun h27 => ?_) (fun h27 => ?_)
      ·
        exact absurd h27 (by decide)
      ·
        refine lv_iload_n hx hb dd_Mo_ofDomain_30 rfl (lv_at hl 0 rfl) ?_
        refine lv_bipush (v := nI 45) hx hb dd_Mo_ofDomain_31 (by decide) ?_
        refine lv_icmp_eq (tgt := 42) hx hb dd_Mo_ofDomain_33 (by decide) (fun h33 => ?_) (fun h33 => ?_)
        ·
          exact absurd h33 (by decide)
        ·
          refine lv_iload_n hx hb dd_Mo_ofDomain_36 rfl (lv_at hl 0 rfl) ?_
          refine lv_bipush (v := nI 95) hx hb dd_Mo_ofDomain_37 (by decide) ?_
          refine lv_icmp_ne (tgt := 46) hx hb dd_Mo_ofDomain_39 (by decide) (fun h39 => ?_) (fun h39 => ?_)
          ·
            refine lv_iconst (v := nI 0) hx hb dd_Mo_ofDomain_46 (by decide) ?_
            refine mr_z E hr hk hM hS (by decide) (by decide) (rfl) ?_ dd_Mo_ofDomain_47
            exact ⟨rfl, rfl⟩
          ·
            exact absurd h39 (by decide)
    ·
      exact absurd (by decide) h15
  ·
    exact absurd (by decide) h3
theorem cc_Mo_ofSegment (l : Launch) (D : va_G) (z : Nat) (M : mw_M) (c0 : Nat) (hb9 : c0 < 256) : mw_C l yy_Mo_ofSegment bb_Mo_ofSegment 1 (Option.some Jvm.ClassFile.FieldType.boolean) 1 20 0 0 D z M [.int (nI c0)] (fun v M' => v = some (.int (zI (nc_s c0))) ∧ M' = M) := by
  refine mw_of (by decide) (Nat.le_of_ble_eq_true rfl) ?_
  intro p e s m below meth c ls E hr hk hnm hM hl
  have hx := E.x
  have hb := E.b
  have E : mw_E p m c bb_Mo_ofSegment 1 s _ D z "IdentityIssuerModel" := E
  have hl : lv_has ls 1 [(0, .int (nI c0))] := hl
  have hS : va_S (mw_A z) s.heap s.heap [] := va_S.rf
  refine lv_iload_n hx hb dd_Mo_ofSegment_0 rfl (lv_at hl 0 rfl) ?_
  refine mw_S (As := [.int (nI c0)]) (rest := []) E (cc_Mo_ofDomain l D z (M) (c0) hb9) ky_Mo_ofDomain kv_Mo_ofDomain tw_Mo_125 hM hS rfl hl.1 rfl (Nat.le_of_ble_eq_true rfl) dd_Mo_ofSegment_1 (by first | decide | exact ⟨by dsimp only; omega, by dsimp only; omega⟩) (by decide) (fun v M1 H locs hp hM hS => ?_)
  obtain ⟨rfl, hq⟩ := hp
  have hq := hq.symm
  subst hq
  refine W.eq (g2 := F0 m 4 ls [.int (zI (nc_d (c0)))]) rfl ?_
  refine lv_if_ne (tgt := 19) hx hb dd_Mo_ofSegment_4 (by decide) (fun h4 => ?_) (fun h4 => ?_)
  ·
    have hd : nc_d c0 = true := Bool.of_not_eq_false (fun q => h4 (zI_0.mpr q))
    unfold nc_d at hd
    have hd := of_decide_eq_true hd
    refine lv_iconst (v := nI 1) hx hb dd_Mo_ofSegment_19 (by decide) ?_
    refine lv_goto (tgt := 24) hx hb dd_Mo_ofSegment_20 (by decide) ?_
    refine mr_z E hr hk hM hS (by decide) (by decide) (rfl) ?_ dd_Mo_ofSegment_24
    exact ⟨by rw [show nc_s c0 = true from decide_eq_true (by omega)]; rfl, rfl⟩
  ·
    have hd : nc_d c0 = false := zI_0.mp h4
    unfold nc_d at hd
    have hd := of_decide_eq_false hd
    refine lv_iload_n hx hb dd_Mo_ofSegment_7 rfl (lv_at hl 0 rfl) ?_
    refine lv_bipush (v := nI 65) hx hb dd_Mo_ofSegment_8 (by decide) ?_
    refine lv_icmp_lt (tgt := 23) hx hb dd_Mo_ofSegment_10 (by decide) (fun h10 => ?_) (fun h10 => ?_)
    ·
      rw [nI_ltI (by omega) (by omega)] at h10
      refine lv_iconst (v := nI 0) hx hb dd_Mo_ofSegment_23 (by decide) ?_
      refine mr_z E hr hk hM hS (by decide) (by decide) (rfl) ?_ dd_Mo_ofSegment_24
      exact ⟨by rw [show nc_s c0 = false from decide_eq_false (by omega)]; rfl, rfl⟩
    ·
      rw [nI_ltI (by omega) (by omega)] at h10
      refine lv_iload_n hx hb dd_Mo_ofSegment_13 rfl (lv_at hl 0 rfl) ?_
      refine lv_bipush (v := nI 90) hx hb dd_Mo_ofSegment_14 (by decide) ?_
      refine lv_icmp_gt (tgt := 23) hx hb dd_Mo_ofSegment_16 (by decide) (fun h16 => ?_) (fun h16 => ?_)
      ·
        rw [nI_ltI (by omega) (by omega)] at h16
        refine lv_iconst (v := nI 0) hx hb dd_Mo_ofSegment_23 (by decide) ?_
        refine mr_z E hr hk hM hS (by decide) (by decide) (rfl) ?_ dd_Mo_ofSegment_24
        exact ⟨by rw [show nc_s c0 = false from decide_eq_false (by omega)]; rfl, rfl⟩
      ·
        rw [nI_ltI (by omega) (by omega)] at h16
        refine lv_iconst (v := nI 1) hx hb dd_Mo_ofSegment_19 (by decide) ?_
        refine lv_goto (tgt := 24) hx hb dd_Mo_ofSegment_20 (by decide) ?_
        refine mr_z E hr hk hM hS (by decide) (by decide) (rfl) ?_ dd_Mo_ofSegment_24
        exact ⟨by rw [show nc_s c0 = true from decide_eq_true (by omega)]; rfl, rfl⟩
theorem cc_Mo_ofSegment_m (l : Launch) (D : va_G) (z : Nat) (M : mw_M)   : mw_C l yy_Mo_ofSegment bb_Mo_ofSegment 1 (Option.some Jvm.ClassFile.FieldType.boolean) 1 20 0 0 D z M [.int (-1)] (fun v M' => v = some (.int 0) ∧ M' = M) := by
  refine mw_of (by decide) (Nat.le_of_ble_eq_true rfl) ?_
  intro p e s m below meth c ls E hr hk hnm hM hl
  have hx := E.x
  have hb := E.b
  have E : mw_E p m c bb_Mo_ofSegment 1 s _ D z "IdentityIssuerModel" := E
  have hl : lv_has ls 1 [(0, .int (-1))] := hl
  have hS : va_S (mw_A z) s.heap s.heap [] := va_S.rf
  refine lv_iload_n hx hb dd_Mo_ofSegment_0 rfl (lv_at hl 0 rfl) ?_
  refine mw_S (As := [.int (-1)]) (rest := []) E (cc_Mo_ofDomain_m l D z (M)) ky_Mo_ofDomain kv_Mo_ofDomain tw_Mo_125 hM hS rfl hl.1 rfl (Nat.le_of_ble_eq_true rfl) dd_Mo_ofSegment_1 (by first | decide | exact ⟨by dsimp only; omega, by dsimp only; omega⟩) (by decide) (fun v M1 H locs hp hM hS => ?_)
  obtain ⟨rfl, hq⟩ := hp
  have hq := hq.symm
  subst hq
  refine W.eq (g2 := F0 m 4 ls [.int (0)]) rfl ?_
  refine lv_if_ne (tgt := 19) hx hb dd_Mo_ofSegment_4 (by decide) (fun h4 => ?_) (fun h4 => ?_)
  ·
    exact absurd rfl h4
  ·
    refine lv_iload_n hx hb dd_Mo_ofSegment_7 rfl (lv_at hl 0 rfl) ?_
    refine lv_bipush (v := nI 65) hx hb dd_Mo_ofSegment_8 (by decide) ?_
    refine lv_icmp_lt (tgt := 23) hx hb dd_Mo_ofSegment_10 (by decide) (fun h10 => ?_) (fun h10 => ?_)
    ·
      refine lv_iconst (v := nI 0) hx hb dd_Mo_ofSegment_23 (by decide) ?_
      refine mr_z E hr hk hM hS (by decide) (by decide) (rfl) ?_ dd_Mo_ofSegment_24
      exact ⟨rfl, rfl⟩
    ·
      exact absurd (by decide) h10
theorem cc_Mo_errorBySigns (l : Launch) (D : va_G) (z : Nat) (M : mw_M) (mm : Nat) (F : Nat → Value) (rb : Nat) (f : Nat → Int32) (k : Nat) (g : Nat → Nat) (a n : Nat) (wm : M mm = some (.inr (13, mo_l F))) (hf2 : F 2 = .ref rb) (wb : M rb = some (.inl (D.1 100, 100, .inl f))) (hk0 : k ≤ 100) (hg : ∀ j : Nat, j < k → f j = nI (g j) ∧ g j < 256) (han : a + n ≤ k) (hmr : mm ≠ rb) (h8x : ∃ x : Int32, F 8 = .int x) : mw_C l yy_Mo_errorBySigns bb_Mo_errorBySigns 6 (Option.some Jvm.ClassFile.FieldType.int) 2 40 0 0 D z M [.ref mm, .int (nI a), .int (nI n)] (fun v M' => v = some (.int (nI (ie_by g a n))) ∧ (∃ G, M' mm = some (.inr (13, mo_l G)) ∧ (∀ j : Nat, j ≠ 8 → G j = F j) ∧ (∃ x : Int32, G 8 = .int x) ∧ (ie_sc g a n 9 0 = none → G 8 = .int (nI (ie_de g (a + 9) (a + n) - a)))) ∧ mw_fr (fun q => q = mm) M M') := by
  refine mw_of (by decide) (Nat.le_of_ble_eq_true rfl) ?_
  intro p e s m below meth c ls E hr hk hnm hM hl
  have hx := E.x
  have hb := E.b
  have E : mw_E p m c bb_Mo_errorBySigns 6 s _ D z "IdentityIssuerModel" := E
  have hl : lv_has ls 6 [(0, .ref mm), (1, .int (nI a)), (2, .int (nI n))] := hl
  have hS : va_S (mw_A z) s.heap s.heap [] := va_S.rf
  have hF : mw_fr (fun q => q = mm) M M := mw_fr.rf
  refine lv_iconst (v := nI 0) hx hb dd_Mo_errorBySigns_0 (by decide) ?_
  refine lv_istore_n (lv' := [(3, .int (nI 0)), (0, .ref mm), (1, .int (nI a)), (2, .int (nI n))]) hx hb dd_Mo_errorBySigns_1 rfl hl (by decide) rfl (fun ls hl => ?_)
  have loop2 : ∀ (d9 : Nat) (i : Nat) (H : Heap) (locs : List Loc) (ls : Array Slot), i + d9 = 9 → ie_sc g a n 9 0 = ie_sc g a n d9 i → mw_at D mg_cl z M H → va_S (mw_A z) s.heap H locs → lv_has ls 6 [(3, .int (nI i)), (0, .ref mm), (1, .int (nI a)), (2, .int (nI n))] → W p l e ({ frames := 2, cells := 0, slots := 0, locals := 40 } : Room) s m ([.ref mm, .int (nI a), .int (nI n)] : List Value).toArray below meth c H locs (0) (0) (MQ below (mw_Q D z (fun v M' => v = some (.int (nI (ie_by g a n))) ∧ (∃ G, M' mm = some (.inr (13, mo_l G)) ∧ (∀ j : Nat, j ≠ 8 → G j = F j) ∧ (∃ x : Int32, G 8 = .int x) ∧ (ie_sc g a n 9 0 = none → G 8 = .int (nI (ie_de g (a + 9) (a + n) - a)))) ∧ mw_fr (fun q => q = mm) M M')) ([.ref mm, .int (nI a), .int (nI n)] : List Value).toArray s 0 0 (mw_A z)) (F0 m 2 ls []) := by
    intro d9
    induction d9 with
    | zero =>
      intro i H locs ls hi hu hM hS hl
      refine lv_iload_n hx hb dd_Mo_errorBySigns_2 rfl (lv_at hl 0 rfl) ?_
      refine lv_bipush (v := nI 9) hx hb dd_Mo_errorBySigns_3 (by decide) ?_
      refine lv_icmp_ge (tgt := 30) hx hb dd_Mo_errorBySigns_5 (by decide) (fun h5 => ?_) (fun h5 => ?_)
      ·
        rw [nI_leI (by omega) (by omega)] at h5
        have hsc : ie_sc g a n 9 0 = none := hu
        have h9n := ie_sc_len hsc
        have join58 : ∀ (p0 : Nat) (H : Heap) (locs : List Loc) (ls : Array Slot), 9 ≤ p0 → p0 ≤ n → ie_de g (a + 9) (a + n) = a + p0 → mw_at D mg_cl z M H → va_S (mw_A z) s.heap H locs → lv_has ls 6 [(3, .int (nI p0)), (0, .ref mm), (1, .int (nI a)), (2, .int (nI n))] → W p l e ({ frames := 2, cells := 0, slots := 0, locals := 40 } : Room) s m ([.ref mm, .int (nI a), .int (nI n)] : List Value).toArray below meth c H locs (0) (0) (MQ below (mw_Q D z (fun v M' => v = some (.int (nI (ie_by g a n))) ∧ (∃ G, M' mm = some (.inr (13, mo_l G)) ∧ (∀ j : Nat, j ≠ 8 → G j = F j) ∧ (∃ x : Int32, G 8 = .int x) ∧ (ie_sc g a n 9 0 = none → G 8 = .int (nI (ie_de g (a + 9) (a + n) - a)))) ∧ mw_fr (fun q => q = mm) M M')) ([.ref mm, .int (nI a), .int (nI n)] : List Value).toArray s 0 0 (mw_A z)) (F0 m 58 ls []) := by
          intro p0 H locs ls hp0 hp1 hdp hM hS hl
          have hdl := ie_de_le (g := g) (s0 := a + 9) (e := a + n) (by omega)
          refine lv_aload_n hx hb dd_Mo_errorBySigns_58 rfl (lv_at hl 1 rfl) ?_
          refine lv_iload_n hx hb dd_Mo_errorBySigns_59 rfl (lv_at hl 0 rfl) ?_
          refine pf_Mo_137 E hM hS wm (by rw [mo_len]; decide) dd_Mo_errorBySigns_60 (fun H locs hM hS => ?_)
          rw [mo_set (by decide)] at hM
          obtain ⟨F1, hF1⟩ : ∃ F9 : Nat → Value, F9 = va_up F 8 (.int (nI p0)) := ⟨_, rfl⟩
          rw [← hF1] at hM
          have hf2 := mo_n hF1 hf2 (by decide)
          have hf8 := mo_s hF1
          have hM : mw_at D mg_cl z (va_up M mm (some (.inr (13, mo_l F1)))) H := hM
          obtain ⟨M1, hM1⟩ : ∃ M9 : mw_M, M9 = va_up M mm (some (.inr (13, mo_l F1))) := ⟨_, rfl⟩
          rw [← hM1] at hM
          have wb := mw_uu hM1 wb (mw_ne wb wm (fun q => by cases q))
          have wm := mw_us hM1
          have hF := mw_fu hM1 hF (rfl)
          refine lv_iload_n hx hb dd_Mo_errorBySigns_63 rfl (lv_at hl 0 rfl) ?_
          refine lv_bipush (v := nI 9) hx hb dd_Mo_errorBySigns_64 (by decide) ?_
          refine lv_icmp_ne (tgt := 71) hx hb dd_Mo_errorBySigns_66 (by decide) (fun h66 => ?_) (fun h66 => ?_)
          ·
            rw [nI_eq (by omega) (by omega)] at h66
            have loop71 : ∀ (c9 : Nat) (p1 dd : Nat) (H : Heap) (locs : List Loc) (ls : Array Slot), p1 ≤ n → n ≤ p1 + c9 → a + n ≤ a + p1 + dd → ie_pe g (a + n) (a + n) (ie_de g (a + 9) (a + n)) = ie_pe g (a + n) dd (a + p1) → mw_at D mg_cl z M1 H → va_S (mw_A z) s.heap H locs → lv_has ls 6 [(3, .int (nI p1)), (0, .ref mm), (1, .int (nI a)), (2, .int (nI n))] → W p l e ({ frames := 2, cells := 0, slots := 0, locals := 40 } : Room) s m ([.ref mm, .int (nI a), .int (nI n)] : List Value).toArray below meth c H locs (0) (0) (MQ below (mw_Q D z (fun v M' => v = some (.int (nI (ie_by g a n))) ∧ (∃ G, M' mm = some (.inr (13, mo_l G)) ∧ (∀ j : Nat, j ≠ 8 → G j = F j) ∧ (∃ x : Int32, G 8 = .int x) ∧ (ie_sc g a n 9 0 = none → G 8 = .int (nI (ie_de g (a + 9) (a + n) - a)))) ∧ mw_fr (fun q => q = mm) M M')) ([.ref mm, .int (nI a), .int (nI n)] : List Value).toArray s 0 0 (mw_A z)) (F0 m 71 ls []) := by
              intro c9
              induction c9 with
              | zero =>
                intro p1 dd H locs ls hp1 hi1 hdd hw hM hS hl
                refine lv_iload_n hx hb dd_Mo_errorBySigns_71 rfl (lv_at hl 0 rfl) ?_
                refine lv_iload_n hx hb dd_Mo_errorBySigns_72 rfl (lv_at hl 3 rfl) ?_
                refine lv_icmp_ge (tgt := 185) hx hb dd_Mo_errorBySigns_73 (by decide) (fun h73 => ?_) (fun h73 => ?_)
                ·
                  rw [nI_leI (by omega) (by omega)] at h73
                  refine lv_iload_n hx hb dd_Mo_errorBySigns_185 rfl (lv_at hl 3 rfl) ?_
                  refine lv_iconst (v := nI 1) hx hb dd_Mo_errorBySigns_186 (by decide) ?_
                  refine lv_iadd hx hb dd_Mo_errorBySigns_187 ?_
                  refine mw_topi (y := nI (n + 1)) (nI_add _ _) ?_
                  refine mr_i E hr hk hM hS (by decide) (by decide) ?_ dd_Mo_errorBySigns_188
                  exact ⟨by rw [ie_by_n hsc (by omega) (hw.trans (ie_pe_off (by omega)))], ⟨_, wm, fun j hj => by rw [hF1]; exact va_up_ne _ _ hj, ⟨_, hf8⟩, fun _ => by rw [hdp, show a + p0 - a = p0 by omega]; exact hf8⟩, hF⟩
                ·
                  rw [nI_leI (by omega) (by omega)] at h73
                  omega
              | succ c9 ih7 =>
                intro p1 dd H locs ls hp1 hi1 hdd hw hM hS hl
                refine lv_iload_n hx hb dd_Mo_errorBySigns_71 rfl (lv_at hl 0 rfl) ?_
                refine lv_iload_n hx hb dd_Mo_errorBySigns_72 rfl (lv_at hl 3 rfl) ?_
                refine lv_icmp_ge (tgt := 185) hx hb dd_Mo_errorBySigns_73 (by decide) (fun h73 => ?_) (fun h73 => ?_)
                ·
                  rw [nI_leI (by omega) (by omega)] at h73
                  refine lv_iload_n hx hb dd_Mo_errorBySigns_185 rfl (lv_at hl 3 rfl) ?_
                  refine lv_iconst (v := nI 1) hx hb dd_Mo_errorBySigns_186 (by decide) ?_
                  refine lv_iadd hx hb dd_Mo_errorBySigns_187 ?_
                  refine mw_topi (y := nI (n + 1)) (nI_add _ _) ?_
                  refine mr_i E hr hk hM hS (by decide) (by decide) ?_ dd_Mo_errorBySigns_188
                  exact ⟨by rw [ie_by_n hsc (by omega) (hw.trans (ie_pe_off (by omega)))], ⟨_, wm, fun j hj => by rw [hF1]; exact va_up_ne _ _ hj, ⟨_, hf8⟩, fun _ => by rw [hdp, show a + p0 - a = p0 by omega]; exact hf8⟩, hF⟩
                ·
                  rw [nI_leI (by omega) (by omega)] at h73
                  refine lv_aload_n hx hb dd_Mo_errorBySigns_76 rfl (lv_at hl 1 rfl) ?_
                  refine lv_iload_n hx hb dd_Mo_errorBySigns_77 rfl (lv_at hl 2 rfl) ?_
                  refine lv_iload_n hx hb dd_Mo_errorBySigns_78 rfl (lv_at hl 3 rfl) ?_
                  refine lv_iload_n hx hb dd_Mo_errorBySigns_79 rfl (lv_at hl 0 rfl) ?_
                  refine mw_V (As := [.int (nI a), .int (nI n), .int (nI p1)]) (rest := []) E (cc_Mo_sign l D z (M1) mm F1 rb f k g a n (p1) wm hf2 wb hk0 hg han (by omega)) ky_Mo_sign kv_Mo_sign tw_Mo_129 hM hS wm rfl rfl rfl hl.1 rfl (Nat.le_of_ble_eq_true rfl) dd_Mo_errorBySigns_80 (by first | decide | exact ⟨by dsimp only; omega, by dsimp only; omega⟩) (by decide) (fun v M1 H locs hp hM hS => ?_)
                  obtain ⟨rfl, hq⟩ := hp
                  have hq := hq.symm
                  subst hq
                  rw [if_pos (show p1 < n by omega)]
                  refine W.eq (g2 := F0 m 83 ls [.int (nI (g (a + p1)))]) rfl ?_
                  have hb9 := (hg (a + p1) (by omega)).2
                  obtain ⟨d0, rfl⟩ : ∃ d0, dd = d0 + 1 := ⟨dd - 1, by omega⟩
                  refine lv_bipush (v := nI 47) hx hb dd_Mo_errorBySigns_83 (by decide) ?_
                  refine lv_icmp_eq (tgt := 90) hx hb dd_Mo_errorBySigns_85 (by decide) (fun h85 => ?_) (fun h85 => ?_)
                  ·
                    rw [nI_eq (by omega) (by omega)] at h85
                    refine lv_iload_n hx hb dd_Mo_errorBySigns_90 rfl (lv_at hl 0 rfl) ?_
                    refine lv_iconst (v := nI 1) hx hb dd_Mo_errorBySigns_91 (by decide) ?_
                    refine lv_iadd hx hb dd_Mo_errorBySigns_92 ?_
                    refine mw_topi (y := nI (p1 + 1)) (nI_add _ _) ?_
                    refine lv_istore (lv' := [(4, .int (nI (p1 + 1))), (3, .int (nI p1)), (0, .ref mm), (1, .int (nI a)), (2, .int (nI n))]) hx hb dd_Mo_errorBySigns_93 hl (by decide) rfl (fun ls hl => ?_)
                    refine lv_iload hx hb dd_Mo_errorBySigns_95 (lv_at hl 0 rfl) ?_
                    refine lv_istore_n (lv' := [(3, .int (nI (p1 + 1))), (4, .int (nI (p1 + 1))), (0, .ref mm), (1, .int (nI a)), (2, .int (nI n))]) hx hb dd_Mo_errorBySigns_97 rfl hl (by decide) rfl (fun ls hl => ?_)
                    have join117 : ∀ (p2 : Nat) (H : Heap) (locs : List Loc) (ls : Array Slot), p1 + 1 ≤ p2 → p2 ≤ n → ie_sg g (a + n - (a + p1 + 1)) (a + p1 + 1) = a + p2 → mw_at D mg_cl z M1 H → va_S (mw_A z) s.heap H locs → lv_has ls 6 [(3, .int (nI p2)), (4, .int (nI (p1 + 1))), (0, .ref mm), (1, .int (nI a)), (2, .int (nI n))] → W p l e ({ frames := 2, cells := 0, slots := 0, locals := 40 } : Room) s m ([.ref mm, .int (nI a), .int (nI n)] : List Value).toArray below meth c H locs (0) (0) (MQ below (mw_Q D z (fun v M' => v = some (.int (nI (ie_by g a n))) ∧ (∃ G, M' mm = some (.inr (13, mo_l G)) ∧ (∀ j : Nat, j ≠ 8 → G j = F j) ∧ (∃ x : Int32, G 8 = .int x) ∧ (ie_sc g a n 9 0 = none → G 8 = .int (nI (ie_de g (a + 9) (a + n) - a)))) ∧ mw_fr (fun q => q = mm) M M')) ([.ref mm, .int (nI a), .int (nI n)] : List Value).toArray s 0 0 (mw_A z)) (F0 m 117 ls []) := by
                      intro p2 H locs ls hp2 hp3 hsg hM hS hl
                      refine lv_iload_n hx hb dd_Mo_errorBySigns_117 rfl (lv_at hl 0 rfl) ?_
                      refine lv_iload hx hb dd_Mo_errorBySigns_118 (lv_at hl 1 rfl) ?_
                      refine lv_iconst (v := nI 1) hx hb dd_Mo_errorBySigns_120 (by decide) ?_
                      refine lv_iadd hx hb dd_Mo_errorBySigns_121 ?_
                      refine mw_topi (y := nI ((p1 + 1) + 1)) (nI_add _ _) ?_
                      refine lv_icmp_eq (tgt := 148) hx hb dd_Mo_errorBySigns_122 (by decide) (fun h122 => ?_) (fun h122 => ?_)
                      ·
                        rw [nI_eq (by omega) (by omega)] at h122
                        refine lv_iconst (v := nI 1) hx hb dd_Mo_errorBySigns_148 (by decide) ?_
                        refine lv_goto (tgt := 153) hx hb dd_Mo_errorBySigns_149 (by decide) ?_
                        refine lv_istore (lv' := [(5, .int (nI 1)), (3, .int (nI p2)), (4, .int (nI (p1 + 1))), (0, .ref mm), (1, .int (nI a)), (2, .int (nI n))]) hx hb dd_Mo_errorBySigns_153 hl (by decide) rfl (fun ls hl => ?_)
                        refine lv_iload_n hx hb dd_Mo_errorBySigns_155 rfl (lv_at hl 1 rfl) ?_
                        refine lv_iload hx hb dd_Mo_errorBySigns_156 (lv_at hl 2 rfl) ?_
                        refine lv_icmp_eq (tgt := 179) hx hb dd_Mo_errorBySigns_158 (by decide) (fun h158 => ?_) (fun h158 => ?_)
                        ·
                          rw [nI_eq (by omega) (by omega)] at h158
                          refine lv_iload hx hb dd_Mo_errorBySigns_179 (lv_at hl 2 rfl) ?_
                          refine mr_i E hr hk hM hS (by decide) (by decide) ?_ dd_Mo_errorBySigns_181
                          exact ⟨by rw [ie_by_p hsc (by omega) (hw.trans (ie_pe_2 (by omega) h85 (show ie_bad g (a + n) (a + p1 + 1) = true from ie_bad_y hsg (by omega) (fun j h1 h2 => absurd h2 (by omega)) (by omega)))), show a + p1 + 1 - a = p1 + 1 by omega], ⟨_, wm, fun j hj => by rw [hF1]; exact va_up_ne _ _ hj, ⟨_, hf8⟩, fun _ => by rw [hdp, show a + p0 - a = p0 by omega]; exact hf8⟩, hF⟩
                        ·
                          rw [nI_eq (by omega) (by omega)] at h158
                          refine lv_iload hx hb dd_Mo_errorBySigns_161 (lv_at hl 0 rfl) ?_
                          refine lv_if_eq (tgt := 182) hx hb dd_Mo_errorBySigns_163 (by decide) (fun h163 => ?_) (fun h163 => ?_)
                          ·
                            exact absurd h163 (by decide)
                          ·
                            refine lv_aload_n hx hb dd_Mo_errorBySigns_166 rfl (lv_at hl 3 rfl) ?_
                            refine lv_iload_n hx hb dd_Mo_errorBySigns_167 rfl (lv_at hl 4 rfl) ?_
                            refine lv_iload_n hx hb dd_Mo_errorBySigns_168 rfl (lv_at hl 5 rfl) ?_
                            refine lv_iload hx hb dd_Mo_errorBySigns_169 (lv_at hl 2 rfl) ?_
                            refine mw_V (As := [.int (nI a), .int (nI n), .int (nI (p1 + 1))]) (rest := []) E (cc_Mo_sign l D z (M1) mm F1 rb f k g a n (p1 + 1) wm hf2 wb hk0 hg han (by omega)) ky_Mo_sign kv_Mo_sign tw_Mo_129 hM hS wm rfl rfl rfl hl.1 rfl (Nat.le_of_ble_eq_true rfl) dd_Mo_errorBySigns_171 (by first | decide | exact ⟨by dsimp only; omega, by dsimp only; omega⟩) (by decide) (fun v M1 H locs hp hM hS => ?_)
                            obtain ⟨rfl, hq⟩ := hp
                            have hq := hq.symm
                            subst hq
                            rw [if_pos (show (p1 + 1) < n by omega)]
                            refine W.eq (g2 := F0 m 174 ls [.int (nI (g (a + (p1 + 1))))]) rfl ?_
                            have hb9 := (hg (a + (p1 + 1)) (by omega)).2
                            refine lv_bipush (v := nI 46) hx hb dd_Mo_errorBySigns_174 (by decide) ?_
                            refine lv_icmp_ne (tgt := 182) hx hb dd_Mo_errorBySigns_176 (by decide) (fun h176 => ?_) (fun h176 => ?_)
                            ·
                              rw [nI_eq (by omega) (by omega)] at h176
                              have hbd : ie_bad g (a + n) (a + p1 + 1) = false := ie_bad_n hsg (by omega) (Or.inl (fun q => h176 (by have e8 := q (a + (p1 + 1)) (by omega) (by omega); exact e8)))
                              refine lv_goto (tgt := 71) hx hb dd_Mo_errorBySigns_182 (by decide) ?_
                              exact ih7 p2 d0 H locs ls (by omega) (by omega) (by omega) (by rw [hw, ie_pe_3 (by omega) h85 hbd, hsg]) hM hS (lv_sub hl [1, 3, 4, 5] rfl)
                            ·
                              rw [nI_eq (by omega) (by omega)] at h176
                              refine lv_iload hx hb dd_Mo_errorBySigns_179 (lv_at hl 2 rfl) ?_
                              refine mr_i E hr hk hM hS (by decide) (by decide) ?_ dd_Mo_errorBySigns_181
                              exact ⟨by rw [ie_by_p hsc (by omega) (hw.trans (ie_pe_2 (by omega) h85 (show ie_bad g (a + n) (a + p1 + 1) = true from ie_bad_y hsg (by omega) (fun j h1 h2 => by rw [show j = a + (p1 + 1) by omega]; exact h176) (by omega)))), show a + p1 + 1 - a = p1 + 1 by omega], ⟨_, wm, fun j hj => by rw [hF1]; exact va_up_ne _ _ hj, ⟨_, hf8⟩, fun _ => by rw [hdp, show a + p0 - a = p0 by omega]; exact hf8⟩, hF⟩
                      ·
                        rw [nI_eq (by omega) (by omega)] at h122
                        refine lv_iload_n hx hb dd_Mo_errorBySigns_125 rfl (lv_at hl 0 rfl) ?_
                        refine lv_iload hx hb dd_Mo_errorBySigns_126 (lv_at hl 1 rfl) ?_
                        refine lv_iconst (v := nI 2) hx hb dd_Mo_errorBySigns_128 (by decide) ?_
                        refine lv_iadd hx hb dd_Mo_errorBySigns_129 ?_
                        refine mw_topi (y := nI ((p1 + 1) + 2)) (nI_add _ _) ?_
                        refine lv_icmp_ne (tgt := 152) hx hb dd_Mo_errorBySigns_130 (by decide) (fun h130 => ?_) (fun h130 => ?_)
                        ·
                          rw [nI_eq (by omega) (by omega)] at h130
                          refine lv_iconst (v := nI 0) hx hb dd_Mo_errorBySigns_152 (by decide) ?_
                          refine lv_istore (lv' := [(5, .int (nI 0)), (3, .int (nI p2)), (4, .int (nI (p1 + 1))), (0, .ref mm), (1, .int (nI a)), (2, .int (nI n))]) hx hb dd_Mo_errorBySigns_153 hl (by decide) rfl (fun ls hl => ?_)
                          refine lv_iload_n hx hb dd_Mo_errorBySigns_155 rfl (lv_at hl 1 rfl) ?_
                          refine lv_iload hx hb dd_Mo_errorBySigns_156 (lv_at hl 2 rfl) ?_
                          refine lv_icmp_eq (tgt := 179) hx hb dd_Mo_errorBySigns_158 (by decide) (fun h158 => ?_) (fun h158 => ?_)
                          ·
                            rw [nI_eq (by omega) (by omega)] at h158
                            refine lv_iload hx hb dd_Mo_errorBySigns_179 (lv_at hl 2 rfl) ?_
                            refine mr_i E hr hk hM hS (by decide) (by decide) ?_ dd_Mo_errorBySigns_181
                            exact ⟨by rw [ie_by_p hsc (by omega) (hw.trans (ie_pe_2 (by omega) h85 (show ie_bad g (a + n) (a + p1 + 1) = true from ie_bad_y hsg (by omega) (fun j h1 h2 => absurd h2 (by omega)) (by omega)))), show a + p1 + 1 - a = p1 + 1 by omega], ⟨_, wm, fun j hj => by rw [hF1]; exact va_up_ne _ _ hj, ⟨_, hf8⟩, fun _ => by rw [hdp, show a + p0 - a = p0 by omega]; exact hf8⟩, hF⟩
                          ·
                            rw [nI_eq (by omega) (by omega)] at h158
                            refine lv_iload hx hb dd_Mo_errorBySigns_161 (lv_at hl 0 rfl) ?_
                            refine lv_if_eq (tgt := 182) hx hb dd_Mo_errorBySigns_163 (by decide) (fun h163 => ?_) (fun h163 => ?_)
                            ·
                              have hbd : ie_bad g (a + n) (a + p1 + 1) = false := ie_bad_n hsg (by omega) (Or.inr (by omega))
                              refine lv_goto (tgt := 71) hx hb dd_Mo_errorBySigns_182 (by decide) ?_
                              exact ih7 p2 d0 H locs ls (by omega) (by omega) (by omega) (by rw [hw, ie_pe_3 (by omega) h85 hbd, hsg]) hM hS (lv_sub hl [1, 3, 4, 5] rfl)
                            ·
                              exact absurd rfl h163
                        ·
                          rw [nI_eq (by omega) (by omega)] at h130
                          refine lv_aload_n hx hb dd_Mo_errorBySigns_133 rfl (lv_at hl 2 rfl) ?_
                          refine lv_iload_n hx hb dd_Mo_errorBySigns_134 rfl (lv_at hl 3 rfl) ?_
                          refine lv_iload_n hx hb dd_Mo_errorBySigns_135 rfl (lv_at hl 4 rfl) ?_
                          refine lv_iload hx hb dd_Mo_errorBySigns_136 (lv_at hl 1 rfl) ?_
                          refine lv_iconst (v := nI 1) hx hb dd_Mo_errorBySigns_138 (by decide) ?_
                          refine lv_iadd hx hb dd_Mo_errorBySigns_139 ?_
                          refine mw_topi (y := nI ((p1 + 1) + 1)) (nI_add _ _) ?_
                          refine mw_V (As := [.int (nI a), .int (nI n), .int (nI ((p1 + 1) + 1))]) (rest := []) E (cc_Mo_sign l D z (M1) mm F1 rb f k g a n (p1 + 1 + 1) wm hf2 wb hk0 hg han (by omega)) ky_Mo_sign kv_Mo_sign tw_Mo_129 hM hS wm rfl rfl rfl hl.1 rfl (Nat.le_of_ble_eq_true rfl) dd_Mo_errorBySigns_140 (by first | decide | exact ⟨by dsimp only; omega, by dsimp only; omega⟩) (by decide) (fun v M1 H locs hp hM hS => ?_)
                          obtain ⟨rfl, hq⟩ := hp
                          have hq := hq.symm
                          subst hq
                          rw [if_pos (show (p1 + 1 + 1) < n by omega)]
                          refine W.eq (g2 := F0 m 143 ls [.int (nI (g (a + (p1 + 1 + 1))))]) rfl ?_
                          have hb9 := (hg (a + (p1 + 1 + 1)) (by omega)).2
                          refine lv_bipush (v := nI 46) hx hb dd_Mo_errorBySigns_143 (by decide) ?_
                          refine lv_icmp_ne (tgt := 152) hx hb dd_Mo_errorBySigns_145 (by decide) (fun h145 => ?_) (fun h145 => ?_)
                          ·
                            rw [nI_eq (by omega) (by omega)] at h145
                            refine lv_iconst (v := nI 0) hx hb dd_Mo_errorBySigns_152 (by decide) ?_
                            refine lv_istore (lv' := [(5, .int (nI 0)), (3, .int (nI p2)), (4, .int (nI (p1 + 1))), (0, .ref mm), (1, .int (nI a)), (2, .int (nI n))]) hx hb dd_Mo_errorBySigns_153 hl (by decide) rfl (fun ls hl => ?_)
                            refine lv_iload_n hx hb dd_Mo_errorBySigns_155 rfl (lv_at hl 1 rfl) ?_
                            refine lv_iload hx hb dd_Mo_errorBySigns_156 (lv_at hl 2 rfl) ?_
                            refine lv_icmp_eq (tgt := 179) hx hb dd_Mo_errorBySigns_158 (by decide) (fun h158 => ?_) (fun h158 => ?_)
                            ·
                              rw [nI_eq (by omega) (by omega)] at h158
                              refine lv_iload hx hb dd_Mo_errorBySigns_179 (lv_at hl 2 rfl) ?_
                              refine mr_i E hr hk hM hS (by decide) (by decide) ?_ dd_Mo_errorBySigns_181
                              exact ⟨by rw [ie_by_p hsc (by omega) (hw.trans (ie_pe_2 (by omega) h85 (show ie_bad g (a + n) (a + p1 + 1) = true from ie_bad_y hsg (by omega) (fun j h1 h2 => absurd h2 (by omega)) (by omega)))), show a + p1 + 1 - a = p1 + 1 by omega], ⟨_, wm, fun j hj => by rw [hF1]; exact va_up_ne _ _ hj, ⟨_, hf8⟩, fun _ => by rw [hdp, show a + p0 - a = p0 by omega]; exact hf8⟩, hF⟩
                            ·
                              rw [nI_eq (by omega) (by omega)] at h158
                              refine lv_iload hx hb dd_Mo_errorBySigns_161 (lv_at hl 0 rfl) ?_
                              refine lv_if_eq (tgt := 182) hx hb dd_Mo_errorBySigns_163 (by decide) (fun h163 => ?_) (fun h163 => ?_)
                              ·
                                have hbd : ie_bad g (a + n) (a + p1 + 1) = false := ie_bad_n hsg (by omega) (Or.inl (fun q => h145 (by have e8 := q (a + (p1 + 1 + 1)) (by omega) (by omega); exact e8)))
                                refine lv_goto (tgt := 71) hx hb dd_Mo_errorBySigns_182 (by decide) ?_
                                exact ih7 p2 d0 H locs ls (by omega) (by omega) (by omega) (by rw [hw, ie_pe_3 (by omega) h85 hbd, hsg]) hM hS (lv_sub hl [1, 3, 4, 5] rfl)
                              ·
                                exact absurd rfl h163
                          ·
                            rw [nI_eq (by omega) (by omega)] at h145
                            refine lv_iconst (v := nI 1) hx hb dd_Mo_errorBySigns_148 (by decide) ?_
                            refine lv_goto (tgt := 153) hx hb dd_Mo_errorBySigns_149 (by decide) ?_
                            refine lv_istore (lv' := [(5, .int (nI 1)), (3, .int (nI p2)), (4, .int (nI (p1 + 1))), (0, .ref mm), (1, .int (nI a)), (2, .int (nI n))]) hx hb dd_Mo_errorBySigns_153 hl (by decide) rfl (fun ls hl => ?_)
                            refine lv_iload_n hx hb dd_Mo_errorBySigns_155 rfl (lv_at hl 1 rfl) ?_
                            refine lv_iload hx hb dd_Mo_errorBySigns_156 (lv_at hl 2 rfl) ?_
                            refine lv_icmp_eq (tgt := 179) hx hb dd_Mo_errorBySigns_158 (by decide) (fun h158 => ?_) (fun h158 => ?_)
                            ·
                              rw [nI_eq (by omega) (by omega)] at h158
                              refine lv_iload hx hb dd_Mo_errorBySigns_179 (lv_at hl 2 rfl) ?_
                              refine mr_i E hr hk hM hS (by decide) (by decide) ?_ dd_Mo_errorBySigns_181
                              exact ⟨by rw [ie_by_p hsc (by omega) (hw.trans (ie_pe_2 (by omega) h85 (show ie_bad g (a + n) (a + p1 + 1) = true from ie_bad_y hsg (by omega) (fun j h1 h2 => absurd h2 (by omega)) (by omega)))), show a + p1 + 1 - a = p1 + 1 by omega], ⟨_, wm, fun j hj => by rw [hF1]; exact va_up_ne _ _ hj, ⟨_, hf8⟩, fun _ => by rw [hdp, show a + p0 - a = p0 by omega]; exact hf8⟩, hF⟩
                            ·
                              rw [nI_eq (by omega) (by omega)] at h158
                              refine lv_iload hx hb dd_Mo_errorBySigns_161 (lv_at hl 0 rfl) ?_
                              refine lv_if_eq (tgt := 182) hx hb dd_Mo_errorBySigns_163 (by decide) (fun h163 => ?_) (fun h163 => ?_)
                              ·
                                exact absurd h163 (by decide)
                              ·
                                refine lv_aload_n hx hb dd_Mo_errorBySigns_166 rfl (lv_at hl 3 rfl) ?_
                                refine lv_iload_n hx hb dd_Mo_errorBySigns_167 rfl (lv_at hl 4 rfl) ?_
                                refine lv_iload_n hx hb dd_Mo_errorBySigns_168 rfl (lv_at hl 5 rfl) ?_
                                refine lv_iload hx hb dd_Mo_errorBySigns_169 (lv_at hl 2 rfl) ?_
                                refine mw_V (As := [.int (nI a), .int (nI n), .int (nI (p1 + 1))]) (rest := []) E (cc_Mo_sign l D z (M1) mm F1 rb f k g a n (p1 + 1) wm hf2 wb hk0 hg han (by omega)) ky_Mo_sign kv_Mo_sign tw_Mo_129 hM hS wm rfl rfl rfl hl.1 rfl (Nat.le_of_ble_eq_true rfl) dd_Mo_errorBySigns_171 (by first | decide | exact ⟨by dsimp only; omega, by dsimp only; omega⟩) (by decide) (fun v M1 H locs hp hM hS => ?_)
                                obtain ⟨rfl, hq⟩ := hp
                                have hq := hq.symm
                                subst hq
                                rw [if_pos (show (p1 + 1) < n by omega)]
                                refine W.eq (g2 := F0 m 174 ls [.int (nI (g (a + (p1 + 1))))]) rfl ?_
                                have hb9 := (hg (a + (p1 + 1)) (by omega)).2
                                refine lv_bipush (v := nI 46) hx hb dd_Mo_errorBySigns_174 (by decide) ?_
                                refine lv_icmp_ne (tgt := 182) hx hb dd_Mo_errorBySigns_176 (by decide) (fun h176 => ?_) (fun h176 => ?_)
                                ·
                                  rw [nI_eq (by omega) (by omega)] at h176
                                  have hbd : ie_bad g (a + n) (a + p1 + 1) = false := ie_bad_n hsg (by omega) (Or.inl (fun q => h176 (by have e8 := q (a + (p1 + 1)) (by omega) (by omega); exact e8)))
                                  refine lv_goto (tgt := 71) hx hb dd_Mo_errorBySigns_182 (by decide) ?_
                                  exact ih7 p2 d0 H locs ls (by omega) (by omega) (by omega) (by rw [hw, ie_pe_3 (by omega) h85 hbd, hsg]) hM hS (lv_sub hl [1, 3, 4, 5] rfl)
                                ·
                                  rw [nI_eq (by omega) (by omega)] at h176
                                  refine lv_iload hx hb dd_Mo_errorBySigns_179 (lv_at hl 2 rfl) ?_
                                  refine mr_i E hr hk hM hS (by decide) (by decide) ?_ dd_Mo_errorBySigns_181
                                  exact ⟨by rw [ie_by_p hsc (by omega) (hw.trans (ie_pe_2 (by omega) h85 (show ie_bad g (a + n) (a + p1 + 1) = true from ie_bad_y hsg (by omega) (fun j h1 h2 => if e8 : j = a + (p1 + 1) then (by rw [e8]; exact h176) else (by rw [show j = a + (p1 + 1 + 1) by omega]; exact h145)) (by omega)))), show a + p1 + 1 - a = p1 + 1 by omega], ⟨_, wm, fun j hj => by rw [hF1]; exact va_up_ne _ _ hj, ⟨_, hf8⟩, fun _ => by rw [hdp, show a + p0 - a = p0 by omega]; exact hf8⟩, hF⟩
                    have loop98 : ∀ (b9 : Nat) (p2 : Nat) (H : Heap) (locs : List Loc) (ls : Array Slot), p1 + 1 ≤ p2 → p2 + b9 = n → ie_sg g (a + n - (a + p1 + 1)) (a + p1 + 1) = ie_sg g b9 (a + p2) → mw_at D mg_cl z M1 H → va_S (mw_A z) s.heap H locs → lv_has ls 6 [(3, .int (nI p2)), (4, .int (nI (p1 + 1))), (0, .ref mm), (1, .int (nI a)), (2, .int (nI n))] → W p l e ({ frames := 2, cells := 0, slots := 0, locals := 40 } : Room) s m ([.ref mm, .int (nI a), .int (nI n)] : List Value).toArray below meth c H locs (0) (0) (MQ below (mw_Q D z (fun v M' => v = some (.int (nI (ie_by g a n))) ∧ (∃ G, M' mm = some (.inr (13, mo_l G)) ∧ (∀ j : Nat, j ≠ 8 → G j = F j) ∧ (∃ x : Int32, G 8 = .int x) ∧ (ie_sc g a n 9 0 = none → G 8 = .int (nI (ie_de g (a + 9) (a + n) - a)))) ∧ mw_fr (fun q => q = mm) M M')) ([.ref mm, .int (nI a), .int (nI n)] : List Value).toArray s 0 0 (mw_A z)) (F0 m 98 ls []) := by
                      intro b9
                      induction b9 with
                      | zero =>
                        intro p2 H locs ls hp2 hi2 hx2 hM hS hl
                        refine lv_aload_n hx hb dd_Mo_errorBySigns_98 rfl (lv_at hl 2 rfl) ?_
                        refine lv_iload_n hx hb dd_Mo_errorBySigns_99 rfl (lv_at hl 3 rfl) ?_
                        refine lv_iload_n hx hb dd_Mo_errorBySigns_100 rfl (lv_at hl 4 rfl) ?_
                        refine lv_iload_n hx hb dd_Mo_errorBySigns_101 rfl (lv_at hl 0 rfl) ?_
                        refine mw_V (As := [.int (nI a), .int (nI n), .int (nI p2)]) (rest := []) E (cc_Mo_sign l D z (M1) mm F1 rb f k g a n (p2) wm hf2 wb hk0 hg han (by omega)) ky_Mo_sign kv_Mo_sign tw_Mo_129 hM hS wm rfl rfl rfl hl.1 rfl (Nat.le_of_ble_eq_true rfl) dd_Mo_errorBySigns_102 (by first | decide | exact ⟨by dsimp only; omega, by dsimp only; omega⟩) (by decide) (fun v M1 H locs hp hM hS => ?_)
                        obtain ⟨rfl, hq⟩ := hp
                        have hq := hq.symm
                        subst hq
                        by_cases hpn : p2 < n
                        ·
                          rw [if_pos (show p2 < n by omega)]
                          refine W.eq (g2 := F0 m 105 ls [.int (nI (g (a + p2)))]) rfl ?_
                          have hb9 := (hg (a + p2) (by omega)).2
                          exfalso
                          omega
                        ·
                          rw [if_neg (show ¬ p2 < n by omega)]
                          refine W.eq (g2 := F0 m 105 ls [.int (-1)]) rfl ?_
                          refine mw_S (As := [.int (-1)]) (rest := []) E (cc_Mo_ofSegment_m l D z (M1)) ky_Mo_ofSegment kv_Mo_ofSegment tw_Mo_140 hM hS rfl hl.1 rfl (Nat.le_of_ble_eq_true rfl) dd_Mo_errorBySigns_105 (by first | decide | exact ⟨by dsimp only; omega, by dsimp only; omega⟩) (by decide) (fun v M1 H locs hp hM hS => ?_)
                          obtain ⟨rfl, hq⟩ := hp
                          have hq := hq.symm
                          subst hq
                          refine W.eq (g2 := F0 m 108 ls [.int (0)]) rfl ?_
                          refine lv_if_eq (tgt := 117) hx hb dd_Mo_errorBySigns_108 (by decide) (fun h108 => ?_) (fun h108 => ?_)
                          ·
                            exact join117 p2 H locs ls hp2 (by omega) (hx2) hM hS (lv_sub hl [0, 1, 2, 3, 4] rfl)
                          ·
                            exact absurd rfl h108
                      | succ b9 ih6 =>
                        intro p2 H locs ls hp2 hi2 hx2 hM hS hl
                        refine lv_aload_n hx hb dd_Mo_errorBySigns_98 rfl (lv_at hl 2 rfl) ?_
                        refine lv_iload_n hx hb dd_Mo_errorBySigns_99 rfl (lv_at hl 3 rfl) ?_
                        refine lv_iload_n hx hb dd_Mo_errorBySigns_100 rfl (lv_at hl 4 rfl) ?_
                        refine lv_iload_n hx hb dd_Mo_errorBySigns_101 rfl (lv_at hl 0 rfl) ?_
                        refine mw_V (As := [.int (nI a), .int (nI n), .int (nI p2)]) (rest := []) E (cc_Mo_sign l D z (M1) mm F1 rb f k g a n (p2) wm hf2 wb hk0 hg han (by omega)) ky_Mo_sign kv_Mo_sign tw_Mo_129 hM hS wm rfl rfl rfl hl.1 rfl (Nat.le_of_ble_eq_true rfl) dd_Mo_errorBySigns_102 (by first | decide | exact ⟨by dsimp only; omega, by dsimp only; omega⟩) (by decide) (fun v M1 H locs hp hM hS => ?_)
                        obtain ⟨rfl, hq⟩ := hp
                        have hq := hq.symm
                        subst hq
                        by_cases hpn : p2 < n
                        ·
                          rw [if_pos (show p2 < n by omega)]
                          refine W.eq (g2 := F0 m 105 ls [.int (nI (g (a + p2)))]) rfl ?_
                          have hb9 := (hg (a + p2) (by omega)).2
                          refine mw_S (As := [.int (nI (g (a + p2)))]) (rest := []) E (cc_Mo_ofSegment l D z (M1) (g (a + p2)) hb9) ky_Mo_ofSegment kv_Mo_ofSegment tw_Mo_140 hM hS rfl hl.1 rfl (Nat.le_of_ble_eq_true rfl) dd_Mo_errorBySigns_105 (by first | decide | exact ⟨by dsimp only; omega, by dsimp only; omega⟩) (by decide) (fun v M1 H locs hp hM hS => ?_)
                          obtain ⟨rfl, hq⟩ := hp
                          have hq := hq.symm
                          subst hq
                          refine W.eq (g2 := F0 m 108 ls [.int (zI (nc_s (g (a + p2))))]) rfl ?_
                          refine lv_if_eq (tgt := 117) hx hb dd_Mo_errorBySigns_108 (by decide) (fun h108 => ?_) (fun h108 => ?_)
                          ·
                            exact join117 p2 H locs ls hp2 (by omega) (hx2.trans (ie_sg_n (zI_0.mp h108))) hM hS (lv_sub hl [0, 1, 2, 3, 4] rfl)
                          ·
                            refine lv_iinc (k := 0) (v := nI (p2 + 1)) (lv' := [(3, .int (nI (p2 + 1))), (4, .int (nI (p1 + 1))), (0, .ref mm), (1, .int (nI a)), (2, .int (nI n))]) hx hb dd_Mo_errorBySigns_111 hl rfl (nI_1 _) (by decide) rfl (fun ls hl => ?_)
                            refine lv_goto (tgt := 98) hx hb dd_Mo_errorBySigns_114 (by decide) ?_
                            exact ih6 (p2 + 1) H locs ls (by omega) (by omega) (hx2.trans (ie_sg_y (Bool.of_not_eq_false (fun q => h108 (zI_0.mpr q))))) hM hS (lv_sub hl [0, 1, 2, 3, 4] rfl)
                        ·
                          rw [if_neg (show ¬ p2 < n by omega)]
                          refine W.eq (g2 := F0 m 105 ls [.int (-1)]) rfl ?_
                          exfalso
                          omega
                    exact loop98 (n - (p1 + 1)) (p1 + 1) H locs ls (by omega) (by omega) (by rw [show a + n - (a + p1 + 1) = n - (p1 + 1) by omega]; rfl) hM hS (lv_sub hl [0, 1, 2, 3, 4] rfl)
                  ·
                    rw [nI_eq (by omega) (by omega)] at h85
                    refine lv_iload_n hx hb dd_Mo_errorBySigns_88 rfl (lv_at hl 0 rfl) ?_
                    refine mr_i E hr hk hM hS (by decide) (by decide) ?_ dd_Mo_errorBySigns_89
                    exact ⟨by rw [ie_by_p hsc (by omega) (hw.trans (ie_pe_1 (by omega) h85)), show a + p1 - a = p1 by omega], ⟨_, wm, fun j hj => by rw [hF1]; exact va_up_ne _ _ hj, ⟨_, hf8⟩, fun _ => by rw [hdp, show a + p0 - a = p0 by omega]; exact hf8⟩, hF⟩
            exact loop71 n p0 (a + n) H locs ls (by omega) (by omega) (by omega) (by rw [hdp]) hM hS (lv_sub hl [0, 1, 2, 3] rfl)
          ·
            rw [nI_eq (by omega) (by omega)] at h66
            refine lv_iload_n hx hb dd_Mo_errorBySigns_69 rfl (lv_at hl 0 rfl) ?_
            refine mr_i E hr hk hM hS (by decide) (by decide) ?_ dd_Mo_errorBySigns_70
            exact ⟨by rw [ie_by_d hsc (by omega), h66], ⟨_, wm, fun j hj => by rw [hF1]; exact va_up_ne _ _ hj, ⟨_, hf8⟩, fun _ => by rw [hdp, show a + p0 - a = p0 by omega]; exact hf8⟩, hF⟩
        refine lv_bipush (v := nI 9) hx hb dd_Mo_errorBySigns_30 (by decide) ?_
        refine lv_istore_n (lv' := [(3, .int (nI 9)), (0, .ref mm), (1, .int (nI a)), (2, .int (nI n))]) hx hb dd_Mo_errorBySigns_32 rfl hl (by decide) rfl (fun ls hl => ?_)
        have loop33 : ∀ (e9 : Nat) (p0 : Nat) (H : Heap) (locs : List Loc) (ls : Array Slot), 9 ≤ p0 → p0 + e9 = min n 21 → ie_de g (a + 9) (a + n) = ie_dm g e9 (a + p0) → mw_at D mg_cl z M H → va_S (mw_A z) s.heap H locs → lv_has ls 6 [(3, .int (nI p0)), (0, .ref mm), (1, .int (nI a)), (2, .int (nI n))] → W p l e ({ frames := 2, cells := 0, slots := 0, locals := 40 } : Room) s m ([.ref mm, .int (nI a), .int (nI n)] : List Value).toArray below meth c H locs (0) (0) (MQ below (mw_Q D z (fun v M' => v = some (.int (nI (ie_by g a n))) ∧ (∃ G, M' mm = some (.inr (13, mo_l G)) ∧ (∀ j : Nat, j ≠ 8 → G j = F j) ∧ (∃ x : Int32, G 8 = .int x) ∧ (ie_sc g a n 9 0 = none → G 8 = .int (nI (ie_de g (a + 9) (a + n) - a)))) ∧ mw_fr (fun q => q = mm) M M')) ([.ref mm, .int (nI a), .int (nI n)] : List Value).toArray s 0 0 (mw_A z)) (F0 m 33 ls []) := by
          intro e9
          induction e9 with
          | zero =>
            intro p0 H locs ls hp0 hi hv hM hS hl
            refine lv_iload_n hx hb dd_Mo_errorBySigns_33 rfl (lv_at hl 0 rfl) ?_
            refine lv_bipush (v := nI 21) hx hb dd_Mo_errorBySigns_34 (by decide) ?_
            refine lv_icmp_ge (tgt := 58) hx hb dd_Mo_errorBySigns_36 (by decide) (fun h36 => ?_) (fun h36 => ?_)
            ·
              rw [nI_leI (by omega) (by omega)] at h36
              exact join58 p0 H locs ls hp0 (by omega) (hv) hM hS (lv_sub hl [0, 1, 2, 3] rfl)
            ·
              rw [nI_leI (by omega) (by omega)] at h36
              refine lv_aload_n hx hb dd_Mo_errorBySigns_39 rfl (lv_at hl 1 rfl) ?_
              refine lv_iload_n hx hb dd_Mo_errorBySigns_40 rfl (lv_at hl 2 rfl) ?_
              refine lv_iload_n hx hb dd_Mo_errorBySigns_41 rfl (lv_at hl 3 rfl) ?_
              refine lv_iload_n hx hb dd_Mo_errorBySigns_42 rfl (lv_at hl 0 rfl) ?_
              refine mw_V (As := [.int (nI a), .int (nI n), .int (nI p0)]) (rest := []) E (cc_Mo_sign l D z (M) mm F rb f k g a n (p0) wm hf2 wb hk0 hg han (by omega)) ky_Mo_sign kv_Mo_sign tw_Mo_129 hM hS wm rfl rfl rfl hl.1 rfl (Nat.le_of_ble_eq_true rfl) dd_Mo_errorBySigns_43 (by first | decide | exact ⟨by dsimp only; omega, by dsimp only; omega⟩) (by decide) (fun v M1 H locs hp hM hS => ?_)
              obtain ⟨rfl, hq⟩ := hp
              have hq := hq.symm
              subst hq
              by_cases hpn : p0 < n
              ·
                rw [if_pos (show p0 < n by omega)]
                refine W.eq (g2 := F0 m 46 ls [.int (nI (g (a + p0)))]) rfl ?_
                have hb9 := (hg (a + p0) (by omega)).2
                exfalso
                omega
              ·
                rw [if_neg (show ¬ p0 < n by omega)]
                refine W.eq (g2 := F0 m 46 ls [.int (-1)]) rfl ?_
                refine mw_S (As := [.int (-1)]) (rest := []) E (cc_Mo_ofDomain_m l D z (M)) ky_Mo_ofDomain kv_Mo_ofDomain tw_Mo_125 hM hS rfl hl.1 rfl (Nat.le_of_ble_eq_true rfl) dd_Mo_errorBySigns_46 (by first | decide | exact ⟨by dsimp only; omega, by dsimp only; omega⟩) (by decide) (fun v M1 H locs hp hM hS => ?_)
                obtain ⟨rfl, hq⟩ := hp
                have hq := hq.symm
                subst hq
                refine W.eq (g2 := F0 m 49 ls [.int (0)]) rfl ?_
                refine lv_if_eq (tgt := 58) hx hb dd_Mo_errorBySigns_49 (by decide) (fun h49 => ?_) (fun h49 => ?_)
                ·
                  exact join58 p0 H locs ls hp0 (by omega) (hv) hM hS (lv_sub hl [0, 1, 2, 3] rfl)
                ·
                  exact absurd rfl h49
          | succ e9 ih8 =>
            intro p0 H locs ls hp0 hi hv hM hS hl
            refine lv_iload_n hx hb dd_Mo_errorBySigns_33 rfl (lv_at hl 0 rfl) ?_
            refine lv_bipush (v := nI 21) hx hb dd_Mo_errorBySigns_34 (by decide) ?_
            refine lv_icmp_ge (tgt := 58) hx hb dd_Mo_errorBySigns_36 (by decide) (fun h36 => ?_) (fun h36 => ?_)
            ·
              rw [nI_leI (by omega) (by omega)] at h36
              omega
            ·
              rw [nI_leI (by omega) (by omega)] at h36
              refine lv_aload_n hx hb dd_Mo_errorBySigns_39 rfl (lv_at hl 1 rfl) ?_
              refine lv_iload_n hx hb dd_Mo_errorBySigns_40 rfl (lv_at hl 2 rfl) ?_
              refine lv_iload_n hx hb dd_Mo_errorBySigns_41 rfl (lv_at hl 3 rfl) ?_
              refine lv_iload_n hx hb dd_Mo_errorBySigns_42 rfl (lv_at hl 0 rfl) ?_
              refine mw_V (As := [.int (nI a), .int (nI n), .int (nI p0)]) (rest := []) E (cc_Mo_sign l D z (M) mm F rb f k g a n (p0) wm hf2 wb hk0 hg han (by omega)) ky_Mo_sign kv_Mo_sign tw_Mo_129 hM hS wm rfl rfl rfl hl.1 rfl (Nat.le_of_ble_eq_true rfl) dd_Mo_errorBySigns_43 (by first | decide | exact ⟨by dsimp only; omega, by dsimp only; omega⟩) (by decide) (fun v M1 H locs hp hM hS => ?_)
              obtain ⟨rfl, hq⟩ := hp
              have hq := hq.symm
              subst hq
              by_cases hpn : p0 < n
              ·
                rw [if_pos (show p0 < n by omega)]
                refine W.eq (g2 := F0 m 46 ls [.int (nI (g (a + p0)))]) rfl ?_
                have hb9 := (hg (a + p0) (by omega)).2
                refine mw_S (As := [.int (nI (g (a + p0)))]) (rest := []) E (cc_Mo_ofDomain l D z (M) (g (a + p0)) hb9) ky_Mo_ofDomain kv_Mo_ofDomain tw_Mo_125 hM hS rfl hl.1 rfl (Nat.le_of_ble_eq_true rfl) dd_Mo_errorBySigns_46 (by first | decide | exact ⟨by dsimp only; omega, by dsimp only; omega⟩) (by decide) (fun v M1 H locs hp hM hS => ?_)
                obtain ⟨rfl, hq⟩ := hp
                have hq := hq.symm
                subst hq
                refine W.eq (g2 := F0 m 49 ls [.int (zI (nc_d (g (a + p0))))]) rfl ?_
                refine lv_if_eq (tgt := 58) hx hb dd_Mo_errorBySigns_49 (by decide) (fun h49 => ?_) (fun h49 => ?_)
                ·
                  exact join58 p0 H locs ls hp0 (by omega) (hv.trans (ie_dm_n (zI_0.mp h49))) hM hS (lv_sub hl [0, 1, 2, 3] rfl)
                ·
                  refine lv_iinc (k := 0) (v := nI (p0 + 1)) (lv' := [(3, .int (nI (p0 + 1))), (0, .ref mm), (1, .int (nI a)), (2, .int (nI n))]) hx hb dd_Mo_errorBySigns_52 hl rfl (nI_1 _) (by decide) rfl (fun ls hl => ?_)
                  refine lv_goto (tgt := 33) hx hb dd_Mo_errorBySigns_55 (by decide) ?_
                  exact ih8 (p0 + 1) H locs ls (by omega) (by omega) (hv.trans (ie_dm_y (Bool.of_not_eq_false (fun q => h49 (zI_0.mpr q))))) hM hS (lv_sub hl [0, 1, 2, 3] rfl)
              ·
                rw [if_neg (show ¬ p0 < n by omega)]
                refine W.eq (g2 := F0 m 46 ls [.int (-1)]) rfl ?_
                exfalso
                omega
        exact loop33 (min n 21 - 9) 9 H locs ls (by omega) (by omega) (by unfold ie_de; rw [show min (a + n) (a + 9 + 12) - (a + 9) = min n 21 - 9 by omega]) hM hS (lv_sub hl [0, 1, 2, 3] rfl)
      ·
        rw [nI_leI (by omega) (by omega)] at h5
        omega
    | succ d9 ih9 =>
      intro i H locs ls hi hu hM hS hl
      refine lv_iload_n hx hb dd_Mo_errorBySigns_2 rfl (lv_at hl 0 rfl) ?_
      refine lv_bipush (v := nI 9) hx hb dd_Mo_errorBySigns_3 (by decide) ?_
      refine lv_icmp_ge (tgt := 30) hx hb dd_Mo_errorBySigns_5 (by decide) (fun h5 => ?_) (fun h5 => ?_)
      ·
        rw [nI_leI (by omega) (by omega)] at h5
        omega
      ·
        rw [nI_leI (by omega) (by omega)] at h5
        refine lv_aload_n hx hb dd_Mo_errorBySigns_8 rfl (lv_at hl 1 rfl) ?_
        refine lv_iload_n hx hb dd_Mo_errorBySigns_9 rfl (lv_at hl 2 rfl) ?_
        refine lv_iload_n hx hb dd_Mo_errorBySigns_10 rfl (lv_at hl 3 rfl) ?_
        refine lv_iload_n hx hb dd_Mo_errorBySigns_11 rfl (lv_at hl 0 rfl) ?_
        refine mw_V (As := [.int (nI a), .int (nI n), .int (nI i)]) (rest := []) E (cc_Mo_sign l D z (M) mm F rb f k g a n (i) wm hf2 wb hk0 hg han (by omega)) ky_Mo_sign kv_Mo_sign tw_Mo_129 hM hS wm rfl rfl rfl hl.1 rfl (Nat.le_of_ble_eq_true rfl) dd_Mo_errorBySigns_12 (by first | decide | exact ⟨by dsimp only; omega, by dsimp only; omega⟩) (by decide) (fun v M1 H locs hp hM hS => ?_)
        obtain ⟨rfl, hq⟩ := hp
        have hq := hq.symm
        subst hq
        by_cases hpn : i < n
        ·
          rw [if_pos (show i < n by omega)]
          refine W.eq (g2 := F0 m 15 ls [.int (nI (g (a + i)))]) rfl ?_
          have hb9 := (hg (a + i) (by omega)).2
          have hc9 := ie_ch_lt i
          refine lv_iload_n hx hb dd_Mo_errorBySigns_15 rfl (lv_at hl 0 rfl) ?_
          refine mw_S (As := [.int (nI i)]) (rest := [.int (nI (g (a + i)))]) E (cc_Mo_scheme l D z (M) i (by omega)) ky_Mo_scheme kv_Mo_scheme tw_Mo_133 hM hS rfl hl.1 rfl (Nat.le_of_ble_eq_true rfl) dd_Mo_errorBySigns_16 (by first | decide | exact ⟨by dsimp only; omega, by dsimp only; omega⟩) (by decide) (fun v M1 H locs hp hM hS => ?_)
          obtain ⟨rfl, hq⟩ := hp
          have hq := hq.symm
          subst hq
          refine W.eq (g2 := F0 m 19 ls [.int (nI (ie_ch i)), .int (nI (g (a + i)))]) rfl ?_
          refine lv_icmp_eq (tgt := 24) hx hb dd_Mo_errorBySigns_19 (by decide) (fun h19 => ?_) (fun h19 => ?_)
          ·
            rw [nI_eq (by omega) (by omega)] at h19
            refine lv_iinc (k := 0) (v := nI (i + 1)) (lv' := [(3, .int (nI (i + 1))), (0, .ref mm), (1, .int (nI a)), (2, .int (nI n))]) hx hb dd_Mo_errorBySigns_24 hl rfl (nI_1 _) (by decide) rfl (fun ls hl => ?_)
            refine lv_goto (tgt := 2) hx hb dd_Mo_errorBySigns_27 (by decide) ?_
            exact ih9 (i + 1) H locs ls (by omega) (hu.trans (ie_sc_n (by omega) (by omega))) hM hS (lv_sub hl [0, 1, 2, 3] rfl)
          ·
            rw [nI_eq (by omega) (by omega)] at h19
            refine lv_iload_n hx hb dd_Mo_errorBySigns_22 rfl (lv_at hl 0 rfl) ?_
            refine mr_i E hr hk hM hS (by decide) (by decide) ?_ dd_Mo_errorBySigns_23
            exact ⟨by unfold ie_by; rw [hu, ie_sc_y (Or.inr h19)], ⟨F, wm, fun _ _ => rfl, h8x, fun q => by rw [hu, ie_sc_y (Or.inr h19)] at q; cases q⟩, hF⟩
        ·
          rw [if_neg (show ¬ i < n by omega)]
          refine W.eq (g2 := F0 m 15 ls [.int (-1)]) rfl ?_
          have hc9 := ie_ch_lt i
          refine lv_iload_n hx hb dd_Mo_errorBySigns_15 rfl (lv_at hl 0 rfl) ?_
          refine mw_S (As := [.int (nI i)]) (rest := [.int (-1)]) E (cc_Mo_scheme l D z (M) i (by omega)) ky_Mo_scheme kv_Mo_scheme tw_Mo_133 hM hS rfl hl.1 rfl (Nat.le_of_ble_eq_true rfl) dd_Mo_errorBySigns_16 (by first | decide | exact ⟨by dsimp only; omega, by dsimp only; omega⟩) (by decide) (fun v M1 H locs hp hM hS => ?_)
          obtain ⟨rfl, hq⟩ := hp
          have hq := hq.symm
          subst hq
          refine W.eq (g2 := F0 m 19 ls [.int (nI (ie_ch i)), .int (-1)]) rfl ?_
          refine lv_icmp_eq (tgt := 24) hx hb dd_Mo_errorBySigns_19 (by decide) (fun h19 => ?_) (fun h19 => ?_)
          ·
            exact absurd h19 (nI_nm1 (by omega))
          ·
            refine lv_iload_n hx hb dd_Mo_errorBySigns_22 rfl (lv_at hl 0 rfl) ?_
            refine mr_i E hr hk hM hS (by decide) (by decide) ?_ dd_Mo_errorBySigns_23
            exact ⟨by unfold ie_by; rw [hu, ie_sc_y (Or.inl (by omega))], ⟨F, wm, fun _ _ => rfl, h8x, fun q => by rw [hu, ie_sc_y (Or.inl (by omega))] at q; cases q⟩, hF⟩
  exact loop2 9 0 s.heap [] ls (by omega) rfl hM hS (lv_sub hl [0, 1, 2, 3] rfl)
theorem ie_by_le (g : Nat → Nat) (a n : Nat) : ie_by g a n ≤ n + 1 := by
  unfold ie_by
  cases hs : ie_sc g a n 9 0 with
  | some i => exact Nat.le_trans (ie_sc_n2 9 0 i hs (Nat.zero_le _)) (Nat.le_succ _)
  | none =>
    show (if _ then _ else _) ≤ _
    have h9 := ie_sc_len hs
    split
    · omega
    · split
      · rename_i q hq
        have h8 := ie_pe_le _ _ _ hq
        exact Nat.le_trans (Nat.sub_le_of_le_add (by omega : q ≤ n + a)) (Nat.le_succ n)
      · exact Nat.le_refl _
theorem cc_Mo_idError (l : Launch) (D : va_G) (z : Nat) (M : mw_M) (mm : Nat) (F : Nat → Value) (rb : Nat) (f : Nat → Int32) (k : Nat) (g : Nat → Nat) (a n : Nat) (wm : M mm = some (.inr (13, mo_l F))) (hf2 : F 2 = .ref rb) (wb : M rb = some (.inl (D.1 100, 100, .inl f))) (hk0 : k ≤ 100) (hg : ∀ j : Nat, j < k → f j = nI (g j) ∧ g j < 256) (han : a + n ≤ k) (hmr : mm ≠ rb) (h8x : ∃ x : Int32, F 8 = .int x) : mw_C l yy_Mo_idError bb_Mo_idError 5 (Option.some Jvm.ClassFile.FieldType.int) 3 65 0 0 D z M [.ref mm, .int (nI a), .int (nI n)] (fun v M' => v = some (.int (match ie_err g a n with | some i => nI i | none => -1)) ∧ (∃ G, M' mm = some (.inr (13, mo_l G)) ∧ (∀ j : Nat, j ≠ 8 → G j = F j) ∧ (∃ x : Int32, G 8 = .int x) ∧ (ie_sc g a n 9 0 = none → G 8 = .int (nI (ie_de g (a + 9) (a + n) - a)))) ∧ mw_fr (fun q => q = mm) M M') := by
  refine mw_of (by decide) (Nat.le_of_ble_eq_true rfl) ?_
  intro p e s m below meth c ls E hr hk hnm hM hl
  have hx := E.x
  have hb := E.b
  have E : mw_E p m c bb_Mo_idError 5 s _ D z "IdentityIssuerModel" := E
  have hl : lv_has ls 5 [(0, .ref mm), (1, .int (nI a)), (2, .int (nI n))] := hl
  have hS : va_S (mw_A z) s.heap s.heap [] := va_S.rf
  have hF : mw_fr (fun q => q = mm) M M := mw_fr.rf
  refine lv_aload_n hx hb dd_Mo_idError_0 rfl (lv_at hl 0 rfl) ?_
  refine lv_iload_n hx hb dd_Mo_idError_1 rfl (lv_at hl 1 rfl) ?_
  refine lv_iload_n hx hb dd_Mo_idError_2 rfl (lv_at hl 2 rfl) ?_
  refine mw_V (As := [.int (nI a), .int (nI n)]) (rest := []) E (cc_Mo_errorBySigns l D z (M) mm F rb f k g a n wm hf2 wb hk0 hg han hmr h8x) ky_Mo_errorBySigns kv_Mo_errorBySigns tw_Mo_143 hM hS wm rfl rfl rfl hl.1 rfl (Nat.le_of_ble_eq_true rfl) dd_Mo_idError_3 (by first | decide | exact ⟨by dsimp only; omega, by dsimp only; omega⟩) (by decide) (fun v M1 H locs hp hM hS => ?_)
  obtain ⟨rfl, hG, hF⟩ := hp
  have hby := ie_by_le g a n
  refine W.eq (g2 := F0 m 6 ls [.int (nI (ie_by g a n))]) rfl ?_
  refine lv_istore_n (lv' := [(3, .int (nI (ie_by g a n))), (0, .ref mm), (1, .int (nI a)), (2, .int (nI n))]) hx hb dd_Mo_idError_6 rfl hl (by decide) rfl (fun ls hl => ?_)
  refine lv_iload_n hx hb dd_Mo_idError_7 rfl (lv_at hl 3 rfl) ?_
  refine lv_bipush (v := nI 40) hx hb dd_Mo_idError_8 (by decide) ?_
  refine lv_icmp_le (tgt := 24) hx hb dd_Mo_idError_10 (by decide) (fun h10 => ?_) (fun h10 => ?_)
  ·
    rw [nI_leI (by omega) (by omega)] at h10
    refine lv_iload_n hx hb dd_Mo_idError_24 rfl (lv_at hl 0 rfl) ?_
    refine lv_istore (lv' := [(4, .int (nI (ie_by g a n))), (3, .int (nI (ie_by g a n))), (0, .ref mm), (1, .int (nI a)), (2, .int (nI n))]) hx hb dd_Mo_idError_25 hl (by decide) rfl (fun ls hl => ?_)
    refine lv_iload hx hb dd_Mo_idError_27 (lv_at hl 0 rfl) ?_
    refine lv_iload_n hx hb dd_Mo_idError_29 rfl (lv_at hl 4 rfl) ?_
    refine lv_icmp_le (tgt := 37) hx hb dd_Mo_idError_30 (by decide) (fun h30 => ?_) (fun h30 => ?_)
    ·
      rw [nI_leI (by omega) (by omega)] at h30
      refine lv_iload hx hb dd_Mo_idError_37 (lv_at hl 0 rfl) ?_
      refine mr_i E hr hk hM hS (by decide) (by decide) ?_ dd_Mo_idError_39
      exact ⟨by rw [ie_err_s rfl (by omega) (by omega)], hG, hF⟩
    ·
      rw [nI_leI (by omega) (by omega)] at h30
      refine lv_iconst (v := -1) hx hb dd_Mo_idError_33 (by decide) ?_
      refine lv_goto (tgt := 39) hx hb dd_Mo_idError_34 (by decide) ?_
      refine mr_i E hr hk hM hS (by decide) (by decide) ?_ dd_Mo_idError_39
      exact ⟨by rw [ie_err_n (show ie_by g a n = n + 1 by omega) (by omega)], hG, hF⟩
  ·
    rw [nI_leI (by omega) (by omega)] at h10
    refine lv_iload_n hx hb dd_Mo_idError_13 rfl (lv_at hl 0 rfl) ?_
    refine lv_bipush (v := nI 40) hx hb dd_Mo_idError_14 (by decide) ?_
    refine lv_icmp_le (tgt := 24) hx hb dd_Mo_idError_16 (by decide) (fun h16 => ?_) (fun h16 => ?_)
    ·
      rw [nI_leI (by omega) (by omega)] at h16
      refine lv_iload_n hx hb dd_Mo_idError_24 rfl (lv_at hl 0 rfl) ?_
      refine lv_istore (lv' := [(4, .int (nI (ie_by g a n))), (3, .int (nI (ie_by g a n))), (0, .ref mm), (1, .int (nI a)), (2, .int (nI n))]) hx hb dd_Mo_idError_25 hl (by decide) rfl (fun ls hl => ?_)
      refine lv_iload hx hb dd_Mo_idError_27 (lv_at hl 0 rfl) ?_
      refine lv_iload_n hx hb dd_Mo_idError_29 rfl (lv_at hl 4 rfl) ?_
      refine lv_icmp_le (tgt := 37) hx hb dd_Mo_idError_30 (by decide) (fun h30 => ?_) (fun h30 => ?_)
      ·
        rw [nI_leI (by omega) (by omega)] at h30
        refine lv_iload hx hb dd_Mo_idError_37 (lv_at hl 0 rfl) ?_
        refine mr_i E hr hk hM hS (by decide) (by decide) ?_ dd_Mo_idError_39
        exact ⟨by rw [ie_err_s rfl (by omega) (by omega)], hG, hF⟩
      ·
        rw [nI_leI (by omega) (by omega)] at h30
        refine lv_iconst (v := -1) hx hb dd_Mo_idError_33 (by decide) ?_
        refine lv_goto (tgt := 39) hx hb dd_Mo_idError_34 (by decide) ?_
        refine mr_i E hr hk hM hS (by decide) (by decide) ?_ dd_Mo_idError_39
        exact ⟨by rw [ie_err_n (show ie_by g a n = n + 1 by omega) (by omega)], hG, hF⟩
    ·
      rw [nI_leI (by omega) (by omega)] at h16
      refine lv_bipush (v := nI 40) hx hb dd_Mo_idError_19 (by decide) ?_
      refine lv_goto (tgt := 25) hx hb dd_Mo_idError_21 (by decide) ?_
      refine lv_istore (lv' := [(4, .int (nI 40)), (3, .int (nI (ie_by g a n))), (0, .ref mm), (1, .int (nI a)), (2, .int (nI n))]) hx hb dd_Mo_idError_25 hl (by decide) rfl (fun ls hl => ?_)
      refine lv_iload hx hb dd_Mo_idError_27 (lv_at hl 0 rfl) ?_
      refine lv_iload_n hx hb dd_Mo_idError_29 rfl (lv_at hl 4 rfl) ?_
      refine lv_icmp_le (tgt := 37) hx hb dd_Mo_idError_30 (by decide) (fun h30 => ?_) (fun h30 => ?_)
      ·
        rw [nI_leI (by omega) (by omega)] at h30
        refine lv_iload hx hb dd_Mo_idError_37 (lv_at hl 0 rfl) ?_
        refine mr_i E hr hk hM hS (by decide) (by decide) ?_ dd_Mo_idError_39
        exact ⟨by rw [ie_err_l (by omega) (by omega)], hG, hF⟩
      ·
        rw [nI_leI (by omega) (by omega)] at h30
        refine lv_iconst (v := -1) hx hb dd_Mo_idError_33 (by decide) ?_
        refine lv_goto (tgt := 39) hx hb dd_Mo_idError_34 (by decide) ?_
        refine mr_i E hr hk hM hS (by decide) (by decide) ?_ dd_Mo_idError_39
        exact ⟨by rw [ie_err_n (show ie_by g a n = n + 1 by omega) (by omega)], hG, hF⟩
